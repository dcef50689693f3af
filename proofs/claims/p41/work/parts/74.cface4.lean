set_option maxHeartbeats 4000000 in
set_option maxRecDepth 100000 in
theorem c_X9_addCohort (l : Launch) (hst : l.stackTraces = false) (G : GT) (A : Nat → Prop) (hAg : ∀ q, A q → gA G q) (b : Nat) (σ : Sg) (hI : MI σ) (hJ : MJ σ) (h0 : σ.1 0 0 = 0) (fa la : Int32) : xM l yX9_addCohort cX9_addCohort 3 ((Option.some FieldType.int)) 8 2 310 G [.ref b, .int fa, .int la] (fun H => CB G A b σ H ∧ ∀ q, H.size ≤ q → A q) (fB G A b (fAddCohort σ fa la)) (fX ["java/lang/IllegalArgumentException", "java/lang/IllegalStateException"] G A b (fAddCohort σ fa la)) A := by
  refine mk_x (by decide) (Nat.le_of_ble_eq_true rfl) ?_
  intro p e s m args below meth c X ls hl g0 F hno
  obtain ⟨⟨g, ad, hb0, ⟨hC, hgr, hwt, hsb⟩, F⟩, hfr⟩ := F
  subst hb0
  have hI0 := hI.1
  obtain ⟨b1, b2, b3, b4, b5, b6, b7⟩ := hI0.1
  obtain ⟨b8, b9, b10⟩ := hI.2.1
  have hone := hJ.2.2.2.2.2
  have hK := g0.1
  have hS : va_S A s.heap s.heap [] := va_S.rf
  have hLo := lstN_ok (g := g) hI
  have hl : lv_has ls 3 [(0, .ref (ad (0, 0))), (1, .int fa), (2, .int la)] := hl
  show Wx p l e 8 2 310 s m args below meth c (fB G A (ad (0, 0)) (fAddCohort σ fa la)) (fX ["java/lang/IllegalArgumentException", "java/lang/IllegalStateException"] G A (ad (0, 0)) (fAddCohort σ fa la)) A s.heap [] 0 0 0 ls []
  refine lv_iload_n X.ex X.co dX9_addCohort_0 rfl (lv_at hl 1 rfl) ?_
  refine lv_if_lt (tgt := 16) X.ex X.co dX9_addCohort_1 (by decide) (fun c_1 => ?_) (fun c_1 => ?_)
  · exact x_throw X hst g0 hAg hS hno (cls := "java/lang/IllegalArgumentException") (text := "a day is out of range") (by decide) m_274 m_13 ok_IAE (tb_2 (List.mem_of_getElem? (i := 122) (by decide +kernel))) hl.1 dX9_addCohort_16 dX9_addCohort_19 dX9_addCohort_20 dX9_addCohort_22 dX9_addCohort_25 (Nat.le_of_ble_eq_true rfl) (by omega) (by omega) (fun H1 hz hq => fX_err (k := 0) (by show (fAddCohort σ fa la) = err σ 1; simp only [fAddCohort]; rw [if_neg (fun z => by obtain ⟨z1, z2, z3⟩ := coh_ok.mp z; first | exact z1 (by assumption) | exact z2 (by assumption) | exact z3 (lt_of_nle (by assumption)))]) rfl (CB_old (⟨g, ad, rfl, ⟨hC, hgr, hwt, hsb⟩, F⟩ : CB G A (ad (0, 0)) σ _) hq))
  · refine lv_iload_n X.ex X.co dX9_addCohort_4 rfl (lv_at hl 2 rfl) ?_
    refine lv_iload_n X.ex X.co dX9_addCohort_5 rfl (lv_at hl 1 rfl) ?_
    refine lv_icmp_lt (tgt := 16) X.ex X.co dX9_addCohort_6 (by decide) (fun c_2 => ?_) (fun c_2 => ?_)
    · exact x_throw X hst g0 hAg hS hno (cls := "java/lang/IllegalArgumentException") (text := "a day is out of range") (by decide) m_274 m_13 ok_IAE (tb_2 (List.mem_of_getElem? (i := 122) (by decide +kernel))) hl.1 dX9_addCohort_16 dX9_addCohort_19 dX9_addCohort_20 dX9_addCohort_22 dX9_addCohort_25 (Nat.le_of_ble_eq_true rfl) (by omega) (by omega) (fun H1 hz hq => fX_err (k := 0) (by show (fAddCohort σ fa la) = err σ 1; simp only [fAddCohort]; rw [if_neg (fun z => by obtain ⟨z1, z2, z3⟩ := coh_ok.mp z; first | exact z1 (by assumption) | exact z2 (by assumption) | exact z3 (lt_of_nle (by assumption)))]) rfl (CB_old (⟨g, ad, rfl, ⟨hC, hgr, hwt, hsb⟩, F⟩ : CB G A (ad (0, 0)) σ _) hq))
    · refine lv_iload_n X.ex X.co dX9_addCohort_9 rfl (lv_at hl 2 rfl) ?_
      refine lv_sipush (v := 999) X.ex X.co dX9_addCohort_10 (by decide) ?_
      refine lv_icmp_le (tgt := 26) X.ex X.co dX9_addCohort_13 (by decide) (fun c_3 => ?_) (fun c_3 => ?_)
      · refine lv_aload_n X.ex X.co dX9_addCohort_26 rfl (lv_at hl 0 rfl) ?_
        refine f_get X hK (cw_be F) okX9 rfl 0 (by decide) m_106 (fun _ h => h) (v := .ref (ad (1, 0))) rfl dX9_addCohort_27 ?_
        refine q_rV X ce_Jx4a65c_size_8abf5 m_144 (c_Jx4a65c_size_8abf5 l G (ad (1, 0)) (g.2.1 (0)) (lrow G g ad (0)) (nCo σ)) (g0.step hS hAg) (cw_lsn F (k := 0) (n := nCo σ) (Or.inl (by omega)) rng_len) (cw_lsn F (k := 0) (n := nCo σ) (Or.inl (by omega)) rng_len) rfl (by decide) rfl hl.1 rfl (Nat.le_of_ble_eq_true rfl) dX9_addCohort_30 (by omega) (by omega) ?_
        refine lv_iconst (v := 4) X.ex X.co dX9_addCohort_33 (by decide) ?_
        refine n_cmp_lt X (x := nCo σ) (y := 4) (tgt := 47) (by omega) (by omega) dX9_addCohort_34 (by decide) (fun c_4 => ?_) (fun c_4 => ?_)
        · refine lv_aload_n X.ex X.co dX9_addCohort_47 rfl (lv_at hl 0 rfl) ?_
          refine f_get X hK (cw_be F) okX9 rfl 0 (by decide) m_106 (fun _ h => h) (v := .ref (ad (1, 0))) rfl dX9_addCohort_48 ?_
          refine f_new X hK F hS hfr (3, nCo σ) (show ¬ nCo σ < nCo σ by omega) (ci := 7) okX2 rfl m_362 m_363 m_15 [.int 0, .int 0] (by intro j hj; match j, hj with | 0, _ => rfl | 1, _ => rfl | n + 2, h => exact absurd h (by omega)) (by show _ ≤ 2; omega) (by show _ ≤ 310; omega) dX9_addCohort_51 (fun q_5 H F hS => ?_)
          have F : fw G.1 (fun j => (cLv g σ) j ∨ j = (3, nCo σ)) (iup ad (3, nCo σ) q_5) (iup (cEnL G g ad σ (lstN σ)) (3, nCo σ) (.inr (7, [.int 0, .int 0]))) A H := F
          have Fc : cw G g A ad σ H := cw_drop (t := (3, nCo σ)) (show ¬ nCo σ < nCo σ by omega) F
          refine lv_dup X.ex X.co dX9_addCohort_54 rfl ?_
          refine lv_iload_n X.ex X.co dX9_addCohort_55 rfl (lv_at hl 1 rfl) ?_
          refine lv_iload_n X.ex X.co dX9_addCohort_56 rfl (lv_at hl 2 rfl) ?_
          refine q_vI X ce_X2_init m_364 (c_X2_init l G A hAg (fun j => (cLv g σ) j ∨ j = (3, nCo σ)) (iup ad (3, nCo σ) q_5) (iup (cEnL G g ad σ (lstN σ)) (3, nCo σ) (.inr (7, [.int 0, .int 0]))) (3, nCo σ) (Or.inr rfl) q_5 (iup_s _ _ _) (iup_s _ _ _) fa la) (g0.step hS hAg) F (by decide) rfl hl.1 rfl (Nat.le_of_ble_eq_true rfl) dX9_addCohort_57 (by show _ ≤ 2; omega) (by show _ ≤ 310; omega) hS (fun _ h => h) (fun H locs F hz hk9 hS => ?_)
          rw [iup_iup] at F
          have F : fw G.1 (fun j => (cLv g σ) j ∨ j = (3, nCo σ)) (iup ad (3, nCo σ) q_5) (iup (cEnL G g ad σ (lstN σ)) (3, nCo σ) (.inr (7, [.int fa, .int la]))) A H := F
          have Fc : cw G g A ad σ H := cw_drop (t := (3, nCo σ)) (show ¬ nCo σ < nCo σ by omega) F
          have F : cwL G g A (iup ad (3, nCo σ) q_5) (sN (sV (sV σ 3 (nCo σ) fa) 4 (nCo σ) la) 2 0 (nCo σ + 1)) (lstN σ) H := push3 hI0 hLo F
          have hLo : okL g (sN (sV (sV σ 3 (nCo σ) fa) 4 (nCo σ) la) 2 0 (nCo σ + 1)) (lstN σ) := okL_mono hLo ⟨Nat.le_succ _, Nat.le_refl _, Nat.le_refl _, Nat.le_refl _, Nat.le_refl _, Nat.le_refl _, Nat.le_refl _⟩ (fun k hk => Or.inl hk)
          have hC : CLL g (sN (sV (sV σ 3 (nCo σ) fa) 4 (nCo σ) la) 2 0 (nCo σ + 1)) (lstN σ) := hC
          have hn_6 : ((lstN σ) (0)).length = nCo σ := rng_len
          have ha_7 := addS_le (n := ((lstN σ) (0)).length) (hC (0) (Or.inl (by omega))).2
          refine q_eV X ce_Jx4a65c_add_9ea2d m_377 (c_addLv l G A hAg g (iup ad (3, nCo σ) q_5) (sN (sV (sV σ 3 (nCo σ) fa) 4 (nCo σ) la) 2 0 (nCo σ + 1)) (lstN σ) hC hLo (0) (Or.inl (by omega)) (3, nCo σ) (show nCo σ < nCo σ + 1 by omega) (Nat.le_of_ble_eq_true rfl) (Nat.le_of_ble_eq_true rfl) (by omega) _ _ rfl (iup_s _ _ _)) (g0.step hS hAg) ⟨F, (fun q hq => hfr q (Nat.le_trans hS.1 hq))⟩ (cw_ls F (k := 0) (Or.inl (by omega))) rfl (by decide) rfl hl.1 rfl (Nat.le_of_ble_eq_true rfl) dX9_addCohort_60 (by show _ ≤ 2; omega) (by show _ ≤ 310; omega) hS (fun _ h => h) (fun H locs F hz hk9 hS => ?_)
          obtain ⟨q_8, F⟩ := F
          have hC : CLL (gls g (0) (ncap ((lstN σ) (0)).length (g.1 (0))) (g.2.1 (0) + 1)) (sN (sV (sV σ 3 (nCo σ) fa) 4 (nCo σ) la) 2 0 (nCo σ + 1)) (upL (lstN σ) (0) ((lstN σ) (0) ++ [(3, nCo σ)])) := CLL_push hC (Or.inl (by omega)) (by omega)
          have hLo : okL (gls g (0) (ncap ((lstN σ) (0)).length (g.1 (0))) (g.2.1 (0) + 1)) (sN (sV (sV σ 3 (nCo σ) fa) 4 (nCo σ) la) 2 0 (nCo σ + 1)) (upL (lstN σ) (0) ((lstN σ) (0) ++ [(3, nCo σ)])) := okL_push hLo (Or.inl (by omega)) (show nCo σ < nCo σ + 1 by omega) (Nat.le_of_ble_eq_true rfl) (Nat.le_of_ble_eq_true rfl)
          refine lv_pop X.ex X.co dX9_addCohort_63 rfl ?_
          refine lv_aload_n X.ex X.co dX9_addCohort_64 rfl (lv_at hl 0 rfl) ?_
          refine f_get X hK (show va_at G.1 vwCl (ad (0, 0), eBe (iup (iup ad (3, nCo σ) q_5) (2, 0) q_8) (dayV (sN (sV (sV σ 3 (nCo σ) fa) 4 (nCo σ) la) 2 0 (nCo σ + 1)))) H from by have h9 := (cw_be F); exact h9) okX9 rfl 0 (by decide) m_106 (fun _ h => h) (v := .ref ((iup (iup ad (3, nCo σ) q_5) (2, 0) q_8) (1, 0))) rfl dX9_addCohort_65 ?_
          refine q_rV X ce_Jx4a65c_size_8abf5 m_144 (c_Jx4a65c_size_8abf5 l G ((iup (iup ad (3, nCo σ) q_5) (2, 0) q_8) (1, 0)) ((gls g (0) (ncap ((lstN σ) (0)).length (g.1 (0))) (g.2.1 (0) + 1)).2.1 (0)) (lrow G (gls g (0) (ncap ((lstN σ) (0)).length (g.1 (0))) (g.2.1 (0) + 1)) (iup (iup ad (3, nCo σ) q_5) (2, 0) q_8) (0)) ((nCo σ + 1))) (g0.step hS hAg) (cw_lsn F (k := 0) (n := (nCo σ + 1)) (Or.inl (by omega)) (by rw [upL_s, List.length_append, hn_6]; rfl)) (cw_lsn F (k := 0) (n := (nCo σ + 1)) (Or.inl (by omega)) (by rw [upL_s, List.length_append, hn_6]; rfl)) rfl (by decide) rfl hl.1 rfl (Nat.le_of_ble_eq_true rfl) dX9_addCohort_68 (by omega) (by omega) ?_
          refine lv_iconst (v := 1) X.ex X.co dX9_addCohort_71 (by decide) ?_
          refine n_sub X (x := (nCo σ + 1)) (y := 1) (by omega) dX9_addCohort_72 ?_
          refine top_eq (y := nI (nCo σ)) rfl ?_
          exact vx_ret (c_i X hS rfl rfl (by have q : (fAddCohort σ fa la) = (nI (nCo σ), (sN (sV (sV σ 3 (nCo σ) fa) 4 (nCo σ) la) 2 0 (nCo σ + 1))) := (by simp only [fAddCohort]; rw [if_pos (coh_ok.mpr ⟨by assumption, by assumption, nlt_of_le (by assumption)⟩), if_neg (by omega)]); rw [q]; exact ⟨rfl, h0, mkCB2 (ad := (iup (iup ad (3, nCo σ) q_5) (2, 0) q_8)) (σ := σ) hgr hwt hsb rfl (lsAll (by rw [upL_s]; exact rng_s (nCo σ) _) (by rw [upL_n _ _ (by decide)]; rfl) (by rw [upL_n _ _ (by decide)]; rfl) (by rw [upL_n _ _ (by decide)]; rfl) (by rw [upL_n _ _ (by decide)]; rfl) (by rw [upL_n _ _ (by decide)]; rfl) (by rw [upL_n _ _ (by decide)]; rfl) (by rw [upL_n _ _ (by decide)]; rfl) (by rw [upL_n _ _ (by decide)]; rfl) (fun l hl => by rw [upL_n _ _ (by omega), lst_le _ (Nat.lt_of_lt_of_le hl b3), lst_le _ (Nat.lt_of_lt_of_le hl b3)]; rfl) (fun e he => by rw [upL_n _ _ (by omega), lst_ex, lst_ex]; rfl)) hC rfl rfl (fun a ha => grade_c rfl rfl rfl rfl rfl rfl rfl rfl (fun k hk => ⟨rfl, rfl⟩)) rfl rfl rfl rfl F⟩) (by omega) (by omega) dX9_addCohort_73)
        · exact x_throw X hst g0 hAg hS hno (cls := "java/lang/IllegalStateException") (text := "there are 4 cohorts") (by decide) m_346 m_14 ok_ISE (tb_2 (List.mem_of_getElem? (i := 138) (by decide +kernel))) hl.1 dX9_addCohort_37 dX9_addCohort_40 dX9_addCohort_41 dX9_addCohort_43 dX9_addCohort_46 (Nat.le_of_ble_eq_true rfl) (by omega) (by omega) (fun H1 hz hq => fX_err (k := 1) (by show (fAddCohort σ fa la) = err σ 2; simp only [fAddCohort]; rw [if_pos (coh_ok.mpr ⟨by assumption, by assumption, nlt_of_le (by assumption)⟩), if_pos (by omega)]) rfl (CB_old (⟨g, ad, rfl, ⟨hC, hgr, hwt, hsb⟩, F⟩ : CB G A (ad (0, 0)) σ _) hq))
      · exact x_throw X hst g0 hAg hS hno (cls := "java/lang/IllegalArgumentException") (text := "a day is out of range") (by decide) m_274 m_13 ok_IAE (tb_2 (List.mem_of_getElem? (i := 122) (by decide +kernel))) hl.1 dX9_addCohort_16 dX9_addCohort_19 dX9_addCohort_20 dX9_addCohort_22 dX9_addCohort_25 (Nat.le_of_ble_eq_true rfl) (by omega) (by omega) (fun H1 hz hq => fX_err (k := 0) (by show (fAddCohort σ fa la) = err σ 1; simp only [fAddCohort]; rw [if_neg (fun z => by obtain ⟨z1, z2, z3⟩ := coh_ok.mp z; first | exact z1 (by assumption) | exact z2 (by assumption) | exact z3 (lt_of_nle (by assumption)))]) rfl (CB_old (⟨g, ad, rfl, ⟨hC, hgr, hwt, hsb⟩, F⟩ : CB G A (ad (0, 0)) σ _) hq))
set_option maxHeartbeats 4000000 in
set_option maxRecDepth 100000 in
theorem c_X9_addStudent (l : Launch) (hst : l.stackTraces = false) (G : GT) (A : Nat → Prop) (hAg : ∀ q, A q → gA G q) (b : Nat) (σ : Sg) (hI : MI σ) (hJ : MJ σ) (h0 : σ.1 0 0 = 0) (ia : Int32) : xM l yX9_addStudent cX9_addStudent 2 ((Option.some FieldType.int)) 8 2 310 G [.ref b, .int ia] (fun H => CB G A b σ H ∧ ∀ q, H.size ≤ q → A q) (fB G A b (fAddStudent σ ia)) (fX ["java/lang/IndexOutOfBoundsException", "java/lang/IllegalStateException"] G A b (fAddStudent σ ia)) A := by
  refine mk_x (by decide) (Nat.le_of_ble_eq_true rfl) ?_
  intro p e s m args below meth c X ls hl g0 F hno
  obtain ⟨⟨g, ad, hb0, ⟨hC, hgr, hwt, hsb⟩, F⟩, hfr⟩ := F
  subst hb0
  have hI0 := hI.1
  obtain ⟨b1, b2, b3, b4, b5, b6, b7⟩ := hI0.1
  obtain ⟨b8, b9, b10⟩ := hI.2.1
  have hone := hJ.2.2.2.2.2
  have hK := g0.1
  have hS : va_S A s.heap s.heap [] := va_S.rf
  have hLo := lstN_ok (g := g) hI
  have hl : lv_has ls 2 [(0, .ref (ad (0, 0))), (1, .int ia)] := hl
  show Wx p l e 8 2 310 s m args below meth c (fB G A (ad (0, 0)) (fAddStudent σ ia)) (fX ["java/lang/IndexOutOfBoundsException", "java/lang/IllegalStateException"] G A (ad (0, 0)) (fAddStudent σ ia)) A s.heap [] 0 0 0 ls []
  rcases hok_1 : okP ia (nCo σ) with _ | _
  · refine lv_iload_n X.ex X.co dX9_addStudent_0 rfl (lv_at hl 1 rfl) ?_
    refine lv_if_lt (tgt := 15) X.ex X.co dX9_addStudent_1 (by decide) (fun c_2 => ?_) (fun c_2 => ?_)
    · exact x_throw X hst g0 hAg hS hno (cls := "java/lang/IndexOutOfBoundsException") (text := "no such cohort") (by decide) m_473 m_20 ok_IOB (tb_2 (List.mem_of_getElem? (i := 237) (by decide +kernel))) hl.1 dX9_addStudent_15 dX9_addStudent_18 dX9_addStudent_19 dX9_addStudent_21 dX9_addStudent_24 (Nat.le_of_ble_eq_true rfl) (by omega) (by omega) (fun H1 hz hq => fX_err (k := 0) (by show (fAddStudent σ ia) = err σ 1; simp only [fAddStudent]; rw [if_neg (fun z => by rw [hok_1] at z; cases z)]) rfl (CB_old (⟨g, ad, rfl, ⟨hC, hgr, hwt, hsb⟩, F⟩ : CB G A (ad (0, 0)) σ _) hq))
    · refine lv_iload_n X.ex X.co dX9_addStudent_4 rfl (lv_at hl 1 rfl) ?_
      refine lv_aload_n X.ex X.co dX9_addStudent_5 rfl (lv_at hl 0 rfl) ?_
      refine f_get X hK (cw_be F) okX9 rfl 0 (by decide) m_106 (fun _ h => h) (v := .ref (ad (1, 0))) rfl dX9_addStudent_6 ?_
      refine q_rV X ce_Jx4a65c_size_8abf5 m_144 (c_Jx4a65c_size_8abf5 l G (ad (1, 0)) (g.2.1 (0)) (lrow G g ad (0)) (nCo σ)) (g0.step hS hAg) (cw_lsn F (k := 0) (n := nCo σ) (Or.inl (by omega)) rng_len) (cw_lsn F (k := 0) (n := nCo σ) (Or.inl (by omega)) rng_len) rfl (by decide) rfl hl.1 rfl (Nat.le_of_ble_eq_true rfl) dX9_addStudent_9 (by omega) (by omega) ?_
      refine lv_icmp_lt (tgt := 25) X.ex X.co dX9_addStudent_12 (by decide) (fun c_3 => ?_) (fun c_3 => ?_)
      · exact absurd c_3 (okP_no (by omega) hok_1 c_2)
      · exact x_throw X hst g0 hAg hS hno (cls := "java/lang/IndexOutOfBoundsException") (text := "no such cohort") (by decide) m_473 m_20 ok_IOB (tb_2 (List.mem_of_getElem? (i := 237) (by decide +kernel))) hl.1 dX9_addStudent_15 dX9_addStudent_18 dX9_addStudent_19 dX9_addStudent_21 dX9_addStudent_24 (Nat.le_of_ble_eq_true rfl) (by omega) (by omega) (fun H1 hz hq => fX_err (k := 0) (by show (fAddStudent σ ia) = err σ 1; simp only [fAddStudent]; rw [if_neg (fun z => by rw [hok_1] at z; cases z)]) rfl (CB_old (⟨g, ad, rfl, ⟨hC, hgr, hwt, hsb⟩, F⟩ : CB G A (ad (0, 0)) σ _) hq))
  · have ok_ia := hok_1
    obtain ⟨j_ia, hj_ia, rfl⟩ := (okP_ix (by omega)).mp ok_ia
    have ex_ia := ix_nI (j := j_ia) (by omega)
    refine lv_iload_n X.ex X.co dX9_addStudent_0 rfl (lv_at hl 1 rfl) ?_
    refine n_if_lt X (x := j_ia) (tgt := 15) (by omega) dX9_addStudent_1 (by decide) (fun c_4 => ?_) (fun c_4 => ?_)
    · exact c_4.elim
    · refine lv_iload_n X.ex X.co dX9_addStudent_4 rfl (lv_at hl 1 rfl) ?_
      refine lv_aload_n X.ex X.co dX9_addStudent_5 rfl (lv_at hl 0 rfl) ?_
      refine f_get X hK (cw_be F) okX9 rfl 0 (by decide) m_106 (fun _ h => h) (v := .ref (ad (1, 0))) rfl dX9_addStudent_6 ?_
      refine q_rV X ce_Jx4a65c_size_8abf5 m_144 (c_Jx4a65c_size_8abf5 l G (ad (1, 0)) (g.2.1 (0)) (lrow G g ad (0)) (nCo σ)) (g0.step hS hAg) (cw_lsn F (k := 0) (n := nCo σ) (Or.inl (by omega)) rng_len) (cw_lsn F (k := 0) (n := nCo σ) (Or.inl (by omega)) rng_len) rfl (by decide) rfl hl.1 rfl (Nat.le_of_ble_eq_true rfl) dX9_addStudent_9 (by omega) (by omega) ?_
      refine n_cmp_lt X (x := j_ia) (y := nCo σ) (tgt := 25) (by omega) (by omega) dX9_addStudent_12 (by decide) (fun c_5 => ?_) (fun c_5 => ?_)
      · refine lv_aload_n X.ex X.co dX9_addStudent_25 rfl (lv_at hl 0 rfl) ?_
        refine f_get X hK (cw_be F) okX9 rfl 1 (by decide) m_107 (fun _ h => h) (v := .ref (ad (1, 1))) rfl dX9_addStudent_26 ?_
        refine q_rV X ce_Jx4a65c_size_8abf5 m_144 (c_Jx4a65c_size_8abf5 l G (ad (1, 1)) (g.2.1 (1)) (lrow G g ad (1)) (nSt σ)) (g0.step hS hAg) (cw_lsn F (k := 1) (n := nSt σ) (Or.inl (by omega)) rng_len) (cw_lsn F (k := 1) (n := nSt σ) (Or.inl (by omega)) rng_len) rfl (by decide) rfl hl.1 rfl (Nat.le_of_ble_eq_true rfl) dX9_addStudent_29 (by omega) (by omega) ?_
        refine lv_bipush (v := 8) X.ex X.co dX9_addStudent_32 (by decide) ?_
        refine n_cmp_lt X (x := nSt σ) (y := 8) (tgt := 47) (by omega) (by omega) dX9_addStudent_34 (by decide) (fun c_6 => ?_) (fun c_6 => ?_)
        · refine lv_aload_n X.ex X.co dX9_addStudent_47 rfl (lv_at hl 0 rfl) ?_
          refine f_get X hK (cw_be F) okX9 rfl 1 (by decide) m_107 (fun _ h => h) (v := .ref (ad (1, 1))) rfl dX9_addStudent_48 ?_
          refine f_new X hK F hS hfr (4, nSt σ) (show ¬ nSt σ < nSt σ by omega) (ci := 13) okX8 rfl m_230 m_487 m_22 [.int 0, .null] (by intro j hj; match j, hj with | 0, _ => rfl | 1, _ => rfl | n + 2, h => exact absurd h (by omega)) (by show _ ≤ 2; omega) (by show _ ≤ 310; omega) dX9_addStudent_51 (fun q_7 H F hS => ?_)
          have F : fw G.1 (fun j => (cLv g σ) j ∨ j = (4, nSt σ)) (iup ad (4, nSt σ) q_7) (iup (cEnL G g ad σ (lstN σ)) (4, nSt σ) (.inr (13, [.int 0, .null]))) A H := F
          have Fc : cw G g A ad σ H := cw_drop (t := (4, nSt σ)) (show ¬ nSt σ < nSt σ by omega) F
          refine lv_dup X.ex X.co dX9_addStudent_54 rfl ?_
          refine lv_aload_n X.ex X.co dX9_addStudent_55 rfl (lv_at hl 0 rfl) ?_
          refine f_get X hK (cw_be Fc) okX9 rfl 1 (by decide) m_107 (fun _ h => h) (v := .ref (ad (1, 1))) rfl dX9_addStudent_56 ?_
          refine q_rV X ce_Jx4a65c_size_8abf5 m_144 (c_Jx4a65c_size_8abf5 l G (ad (1, 1)) (g.2.1 (1)) (lrow G g ad (1)) (nSt σ)) (g0.step hS hAg) (cw_lsn Fc (k := 1) (n := nSt σ) (Or.inl (by omega)) rng_len) (cw_lsn Fc (k := 1) (n := nSt σ) (Or.inl (by omega)) rng_len) rfl (by decide) rfl hl.1 rfl (Nat.le_of_ble_eq_true rfl) dX9_addStudent_59 (by omega) (by omega) ?_
          refine lv_aload_n X.ex X.co dX9_addStudent_62 rfl (lv_at hl 0 rfl) ?_
          refine f_get X hK (cw_be Fc) okX9 rfl 0 (by decide) m_106 (fun _ h => h) (v := .ref (ad (1, 0))) rfl dX9_addStudent_63 ?_
          refine lv_iload_n X.ex X.co dX9_addStudent_66 rfl (lv_at hl 1 rfl) ?_
          refine q_rV X ce_Jx4a65c_get_915e3 m_164 (c_getR l G (ad (1, 0)) (g.2.1 (0)) (lrow G g ad (0)) (nCo σ) (g.1 (0)) (cont (lstN σ (0)) ad) j_ia (by omega) (cl_n hC (Or.inl (by omega)) rng_len) (cl_q hC (Or.inl (by omega))) (cont_get (j := (3, j_ia)) (rng_get (k := 3) (show j_ia < nCo σ by omega)))) (g0.step hS hAg) (cw_get Fc hC (k := 0) (x := j_ia) (n := nCo σ) (Or.inl (by omega)) rng_len (by omega)) (cw_get Fc hC (k := 0) (x := j_ia) (n := nCo σ) (Or.inl (by omega)) rng_len (by omega)).1 rfl (by decide) rfl hl.1 rfl (Nat.le_of_ble_eq_true rfl) dX9_addStudent_67 (by omega) (by omega) ?_
          refine f_castS X hK (cw_co Fc (i := j_ia) (by omega)) rfl m_362 dX9_addStudent_70 ?_
          refine q_vI X ce_X8_init m_488 (c_X8_init l G A hAg (fun j => (cLv g σ) j ∨ j = (4, nSt σ)) (iup ad (4, nSt σ) q_7) (iup (cEnL G g ad σ (lstN σ)) (4, nSt σ) (.inr (13, [.int 0, .null]))) (4, nSt σ) (Or.inr rfl) q_7 (iup_s _ _ _) (iup_s _ _ _) (nI (nSt σ)) (ad (3, j_ia))) (g0.step hS hAg) F (by decide) rfl hl.1 rfl (Nat.le_of_ble_eq_true rfl) dX9_addStudent_73 (by show _ ≤ 2; omega) (by show _ ≤ 310; omega) hS (fun _ h => h) (fun H locs F hz hk9 hS => ?_)
          rw [iup_iup] at F
          have F : fw G.1 (fun j => (cLv g σ) j ∨ j = (4, nSt σ)) (iup ad (4, nSt σ) q_7) (iup (cEnL G g ad σ (lstN σ)) (4, nSt σ) (.inr (13, [.int (nI (nSt σ)), .ref (ad (3, j_ia))]))) A H := F
          have Fc : cw G g A ad σ H := cw_drop (t := (4, nSt σ)) (show ¬ nSt σ < nSt σ by omega) F
          have F : cwL G g A (iup ad (4, nSt σ) q_7) (sN (sN σ 6 (nSt σ) j_ia) 5 0 (nSt σ + 1)) (lstN σ) H := push4 hI0 hLo F
          have hLo : okL g (sN (sN σ 6 (nSt σ) j_ia) 5 0 (nSt σ + 1)) (lstN σ) := okL_mono hLo ⟨Nat.le_refl _, Nat.le_succ _, Nat.le_refl _, Nat.le_refl _, Nat.le_refl _, Nat.le_refl _, Nat.le_refl _⟩ (fun k hk => Or.inl hk)
          have hC : CLL g (sN (sN σ 6 (nSt σ) j_ia) 5 0 (nSt σ + 1)) (lstN σ) := hC
          have hn_8 : ((lstN σ) (1)).length = nSt σ := rng_len
          have ha_9 := addS_le (n := ((lstN σ) (1)).length) (hC (1) (Or.inl (by omega))).2
          refine q_eV X ce_Jx4a65c_add_9ea2d m_377 (c_addLv l G A hAg g (iup ad (4, nSt σ) q_7) (sN (sN σ 6 (nSt σ) j_ia) 5 0 (nSt σ + 1)) (lstN σ) hC hLo (1) (Or.inl (by omega)) (4, nSt σ) (show nSt σ < nSt σ + 1 by omega) (Nat.le_of_ble_eq_true rfl) (Nat.le_of_ble_eq_true rfl) (by omega) _ _ rfl (iup_s _ _ _)) (g0.step hS hAg) ⟨F, (fun q hq => hfr q (Nat.le_trans hS.1 hq))⟩ (cw_ls F (k := 1) (Or.inl (by omega))) rfl (by decide) rfl hl.1 rfl (Nat.le_of_ble_eq_true rfl) dX9_addStudent_76 (by show _ ≤ 2; omega) (by show _ ≤ 310; omega) hS (fun _ h => h) (fun H locs F hz hk9 hS => ?_)
          obtain ⟨q_10, F⟩ := F
          have hC : CLL (gls g (1) (ncap ((lstN σ) (1)).length (g.1 (1))) (g.2.1 (1) + 1)) (sN (sN σ 6 (nSt σ) j_ia) 5 0 (nSt σ + 1)) (upL (lstN σ) (1) ((lstN σ) (1) ++ [(4, nSt σ)])) := CLL_push hC (Or.inl (by omega)) (by omega)
          have hLo : okL (gls g (1) (ncap ((lstN σ) (1)).length (g.1 (1))) (g.2.1 (1) + 1)) (sN (sN σ 6 (nSt σ) j_ia) 5 0 (nSt σ + 1)) (upL (lstN σ) (1) ((lstN σ) (1) ++ [(4, nSt σ)])) := okL_push hLo (Or.inl (by omega)) (show nSt σ < nSt σ + 1 by omega) (Nat.le_of_ble_eq_true rfl) (Nat.le_of_ble_eq_true rfl)
          refine lv_pop X.ex X.co dX9_addStudent_79 rfl ?_
          refine lv_aload_n X.ex X.co dX9_addStudent_80 rfl (lv_at hl 0 rfl) ?_
          refine f_get X hK (show va_at G.1 vwCl (ad (0, 0), eBe (iup (iup ad (4, nSt σ) q_7) (2, 1) q_10) (dayV (sN (sN σ 6 (nSt σ) j_ia) 5 0 (nSt σ + 1)))) H from by have h9 := (cw_be F); exact h9) okX9 rfl 1 (by decide) m_107 (fun _ h => h) (v := .ref ((iup (iup ad (4, nSt σ) q_7) (2, 1) q_10) (1, 1))) rfl dX9_addStudent_81 ?_
          refine q_rV X ce_Jx4a65c_size_8abf5 m_144 (c_Jx4a65c_size_8abf5 l G ((iup (iup ad (4, nSt σ) q_7) (2, 1) q_10) (1, 1)) ((gls g (1) (ncap ((lstN σ) (1)).length (g.1 (1))) (g.2.1 (1) + 1)).2.1 (1)) (lrow G (gls g (1) (ncap ((lstN σ) (1)).length (g.1 (1))) (g.2.1 (1) + 1)) (iup (iup ad (4, nSt σ) q_7) (2, 1) q_10) (1)) ((nSt σ + 1))) (g0.step hS hAg) (cw_lsn F (k := 1) (n := (nSt σ + 1)) (Or.inl (by omega)) (by rw [upL_s, List.length_append, hn_8]; rfl)) (cw_lsn F (k := 1) (n := (nSt σ + 1)) (Or.inl (by omega)) (by rw [upL_s, List.length_append, hn_8]; rfl)) rfl (by decide) rfl hl.1 rfl (Nat.le_of_ble_eq_true rfl) dX9_addStudent_84 (by omega) (by omega) ?_
          refine lv_iconst (v := 1) X.ex X.co dX9_addStudent_87 (by decide) ?_
          refine n_sub X (x := (nSt σ + 1)) (y := 1) (by omega) dX9_addStudent_88 ?_
          refine top_eq (y := nI (nSt σ)) rfl ?_
          exact vx_ret (c_i X hS rfl rfl (by have q : (fAddStudent σ (nI j_ia)) = (nI (nSt σ), (sN (sN σ 6 (nSt σ) j_ia) 5 0 (nSt σ + 1))) := (by simp only [fAddStudent]; rw [if_pos ok_ia, if_neg (by omega), ex_ia]); rw [q]; exact ⟨rfl, h0, mkCB2 (ad := (iup (iup ad (4, nSt σ) q_7) (2, 1) q_10)) (σ := σ) hgr hwt hsb rfl (lsAll (by rw [upL_n _ _ (by decide)]; rfl) (by rw [upL_s]; exact rng_s (nSt σ) _) (by rw [upL_n _ _ (by decide)]; rfl) (by rw [upL_n _ _ (by decide)]; rfl) (by rw [upL_n _ _ (by decide)]; rfl) (by rw [upL_n _ _ (by decide)]; rfl) (by rw [upL_n _ _ (by decide)]; rfl) (by rw [upL_n _ _ (by decide)]; rfl) (by rw [upL_n _ _ (by decide)]; rfl) (fun l hl => by rw [upL_n _ _ (by omega), lst_le _ (Nat.lt_of_lt_of_le hl b3), lst_le _ (Nat.lt_of_lt_of_le hl b3)]; rfl) (fun e he => by rw [upL_n _ _ (by omega), lst_ex, lst_ex]; rfl)) hC rfl rfl (fun a ha => grade_c rfl rfl rfl rfl rfl rfl rfl rfl (fun k hk => ⟨rfl, rfl⟩)) rfl rfl rfl rfl F⟩) (by omega) (by omega) dX9_addStudent_89)
        · exact x_throw X hst g0 hAg hS hno (cls := "java/lang/IllegalStateException") (text := "there are 8 students") (by decide) m_346 m_14 ok_ISE (tb_3 (List.mem_of_getElem? (i := 1) (by decide +kernel))) hl.1 dX9_addStudent_37 dX9_addStudent_40 dX9_addStudent_41 dX9_addStudent_43 dX9_addStudent_46 (Nat.le_of_ble_eq_true rfl) (by omega) (by omega) (fun H1 hz hq => fX_err (k := 1) (by show (fAddStudent σ (nI j_ia)) = err σ 2; simp only [fAddStudent]; rw [if_pos ok_ia, if_pos (by omega)]) rfl (CB_old (⟨g, ad, rfl, ⟨hC, hgr, hwt, hsb⟩, F⟩ : CB G A (ad (0, 0)) σ _) hq))
      · exact absurd hj_ia (by omega)
set_option maxHeartbeats 4000000 in
set_option maxRecDepth 100000 in
theorem c_X9_addCourse (l : Launch) (hst : l.stackTraces = false) (G : GT) (A : Nat → Prop) (hAg : ∀ q, A q → gA G q) (b : Nat) (σ : Sg) (hI : MI σ) (hJ : MJ σ) (h0 : σ.1 0 0 = 0) (na da : Int32) : xM l yX9_addCourse cX9_addCourse 3 ((Option.some FieldType.int)) 8 2 310 G [.ref b, .int na, .int da] (fun H => CB G A b σ H ∧ ∀ q, H.size ≤ q → A q) (fB G A b (fAddCourse σ na da)) (fX ["java/lang/IllegalArgumentException", "java/lang/IllegalStateException"] G A b (fAddCourse σ na da)) A := by
  refine mk_x (by decide) (Nat.le_of_ble_eq_true rfl) ?_
  intro p e s m args below meth c X ls hl g0 F hno
  obtain ⟨⟨g, ad, hb0, ⟨hC, hgr, hwt, hsb⟩, F⟩, hfr⟩ := F
  subst hb0
  have hI0 := hI.1
  obtain ⟨b1, b2, b3, b4, b5, b6, b7⟩ := hI0.1
  obtain ⟨b8, b9, b10⟩ := hI.2.1
  have hone := hJ.2.2.2.2.2
  have hK := g0.1
  have hS : va_S A s.heap s.heap [] := va_S.rf
  have hLo := lstN_ok (g := g) hI
  have hl : lv_has ls 3 [(0, .ref (ad (0, 0))), (1, .int na), (2, .int da)] := hl
  show Wx p l e 8 2 310 s m args below meth c (fB G A (ad (0, 0)) (fAddCourse σ na da)) (fX ["java/lang/IllegalArgumentException", "java/lang/IllegalStateException"] G A (ad (0, 0)) (fAddCourse σ na da)) A s.heap [] 0 0 0 ls []
  refine lv_iload_n X.ex X.co dX9_addCourse_0 rfl (lv_at hl 1 rfl) ?_
  refine lv_if_eq (tgt := 12) X.ex X.co dX9_addCourse_1 (by decide) (fun c_1 => ?_) (fun c_1 => ?_)
  · exact x_throwW X hst g0 hAg hS hno (cls := "java/lang/IllegalArgumentException") (text := "it has no lessons, or a lesson does not exist") (by decide) m_274 m_13 ok_IAE (tb_5 (List.mem_of_getElem? (i := 49) (by decide +kernel))) hl.1 dX9_addCourse_12 dX9_addCourse_15 dX9_addCourse_16 dX9_addCourse_19 dX9_addCourse_22 (Nat.le_of_ble_eq_true rfl) (by omega) (by omega) (fun H1 hz hq => fX_err (k := 0) (by show (fAddCourse σ na da) = err σ 1; simp only [fAddCourse]; rw [if_neg (fun z => by obtain ⟨z1, z2, z3⟩ := (crs_ok b3).mp z; first | exact z1 (by assumption))]) rfl (CB_old (⟨g, ad, rfl, ⟨hC, hgr, hwt, hsb⟩, F⟩ : CB G A (ad (0, 0)) σ _) hq))
  · refine lv_aload_n X.ex X.co dX9_addCourse_4 rfl (lv_at hl 0 rfl) ?_
    refine lv_iload_n X.ex X.co dX9_addCourse_5 rfl (lv_at hl 1 rfl) ?_
    refine q_rV X ce_X9_areLessons m_508 (c_X9_areLessons l G A g ad σ hI0 hC na) (g0.step hS hAg) F (cw_be F) rfl (by decide) rfl hl.1 rfl (Nat.le_of_ble_eq_true rfl) dX9_addCourse_6 (by omega) (by omega) ?_
    refine b_if_ne X (x := areU na (nLe σ)) (tgt := 23) dX9_addCourse_9 (by decide) (fun c_2 => ?_) (fun c_2 => ?_)
    · refine lv_iload_n X.ex X.co dX9_addCourse_23 rfl (lv_at hl 2 rfl) ?_
      refine lv_iconst (v := 1) X.ex X.co dX9_addCourse_24 (by decide) ?_
      refine lv_bipush (v := 100) X.ex X.co dX9_addCourse_25 (by decide) ?_
      refine q_rS X ce_X9_isWithin m_513 (c_X9_isWithin l G da 1 100) (g0.step hS hAg) trivial (by decide) rfl hl.1 rfl (Nat.le_of_ble_eq_true rfl) dX9_addCourse_27 (by omega) (by omega) ?_
      refine b_if_ne X (x := inB da 1 100) (tgt := 44) dX9_addCourse_30 (by decide) (fun c_3 => ?_) (fun c_3 => ?_)
      · refine lv_aload_n X.ex X.co dX9_addCourse_44 rfl (lv_at hl 0 rfl) ?_
        refine f_get X hK (cw_be F) okX9 rfl 5 (by decide) m_111 (fun _ h => h) (v := .ref (ad (1, 5))) rfl dX9_addCourse_45 ?_
        refine q_rV X ce_Jx4a65c_size_8abf5 m_144 (c_Jx4a65c_size_8abf5 l G (ad (1, 5)) (g.2.1 (5)) (lrow G g ad (5)) (nCr σ)) (g0.step hS hAg) (cw_lsn F (k := 5) (n := nCr σ) (Or.inl (by omega)) rng_len) (cw_lsn F (k := 5) (n := nCr σ) (Or.inl (by omega)) rng_len) rfl (by decide) rfl hl.1 rfl (Nat.le_of_ble_eq_true rfl) dX9_addCourse_48 (by omega) (by omega) ?_
        refine lv_iconst (v := 4) X.ex X.co dX9_addCourse_51 (by decide) ?_
        refine n_cmp_lt X (x := nCr σ) (y := 4) (tgt := 66) (by omega) (by omega) dX9_addCourse_52 (by decide) (fun c_4 => ?_) (fun c_4 => ?_)
        · refine lv_aload_n X.ex X.co dX9_addCourse_66 rfl (lv_at hl 0 rfl) ?_
          refine f_get X hK (cw_be F) okX9 rfl 5 (by decide) m_111 (fun _ h => h) (v := .ref (ad (1, 5))) rfl dX9_addCourse_67 ?_
          refine f_new X hK F hS hfr (8, nCr σ) (show ¬ nCr σ < nCr σ by omega) (ci := 8) okX3 rfl m_1141 m_1142 m_35 [.int 0, .int 0] (by intro j hj; match j, hj with | 0, _ => rfl | 1, _ => rfl | n + 2, h => exact absurd h (by omega)) (by show _ ≤ 2; omega) (by show _ ≤ 310; omega) dX9_addCourse_70 (fun q_5 H F hS => ?_)
          have F : fw G.1 (fun j => (cLv g σ) j ∨ j = (8, nCr σ)) (iup ad (8, nCr σ) q_5) (iup (cEnL G g ad σ (lstN σ)) (8, nCr σ) (.inr (8, [.int 0, .int 0]))) A H := F
          have Fc : cw G g A ad σ H := cw_drop (t := (8, nCr σ)) (show ¬ nCr σ < nCr σ by omega) F
          refine lv_dup X.ex X.co dX9_addCourse_73 rfl ?_
          refine lv_iload_n X.ex X.co dX9_addCourse_74 rfl (lv_at hl 1 rfl) ?_
          refine lv_iload_n X.ex X.co dX9_addCourse_75 rfl (lv_at hl 2 rfl) ?_
          refine q_vI X ce_X3_init m_1143 (c_X3_init l G A hAg (fun j => (cLv g σ) j ∨ j = (8, nCr σ)) (iup ad (8, nCr σ) q_5) (iup (cEnL G g ad σ (lstN σ)) (8, nCr σ) (.inr (8, [.int 0, .int 0]))) (8, nCr σ) (Or.inr rfl) q_5 (iup_s _ _ _) (iup_s _ _ _) na da) (g0.step hS hAg) F (by decide) rfl hl.1 rfl (Nat.le_of_ble_eq_true rfl) dX9_addCourse_76 (by show _ ≤ 2; omega) (by show _ ≤ 310; omega) hS (fun _ h => h) (fun H locs F hz hk9 hS => ?_)
          rw [iup_iup] at F
          have F : fw G.1 (fun j => (cLv g σ) j ∨ j = (8, nCr σ)) (iup ad (8, nCr σ) q_5) (iup (cEnL G g ad σ (lstN σ)) (8, nCr σ) (.inr (8, [.int na, .int da]))) A H := F
          have Fc : cw G g A ad σ H := cw_drop (t := (8, nCr σ)) (show ¬ nCr σ < nCr σ by omega) F
          have F : cwL G g A (iup ad (8, nCr σ) q_5) (sN (sV (sV σ 33 (nCr σ) na) 34 (nCr σ) da) 32 0 (nCr σ + 1)) (lstN σ) H := push8 hI0 hLo F
          have hLo : okL g (sN (sV (sV σ 33 (nCr σ) na) 34 (nCr σ) da) 32 0 (nCr σ + 1)) (lstN σ) := okL_mono hLo ⟨Nat.le_refl _, Nat.le_refl _, Nat.le_refl _, Nat.le_refl _, Nat.le_refl _, Nat.le_succ _, Nat.le_refl _⟩ (fun k hk => Or.inl hk)
          have hC : CLL g (sN (sV (sV σ 33 (nCr σ) na) 34 (nCr σ) da) 32 0 (nCr σ + 1)) (lstN σ) := hC
          have hn_6 : ((lstN σ) (5)).length = nCr σ := rng_len
          have ha_7 := addS_le (n := ((lstN σ) (5)).length) (hC (5) (Or.inl (by omega))).2
          refine q_eV X ce_Jx4a65c_add_9ea2d m_377 (c_addLv l G A hAg g (iup ad (8, nCr σ) q_5) (sN (sV (sV σ 33 (nCr σ) na) 34 (nCr σ) da) 32 0 (nCr σ + 1)) (lstN σ) hC hLo (5) (Or.inl (by omega)) (8, nCr σ) (show nCr σ < nCr σ + 1 by omega) (Nat.le_of_ble_eq_true rfl) (Nat.le_of_ble_eq_true rfl) (by omega) _ _ rfl (iup_s _ _ _)) (g0.step hS hAg) ⟨F, (fun q hq => hfr q (Nat.le_trans hS.1 hq))⟩ (cw_ls F (k := 5) (Or.inl (by omega))) rfl (by decide) rfl hl.1 rfl (Nat.le_of_ble_eq_true rfl) dX9_addCourse_79 (by show _ ≤ 2; omega) (by show _ ≤ 310; omega) hS (fun _ h => h) (fun H locs F hz hk9 hS => ?_)
          obtain ⟨q_8, F⟩ := F
          have hC : CLL (gls g (5) (ncap ((lstN σ) (5)).length (g.1 (5))) (g.2.1 (5) + 1)) (sN (sV (sV σ 33 (nCr σ) na) 34 (nCr σ) da) 32 0 (nCr σ + 1)) (upL (lstN σ) (5) ((lstN σ) (5) ++ [(8, nCr σ)])) := CLL_push hC (Or.inl (by omega)) (by omega)
          have hLo : okL (gls g (5) (ncap ((lstN σ) (5)).length (g.1 (5))) (g.2.1 (5) + 1)) (sN (sV (sV σ 33 (nCr σ) na) 34 (nCr σ) da) 32 0 (nCr σ + 1)) (upL (lstN σ) (5) ((lstN σ) (5) ++ [(8, nCr σ)])) := okL_push hLo (Or.inl (by omega)) (show nCr σ < nCr σ + 1 by omega) (Nat.le_of_ble_eq_true rfl) (Nat.le_of_ble_eq_true rfl)
          refine lv_pop X.ex X.co dX9_addCourse_82 rfl ?_
          refine lv_aload_n X.ex X.co dX9_addCourse_83 rfl (lv_at hl 0 rfl) ?_
          refine f_get X hK (show va_at G.1 vwCl (ad (0, 0), eBe (iup (iup ad (8, nCr σ) q_5) (2, 5) q_8) (dayV (sN (sV (sV σ 33 (nCr σ) na) 34 (nCr σ) da) 32 0 (nCr σ + 1)))) H from by have h9 := (cw_be F); exact h9) okX9 rfl 5 (by decide) m_111 (fun _ h => h) (v := .ref ((iup (iup ad (8, nCr σ) q_5) (2, 5) q_8) (1, 5))) rfl dX9_addCourse_84 ?_
          refine q_rV X ce_Jx4a65c_size_8abf5 m_144 (c_Jx4a65c_size_8abf5 l G ((iup (iup ad (8, nCr σ) q_5) (2, 5) q_8) (1, 5)) ((gls g (5) (ncap ((lstN σ) (5)).length (g.1 (5))) (g.2.1 (5) + 1)).2.1 (5)) (lrow G (gls g (5) (ncap ((lstN σ) (5)).length (g.1 (5))) (g.2.1 (5) + 1)) (iup (iup ad (8, nCr σ) q_5) (2, 5) q_8) (5)) ((nCr σ + 1))) (g0.step hS hAg) (cw_lsn F (k := 5) (n := (nCr σ + 1)) (Or.inl (by omega)) (by rw [upL_s, List.length_append, hn_6]; rfl)) (cw_lsn F (k := 5) (n := (nCr σ + 1)) (Or.inl (by omega)) (by rw [upL_s, List.length_append, hn_6]; rfl)) rfl (by decide) rfl hl.1 rfl (Nat.le_of_ble_eq_true rfl) dX9_addCourse_87 (by omega) (by omega) ?_
          refine lv_iconst (v := 1) X.ex X.co dX9_addCourse_90 (by decide) ?_
          refine n_sub X (x := (nCr σ + 1)) (y := 1) (by omega) dX9_addCourse_91 ?_
          refine top_eq (y := nI (nCr σ)) rfl ?_
          exact vx_ret (c_i X hS rfl rfl (by have q : (fAddCourse σ na da) = (nI (nCr σ), (sN (sV (sV σ 33 (nCr σ) na) 34 (nCr σ) da) 32 0 (nCr σ + 1))) := (by simp only [fAddCourse]; rw [if_pos ((crs_ok b3).mpr ⟨by assumption, by assumption, by assumption⟩), if_neg (by omega)]); rw [q]; exact ⟨rfl, h0, mkCB2 (ad := (iup (iup ad (8, nCr σ) q_5) (2, 5) q_8)) (σ := σ) hgr hwt hsb rfl (lsAll (by rw [upL_n _ _ (by decide)]; rfl) (by rw [upL_n _ _ (by decide)]; rfl) (by rw [upL_n _ _ (by decide)]; rfl) (by rw [upL_n _ _ (by decide)]; rfl) (by rw [upL_n _ _ (by decide)]; rfl) (by rw [upL_s]; exact rng_s (nCr σ) _) (by rw [upL_n _ _ (by decide)]; rfl) (by rw [upL_n _ _ (by decide)]; rfl) (by rw [upL_n _ _ (by decide)]; rfl) (fun l hl => by rw [upL_n _ _ (by omega), lst_le _ (Nat.lt_of_lt_of_le hl b3), lst_le _ (Nat.lt_of_lt_of_le hl b3)]; rfl) (fun e he => by rw [upL_n _ _ (by omega), lst_ex, lst_ex]; rfl)) hC rfl rfl (fun a ha => grade_c rfl rfl rfl rfl rfl rfl rfl rfl (fun k hk => ⟨rfl, rfl⟩)) rfl rfl rfl rfl F⟩) (by omega) (by omega) dX9_addCourse_92)
        · exact x_throwW X hst g0 hAg hS hno (cls := "java/lang/IllegalStateException") (text := "there are 4 courses") (by decide) m_346 m_14 ok_ISE (tb_5 (List.mem_of_getElem? (i := 51) (by decide +kernel))) hl.1 dX9_addCourse_55 dX9_addCourse_58 dX9_addCourse_59 dX9_addCourse_62 dX9_addCourse_65 (Nat.le_of_ble_eq_true rfl) (by omega) (by omega) (fun H1 hz hq => fX_err (k := 1) (by show (fAddCourse σ na da) = err σ 2; simp only [fAddCourse]; rw [if_pos ((crs_ok b3).mpr ⟨by assumption, by assumption, by assumption⟩), if_pos (by omega)]) rfl (CB_old (⟨g, ad, rfl, ⟨hC, hgr, hwt, hsb⟩, F⟩ : CB G A (ad (0, 0)) σ _) hq))
      · exact x_throwW X hst g0 hAg hS hno (cls := "java/lang/IllegalArgumentException") (text := "the mastery is out of range") (by decide) m_274 m_13 ok_IAE (tb_5 (List.mem_of_getElem? (i := 50) (by decide +kernel))) hl.1 dX9_addCourse_33 dX9_addCourse_36 dX9_addCourse_37 dX9_addCourse_40 dX9_addCourse_43 (Nat.le_of_ble_eq_true rfl) (by omega) (by omega) (fun H1 hz hq => fX_err (k := 0) (by show (fAddCourse σ na da) = err σ 1; simp only [fAddCourse]; rw [if_neg (fun z => by obtain ⟨z1, z2, z3⟩ := (crs_ok b3).mp z; first | exact z1 (by assumption) | exact absurd (z2.symm.trans c_2) (by decide) | exact absurd (z3.symm.trans c_2) (by decide) | exact absurd (z2.symm.trans c_3) (by decide) | exact absurd (z3.symm.trans c_3) (by decide))]) rfl (CB_old (⟨g, ad, rfl, ⟨hC, hgr, hwt, hsb⟩, F⟩ : CB G A (ad (0, 0)) σ _) hq))
    · exact x_throwW X hst g0 hAg hS hno (cls := "java/lang/IllegalArgumentException") (text := "it has no lessons, or a lesson does not exist") (by decide) m_274 m_13 ok_IAE (tb_5 (List.mem_of_getElem? (i := 49) (by decide +kernel))) hl.1 dX9_addCourse_12 dX9_addCourse_15 dX9_addCourse_16 dX9_addCourse_19 dX9_addCourse_22 (Nat.le_of_ble_eq_true rfl) (by omega) (by omega) (fun H1 hz hq => fX_err (k := 0) (by show (fAddCourse σ na da) = err σ 1; simp only [fAddCourse]; rw [if_neg (fun z => by obtain ⟨z1, z2, z3⟩ := (crs_ok b3).mp z; first | exact z1 (by assumption) | exact absurd (z2.symm.trans c_2) (by decide) | exact absurd (z3.symm.trans c_2) (by decide))]) rfl (CB_old (⟨g, ad, rfl, ⟨hC, hgr, hwt, hsb⟩, F⟩ : CB G A (ad (0, 0)) σ _) hq))
set_option maxHeartbeats 4000000 in
set_option maxRecDepth 100000 in
theorem c_X9_pass (l : Launch) (hst : l.stackTraces = false) (G : GT) (A : Nat → Prop) (hAg : ∀ q, A q → gA G q) (b : Nat) (σ : Sg) (hI : MI σ) (hJ : MJ σ) (h0 : σ.1 0 0 = 0) (da : Int32) : xM l yX9_pass cX9_pass 2 ((Option.some FieldType.int)) 3 1 6 G [.ref b, .int da] (fun H => CB G A b σ H ∧ ∀ q, H.size ≤ q → A q) (fB G A b (fPass σ da)) (fX ["java/lang/IllegalArgumentException", "java/lang/IllegalStateException"] G A b (fPass σ da)) A := by
  refine mk_x (by decide) (Nat.le_of_ble_eq_true rfl) ?_
  intro p e s m args below meth c X ls hl g0 F hno
  obtain ⟨⟨g, ad, hb0, ⟨hC, hgr, hwt, hsb⟩, F⟩, hfr⟩ := F
  subst hb0
  have hI0 := hI.1
  obtain ⟨b1, b2, b3, b4, b5, b6, b7⟩ := hI0.1
  obtain ⟨b8, b9, b10⟩ := hI.2.1
  have hone := hJ.2.2.2.2.2
  have hK := g0.1
  have hS : va_S A s.heap s.heap [] := va_S.rf
  have hLo := lstN_ok (g := g) hI
  have hl : lv_has ls 2 [(0, .ref (ad (0, 0))), (1, .int da)] := hl
  show Wx p l e 3 1 6 s m args below meth c (fB G A (ad (0, 0)) (fPass σ da)) (fX ["java/lang/IllegalArgumentException", "java/lang/IllegalStateException"] G A (ad (0, 0)) (fPass σ da)) A s.heap [] 0 0 0 ls []
  refine lv_iload_n X.ex X.co dX9_pass_0 rfl (lv_at hl 1 rfl) ?_
  refine lv_iconst (v := 1) X.ex X.co dX9_pass_1 (by decide) ?_
  refine lv_bipush (v := 99) X.ex X.co dX9_pass_2 (by decide) ?_
  refine q_rS X ce_X9_isWithin m_513 (c_X9_isWithin l G da 1 99) (g0.step hS hAg) trivial (by decide) rfl hl.1 rfl (Nat.le_of_ble_eq_true rfl) dX9_pass_4 (by omega) (by omega) ?_
  refine b_if_ne X (x := inB da 1 99) (tgt := 21) dX9_pass_7 (by decide) (fun c_1 => ?_) (fun c_1 => ?_)
  · refine lv_aload_n X.ex X.co dX9_pass_21 rfl (lv_at hl 0 rfl) ?_
    refine f_get X hK (cw_be F) okX9 rfl 10 (by decide) m_116 (fun _ h => h) (v := .int (dayV σ)) rfl dX9_pass_22 ?_
    refine lv_iload_n X.ex X.co dX9_pass_25 rfl (lv_at hl 1 rfl) ?_
    refine lv_iadd X.ex X.co dX9_pass_26 ?_
    refine lv_sipush (v := 999) X.ex X.co dX9_pass_27 (by decide) ?_
    refine lv_icmp_le (tgt := 44) X.ex X.co dX9_pass_30 (by decide) (fun c_2 => ?_) (fun c_2 => ?_)
    · refine lv_aload_n X.ex X.co dX9_pass_44 rfl (lv_at hl 0 rfl) ?_
      refine lv_dup X.ex X.co dX9_pass_45 rfl ?_
      refine f_get X hK (fw.get F (show (cLv g σ) (0, 0) from (rfl : (0 : Nat) = 0)) rfl rfl) okX9 rfl 10 (by decide) m_116 (fun _ h => h) (v := .int (dayV σ)) rfl dX9_pass_46 ?_
      refine lv_iload_n X.ex X.co dX9_pass_49 rfl (lv_at hl 1 rfl) ?_
      refine lv_iadd X.ex X.co dX9_pass_50 ?_
      refine f_put X hK F hS (show (cLv g σ) (0, 0) from (rfl : (0 : Nat) = 0)) rfl (ci := 14) (fs := [.ref (ad (1, 0)), .ref (ad (1, 1)), .ref (ad (1, 2)), .ref (ad (1, 3)), .ref (ad (1, 4)), .ref (ad (1, 5)), .ref (ad (1, 6)), .ref (ad (1, 7)), .ref (ad (1, 8)), .ref (ad (15, 0)), .int (dayV σ)]) rfl okX9 rfl 10 (by decide) m_116 (fun _ h => h) rfl (v := .int ((dayV σ) + da)) rfl rfl rfl (Nat.le_of_ble_eq_true rfl) dX9_pass_51 (fun H locs F hS => ?_)
      have F : fw G.1 (cLv g σ) ad (iup (cEnL G g ad σ (lstN σ)) (0, 0) (.inr (14, [.ref (ad (1, 0)), .ref (ad (1, 1)), .ref (ad (1, 2)), .ref (ad (1, 3)), .ref (ad (1, 4)), .ref (ad (1, 5)), .ref (ad (1, 6)), .ref (ad (1, 7)), .ref (ad (1, 8)), .ref (ad (15, 0)), .int ((dayV σ) + da)]))) A H := F
      have F : cwL G g A ad (sV σ 1 0 (dayV σ + da)) (lstN σ) H := upD F
      refine lv_aload_n X.ex X.co dX9_pass_54 rfl (lv_at hl 0 rfl) ?_
      refine f_get X hK (cw_be F) okX9 rfl 10 (by decide) m_116 (fun _ h => h) (v := .int (dayV σ + da)) rfl dX9_pass_55 ?_
      exact vx_ret (c_i X hS rfl rfl (by have q : (fPass σ da) = (dayV σ + da, sV σ 1 0 (dayV σ + da)) := (by simp only [fPass]; rw [if_pos (by assumption), if_pos (by assumption)]); rw [q]; exact ⟨rfl, h0, mkCB2 (σ := σ) hgr hwt hsb rfl (fun k hk => rfl) hC rfl rfl (fun a ha => grade_c rfl rfl rfl rfl rfl rfl rfl rfl (fun k hk => ⟨rfl, rfl⟩)) rfl rfl rfl rfl F⟩) (by omega) (by omega) dX9_pass_58)
    · exact x_throwW X hst g0 hAg hS hno (cls := "java/lang/IllegalStateException") (text := "the day would be greater than 999") (by decide) m_346 m_14 ok_ISE (tb_5 (List.mem_of_getElem? (i := 113) (by decide +kernel))) hl.1 dX9_pass_33 dX9_pass_36 dX9_pass_37 dX9_pass_40 dX9_pass_43 (Nat.le_of_ble_eq_true rfl) (by omega) (by omega) (fun H1 hz hq => fX_err (k := 1) (by show (fPass σ da) = err σ 2; simp only [fPass]; rw [if_pos (by assumption), if_neg (by assumption)]) rfl (CB_old (⟨g, ad, rfl, ⟨hC, hgr, hwt, hsb⟩, F⟩ : CB G A (ad (0, 0)) σ _) hq))
  · exact x_throwW X hst g0 hAg hS hno (cls := "java/lang/IllegalArgumentException") (text := "the number of days is out of range") (by decide) m_274 m_13 ok_IAE (tb_5 (List.mem_of_getElem? (i := 112) (by decide +kernel))) hl.1 dX9_pass_10 dX9_pass_13 dX9_pass_14 dX9_pass_17 dX9_pass_20 (Nat.le_of_ble_eq_true rfl) (by omega) (by omega) (fun H1 hz hq => fX_err (k := 0) (by show (fPass σ da) = err σ 1; simp only [fPass]; rw [if_neg (fun z => by rw [c_1] at z; cases z)]) rfl (CB_old (⟨g, ad, rfl, ⟨hC, hgr, hwt, hsb⟩, F⟩ : CB G A (ad (0, 0)) σ _) hq))
