theorem fXd_err {T : List String} {G : GT} {A : Nat → Prop} {b : Nat} {σ : Sg} {H : Heap} {r : UInt64 × Sg} {k : Nat} {x : UInt64} {E : String} (q : r = (x, sN σ 0 0 (k + 1))) (hT : T[k]? = some E) (h : CB G A b σ H) : fXd T G A b r E H := by
  subst q
  exact ⟨k, hT, rfl, CB_0 _ h⟩
theorem fXf_err {T : List String} {G : GT} {A : Nat → Prop} {b : Nat} {σ : Sg} {H : Heap} {r : UInt32 × Sg} {k : Nat} {x : UInt32} {E : String} (q : r = (x, sN σ 0 0 (k + 1))) (hT : T[k]? = some E) (h : CB G A b σ H) : fXf T G A b r E H := by
  subst q
  exact ⟨k, hT, rfl, CB_0 _ h⟩
set_option maxHeartbeats 4000000 in
set_option maxRecDepth 100000 in
theorem c_X9_meanGrade (l : Launch) (hst : l.stackTraces = false) (G : GT) (A : Nat → Prop) (hAg : ∀ q, A q → gA G q) (b : Nat) (σ : Sg) (hI : MI σ) (hJ : MJ σ) (h0 : σ.1 0 0 = 0) : xM l yX9_meanGrade cX9_meanGrade 4 ((Option.some FieldType.double)) 3 1 6 G [.ref b] (fun H => CB G A b σ H ∧ ∀ q, H.size ≤ q → A q) (fBd G A b (fMeanGrade σ)) (fXd ["java/lang/ArithmeticException"] G A b (fMeanGrade σ)) A := by
  refine mk_x (by decide) (Nat.le_of_ble_eq_true rfl) ?_
  intro p e s m args below meth c X ls hl g0 F hno
  obtain ⟨⟨g, ad, hb0, ⟨hC, hgr, hwt, hsb⟩, F⟩, hfr⟩ := F
  subst hb0
  have hI0 := hI.1
  obtain ⟨b1, b2, b3, b4, b5, b6, b7⟩ := hI0.1
  obtain ⟨b8, b9, b10⟩ := hI.2.1
  have hone := hJ.2.2.2.2.2
  have hK := g0.1
  have hS : va_S A s.heap s.heap [] := va_S.rf
  have hl : lv_has ls 4 [(0, .ref (ad (0, 0)))] := hl
  show Wx p l e 3 1 6 s m args below meth c (fBd G A (ad (0, 0)) (fMeanGrade σ)) (fXd ["java/lang/ArithmeticException"] G A (ad (0, 0)) (fMeanGrade σ)) A s.heap [] 0 0 0 ls []
  refine lv_aload_n X.ex X.co dX9_meanGrade_0 rfl (lv_at hl 0 rfl) ?_
  refine f_get X hK (cw_be F) okX9 rfl 4 (by decide) m_110 (fun _ h => h) (v := .ref (ad (1, 4))) rfl dX9_meanGrade_1 ?_
  refine q_rV X ce_Jx4a65c_size_8abf5 m_144 (c_Jx4a65c_size_8abf5 l G (ad (1, 4)) (g.2.1 (4)) (lrow G g ad (4)) (nAn σ)) (g0.step hS hAg) (cw_lsn F (k := 4) (n := nAn σ) (Or.inl (by omega)) rng_len) (cw_lsn F (k := 4) (n := nAn σ) (Or.inl (by omega)) rng_len) rfl (by decide) rfl hl.1 rfl (Nat.le_of_ble_eq_true rfl) dX9_meanGrade_4 (by omega) (by omega) ?_
  refine lv_istore_n (lv' := [(1, .int (nI (nAn σ))), (0, .ref (ad (0, 0)))]) X.ex X.co dX9_meanGrade_7 rfl hl (by decide) rfl (fun ls hl => ?_)
  refine lv_iload_n X.ex X.co dX9_meanGrade_8 rfl (lv_at hl 0 rfl) ?_
  refine n_if_ne X (x := nAn σ) (tgt := 23) (by omega) dX9_meanGrade_9 (by decide) (fun c_1 => ?_) (fun c_1 => ?_)
  · refine lv_iconst (v := 0) X.ex X.co dX9_meanGrade_23 (by decide) ?_
    refine lv_istore_n (lv' := [(2, .int 0), (1, .int (nI (nAn σ))), (0, .ref (ad (0, 0)))]) X.ex X.co dX9_meanGrade_24 rfl hl (by decide) rfl (fun ls hl => ?_)
    refine lv_iconst (v := 0) X.ex X.co dX9_meanGrade_25 (by decide) ?_
    refine lv_istore_n (lv' := [(3, .int 0), (2, .int 0), (1, .int (nI (nAn σ))), (0, .ref (ad (0, 0)))]) X.ex X.co dX9_meanGrade_26 rfl hl (by decide) rfl (fun ls hl => ?_)
    have loop_3 : ∀ (fu_2 i : Nat), i ≤ nAn σ → nAn σ < i + fu_2 → ∀ ls : Array Slot, lv_has ls 4 [(3, .int (nI i)), (2, .int (graSum σ i)), (0, .ref (ad (0, 0))), (1, .int (nI (nAn σ)))] → Wx p l e 3 1 6 s m args below meth c (fBd G A (ad (0, 0)) (fMeanGrade σ)) (fXd ["java/lang/ArithmeticException"] G A (ad (0, 0)) (fMeanGrade σ)) A s.heap [] 0 0 27 ls [] := by
      intro fu_2
      induction fu_2 with
      | zero => intro i h_5 h_6; exact absurd h_6 (by omega)
      | succ fu_2 ih_4 =>
        intro i h_5 h_6 ls hl
        refine lv_iload_n X.ex X.co dX9_meanGrade_27 rfl (lv_at hl 0 rfl) ?_
        refine lv_iload_n X.ex X.co dX9_meanGrade_28 rfl (lv_at hl 3 rfl) ?_
        refine n_cmp_ge X (x := i) (y := nAn σ) (tgt := 55) (by omega) (by omega) dX9_meanGrade_29 (by decide) (fun c_7 => ?_) (fun c_7 => ?_)
        · have hq_8 : i = nAn σ := by omega
          rw [hq_8] at hl
          refine lv_iload_n X.ex X.co dX9_meanGrade_55 rfl (lv_at hl 1 rfl) ?_
          refine lv_i2d X.ex X.co dX9_meanGrade_56 ?_
          refine lv_iload_n X.ex X.co dX9_meanGrade_57 rfl (lv_at hl 3 rfl) ?_
          refine lv_i2d X.ex X.co dX9_meanGrade_58 ?_
          refine lv_ddiv X.ex X.co dX9_meanGrade_59 (fp_mean _ (nI_nz (by omega) (by omega))) ?_
          exact vx_ret (c_d X hS rfl (by have q : fMeanGrade σ = ((FP.ddiv (FP.i2d (graSum σ (nAn σ))) (FP.i2d (nI (nAn σ)))), σ) := (by simp only [fMeanGrade]; rw [if_neg (show ¬ nAn σ = 0 by omega)]); rw [q]; exact ⟨rfl, h0, ⟨g, ad, rfl, ⟨hC, hgr, hwt, hsb⟩, F⟩⟩) (by omega) (by omega) dX9_meanGrade_60)
        · refine lv_iload_n X.ex X.co dX9_meanGrade_32 rfl (lv_at hl 1 rfl) ?_
          refine lv_aload_n X.ex X.co dX9_meanGrade_33 rfl (lv_at hl 2 rfl) ?_
          refine f_get X hK (cw_be F) okX9 rfl 4 (by decide) m_110 (fun _ h => h) (v := .ref (ad (1, 4))) rfl dX9_meanGrade_34 ?_
          refine lv_iload_n X.ex X.co dX9_meanGrade_37 rfl (lv_at hl 0 rfl) ?_
          refine q_rV X ce_Jx4a65c_get_915e3 m_164 (c_getR l G (ad (1, 4)) (g.2.1 (4)) (lrow G g ad (4)) (nAn σ) (g.1 (4)) (cont (lstN σ (4)) ad) i (by omega) (cl_n hC (Or.inl (by omega)) rng_len) (cl_q hC (Or.inl (by omega))) (cont_get (j := (7, i)) (rng_get (k := 7) (show i < nAn σ by omega)))) (g0.step hS hAg) (cw_get F hC (k := 4) (x := i) (n := nAn σ) (Or.inl (by omega)) rng_len (by omega)) (cw_get F hC (k := 4) (x := i) (n := nAn σ) (Or.inl (by omega)) rng_len (by omega)).1 rfl (by decide) rfl hl.1 rfl (Nat.le_of_ble_eq_true rfl) dX9_meanGrade_38 (by omega) (by omega) ?_
          refine f_castS X hK (cw_an F (i := i) (by omega)) rfl m_187 dX9_meanGrade_41 ?_
          refine f_get X hK (cw_an F (i := i) (by omega)) okX0 rfl 5 (by decide) m_727 (fun _ h => h) (v := .int (grade σ i)) (by rw [← hgr i (by omega)]; rfl) dX9_meanGrade_44 ?_
          refine lv_iadd X.ex X.co dX9_meanGrade_47 ?_
          refine lv_istore_n (lv' := [(2, .int ((graSum σ i) + (grade σ i))), (3, .int (nI i)), (0, .ref (ad (0, 0))), (1, .int (nI (nAn σ)))]) X.ex X.co dX9_meanGrade_48 rfl hl (by decide) rfl (fun ls hl => ?_)
          refine lv_iinc (v := nI (i + 1)) (lv' := [(3, .int (nI (i + 1))), (2, .int ((graSum σ i) + (grade σ i))), (0, .ref (ad (0, 0))), (1, .int (nI (nAn σ)))]) X.ex X.co dX9_meanGrade_49 hl (k := 1) rfl (n_inc _) (by decide) rfl (fun ls hl => ?_)
          refine lv_goto (tgt := 27) X.ex X.co dX9_meanGrade_52 (by decide) ?_
          have q_9 : (graSum σ (i + 1)) = ((graSum σ i) + (grade σ i)) := by first | rfl | simp [graSum, *]
          exact ih_4 (i + 1) (by omega) (by omega) ls (lv_sub hl [0, 1, 2, 3] (by first | rfl | (rw [q_9] <;> rfl)))
    exact loop_3 (nAn σ + 1) 0 (by omega) (by omega) ls (lv_sub hl [0, 1, 3, 2] rfl)
  · exact x_throwW X hst g0 hAg hS hno (cls := "java/lang/ArithmeticException") (text := "there are no answers") (by decide) m_1246 m_37 ok_ARI (tb_6 (List.mem_of_getElem? (i := 48) (by decide +kernel))) hl.1 dX9_meanGrade_12 dX9_meanGrade_15 dX9_meanGrade_16 dX9_meanGrade_19 dX9_meanGrade_22 (Nat.le_of_ble_eq_true rfl) (by omega) (by omega) (fun H1 hz hq => fXd_err (k := 0) (x := FP.dconst0) (by show fMeanGrade σ = (FP.dconst0, sN σ 0 0 1); simp only [fMeanGrade]; rw [if_pos (show nAn σ = 0 by omega)]) rfl (CB_old (⟨g, ad, rfl, ⟨hC, hgr, hwt, hsb⟩, F⟩ : CB G A (ad (0, 0)) σ _) hq))
set_option maxHeartbeats 4000000 in
set_option maxRecDepth 100000 in
theorem c_X9_standingShare (l : Launch) (hst : l.stackTraces = false) (G : GT) (A : Nat → Prop) (hAg : ∀ q, A q → gA G q) (b : Nat) (σ : Sg) (hI : MI σ) (hJ : MJ σ) (h0 : σ.1 0 0 = 0) : xM l yX9_standingShare cX9_standingShare 2 ((Option.some FieldType.float)) 4 1 6 G [.ref b] (fun H => CB G A b σ H ∧ ∀ q, H.size ≤ q → A q) (fBf G A b (fStandingShare σ)) (fXf ["java/lang/ArithmeticException"] G A b (fStandingShare σ)) A := by
  refine mk_x (by decide) (Nat.le_of_ble_eq_true rfl) ?_
  intro p e s m args below meth c X ls hl g0 F hno
  obtain ⟨⟨g, ad, hb0, ⟨hC, hgr, hwt, hsb⟩, F⟩, hfr⟩ := F
  subst hb0
  have hI0 := hI.1
  obtain ⟨b1, b2, b3, b4, b5, b6, b7⟩ := hI0.1
  obtain ⟨b8, b9, b10⟩ := hI.2.1
  have hone := hJ.2.2.2.2.2
  have hK := g0.1
  have hS : va_S A s.heap s.heap [] := va_S.rf
  have hl : lv_has ls 2 [(0, .ref (ad (0, 0)))] := hl
  show Wx p l e 4 1 6 s m args below meth c (fBf G A (ad (0, 0)) (fStandingShare σ)) (fXf ["java/lang/ArithmeticException"] G A (ad (0, 0)) (fStandingShare σ)) A s.heap [] 0 0 0 ls []
  refine lv_aload_n X.ex X.co dX9_standingShare_0 rfl (lv_at hl 0 rfl) ?_
  refine f_get X hK (cw_be F) okX9 rfl 6 (by decide) m_112 (fun _ h => h) (v := .ref (ad (1, 6))) rfl dX9_standingShare_1 ?_
  refine q_rV X ce_Jx4a65c_size_8abf5 m_144 (c_Jx4a65c_size_8abf5 l G (ad (1, 6)) (g.2.1 (6)) (lrow G g ad (6)) (nCe σ)) (g0.step hS hAg) (cw_lsn F (k := 6) (n := nCe σ) (Or.inl (by omega)) rng_len) (cw_lsn F (k := 6) (n := nCe σ) (Or.inl (by omega)) rng_len) rfl (by decide) rfl hl.1 rfl (Nat.le_of_ble_eq_true rfl) dX9_standingShare_4 (by omega) (by omega) ?_
  refine lv_istore_n (lv' := [(1, .int (nI (nCe σ))), (0, .ref (ad (0, 0)))]) X.ex X.co dX9_standingShare_7 rfl hl (by decide) rfl (fun ls hl => ?_)
  refine lv_iload_n X.ex X.co dX9_standingShare_8 rfl (lv_at hl 0 rfl) ?_
  refine n_if_ne X (x := nCe σ) (tgt := 23) (by omega) dX9_standingShare_9 (by decide) (fun c_1 => ?_) (fun c_1 => ?_)
  · refine lv_aload_n X.ex X.co dX9_standingShare_23 rfl (lv_at hl 1 rfl) ?_
    refine q_rV X ce_X9_countStanding m_160 (c_X9_countStanding l G A g ad σ hI0 hC) (g0.step hS hAg) F (cw_be F) rfl (by decide) rfl hl.1 rfl (Nat.le_of_ble_eq_true rfl) dX9_standingShare_24 (by omega) (by omega) ?_
    refine lv_i2f X.ex X.co dX9_standingShare_27 ?_
    refine lv_iload_n X.ex X.co dX9_standingShare_28 rfl (lv_at hl 0 rfl) ?_
    refine lv_i2f X.ex X.co dX9_standingShare_29 ?_
    refine lv_fdiv X.ex X.co dX9_standingShare_30 (fp_share _ (nI_nz (by omega) (by omega))) ?_
    exact vx_ret (c_f X hS rfl (by have q : fStandingShare σ = ((FP.fdiv (FP.i2f (nI (stnS σ (nCe σ)))) (FP.i2f (nI (nCe σ)))), σ) := (by simp only [fStandingShare]; rw [if_neg (show ¬ nCe σ = 0 by omega), show nI (nCe σ) - nI (revS σ (nCe σ)) = nI (stnS σ (nCe σ)) from (by have h9 := stn_rev σ (nCe σ); rw [pk_sub (by omega), show nCe σ - revS σ (nCe σ) = stnS σ (nCe σ) by omega])]); rw [q]; exact ⟨rfl, h0, ⟨g, ad, rfl, ⟨hC, hgr, hwt, hsb⟩, F⟩⟩) (by omega) (by omega) dX9_standingShare_31)
  · exact x_throwW X hst g0 hAg hS hno (cls := "java/lang/ArithmeticException") (text := "there are no certificates") (by decide) m_1246 m_37 ok_ARI (tb_6 (List.mem_of_getElem? (i := 73) (by decide +kernel))) hl.1 dX9_standingShare_12 dX9_standingShare_15 dX9_standingShare_16 dX9_standingShare_19 dX9_standingShare_22 (Nat.le_of_ble_eq_true rfl) (by omega) (by omega) (fun H1 hz hq => fXf_err (k := 0) (x := FP.fconst0) (by show fStandingShare σ = (FP.fconst0, sN σ 0 0 1); simp only [fStandingShare]; rw [if_pos (show nCe σ = 0 by omega)]) rfl (CB_old (⟨g, ad, rfl, ⟨hC, hgr, hwt, hsb⟩, F⟩ : CB G A (ad (0, 0)) σ _) hq))
set_option maxHeartbeats 4000000 in
set_option maxRecDepth 100000 in
theorem c_X9_isConsistent (l : Launch) (G : GT) (A : Nat → Prop) (hAg : ∀ q, A q → gA G q) (b : Nat) (σ : Sg) (hI : MI σ) (hJ : MJ σ) (h0 : σ.1 0 0 = 0) : cM l yX9_isConsistent cX9_isConsistent 6 ((Option.some FieldType.boolean)) 5 1 3 G [.ref b] (fun H => CB G A b σ H ∧ ∀ q, H.size ≤ q → A q) (fB G A b (fIsConsistent σ)) A := by
  refine mk_m (by decide) (Nat.le_of_ble_eq_true rfl) ?_
  intro p e s m args below meth c X ls hl g0 F hnm
  obtain ⟨⟨g, ad, hb0, ⟨hC, hgr, hwt, hsb⟩, F⟩, hfr⟩ := F
  subst hb0
  have hI0 := hI.1
  obtain ⟨b1, b2, b3, b4, b5, b6, b7⟩ := hI0.1
  obtain ⟨b8, b9, b10⟩ := hI.2.1
  have hone := hJ.2.2.2.2.2
  have hK := g0.1
  have hS : va_S A s.heap s.heap [] := va_S.rf
  have hl : lv_has ls 6 [(0, .ref (ad (0, 0)))] := hl
  show Wc p l e 5 1 3 s m args below meth c (fB G A (ad (0, 0)) (fIsConsistent σ)) A s.heap [] 0 0 0 ls []
  refine lv_iconst (v := 0) X.ex X.co dX9_isConsistent_0 (by decide) ?_
  refine lv_istore_n (lv' := [(1, .int 0), (0, .ref (ad (0, 0)))]) X.ex X.co dX9_isConsistent_1 rfl hl (by decide) rfl (fun ls hl => ?_)
  have loop_2 : ∀ (fu_1 i : Nat), i ≤ nAn σ → nAn σ < i + fu_1 → ∀ ls : Array Slot, lv_has ls 6 [(1, .int (nI i)), (0, .ref (ad (0, 0)))] → Wc p l e 5 1 3 s m args below meth c (fB G A (ad (0, 0)) (fIsConsistent σ)) A s.heap [] 0 0 2 ls [] := by
    intro fu_1
    induction fu_1 with
    | zero => intro i h_4 h_5; exact absurd h_5 (by omega)
    | succ fu_1 ih_3 =>
      intro i h_4 h_5 ls hl
      refine lv_iload_n X.ex X.co dX9_isConsistent_2 rfl (lv_at hl 0 rfl) ?_
      refine lv_aload_n X.ex X.co dX9_isConsistent_3 rfl (lv_at hl 1 rfl) ?_
      refine f_get X hK (cw_be F) okX9 rfl 4 (by decide) m_110 (fun _ h => h) (v := .ref (ad (1, 4))) rfl dX9_isConsistent_4 ?_
      refine q_rV X ce_Jx4a65c_size_8abf5 m_144 (c_Jx4a65c_size_8abf5 l G (ad (1, 4)) (g.2.1 (4)) (lrow G g ad (4)) (nAn σ)) (g0.step hS hAg) (cw_lsn F (k := 4) (n := nAn σ) (Or.inl (by omega)) rng_len) (cw_lsn F (k := 4) (n := nAn σ) (Or.inl (by omega)) rng_len) rfl (by decide) rfl hl.1 rfl (Nat.le_of_ble_eq_true rfl) dX9_isConsistent_7 (by omega) (by omega) ?_
      refine n_cmp_ge X (x := i) (y := nAn σ) (tgt := 52) (by omega) (by omega) dX9_isConsistent_10 (by decide) (fun c_6 => ?_) (fun c_6 => ?_)
      · refine lv_aload_n X.ex X.co dX9_isConsistent_52 rfl (lv_at hl 1 rfl) ?_
        refine q_xV (w := fun q => .ref q) X ce_X9_now m_206 (c_X9_now l G trivial A hAg g ad σ hI0 hC) (g0.step hS hAg) ⟨F, (fun q hq => hfr q (Nat.le_trans hS.1 hq))⟩ (cw_be F) rfl (by decide) rfl hl.1 rfl (Nat.le_of_ble_eq_true rfl) dX9_isConsistent_53 (by show _ ≤ 1; omega) (by show _ ≤ 3; omega) hS (fun _ h => h) (fun q_7 H locs F hz hk9 hS => ?_)
        have hmo : va_at G.1 vwCl (q_7, eMo (dayV σ) (nEx σ) (nAn σ)) H := fw.get F (Or.inr rfl) (iup_s _ _ _) (iup_s _ _ _)
        have Fn := F
        have F : cw G g A ad σ H := cw_drop (t := (10, nCe σ)) (show ¬ nCe σ < nCe σ by omega) F
        refine lv_astore_n (lv' := [(1, .ref q_7), (0, .ref (ad (0, 0)))]) X.ex X.co dX9_isConsistent_56 rfl hl (by decide) rfl (fun ls hl => ?_)
        refine lv_iconst (v := 0) X.ex X.co dX9_isConsistent_57 (by decide) ?_
        refine lv_istore_n (lv' := [(2, .int 0), (1, .ref q_7), (0, .ref (ad (0, 0)))]) X.ex X.co dX9_isConsistent_58 rfl hl (by decide) rfl (fun ls hl => ?_)
        have loop_9 : ∀ (fu_8 k : Nat), k ≤ nSt σ → nSt σ < k + fu_8 → ∀ ls : Array Slot, lv_has ls 6 [(2, .int (nI k)), (0, .ref (ad (0, 0))), (1, .ref q_7)] → Wc p l e 5 1 3 s m args below meth c (fB G A (ad (0, 0)) (fIsConsistent σ)) A H locs (0 + 1) (0 + 3) 59 ls [] := by
          intro fu_8
          induction fu_8 with
          | zero => intro k h_11 h_12; exact absurd h_12 (by omega)
          | succ fu_8 ih_10 =>
            intro k h_11 h_12 ls hl
            refine lv_iload_n X.ex X.co dX9_isConsistent_59 rfl (lv_at hl 0 rfl) ?_
            refine lv_aload_n X.ex X.co dX9_isConsistent_60 rfl (lv_at hl 1 rfl) ?_
            refine f_get X hK (cw_be F) okX9 rfl 1 (by decide) m_107 (fun _ h => h) (v := .ref (ad (1, 1))) rfl dX9_isConsistent_61 ?_
            refine q_rV X ce_Jx4a65c_size_8abf5 m_144 (c_Jx4a65c_size_8abf5 l G (ad (1, 1)) (g.2.1 (1)) (lrow G g ad (1)) (nSt σ)) (g0.step hS hAg) (cw_lsn F (k := 1) (n := nSt σ) (Or.inl (by omega)) rng_len) (cw_lsn F (k := 1) (n := nSt σ) (Or.inl (by omega)) rng_len) rfl (by decide) rfl hl.1 rfl (Nat.le_of_ble_eq_true rfl) dX9_isConsistent_64 (by omega) (by omega) ?_
            refine n_cmp_ge X (x := k) (y := nSt σ) (tgt := 142) (by omega) (by omega) dX9_isConsistent_67 (by decide) (fun c_13 => ?_) (fun c_13 => ?_)
            · refine lv_iconst (v := 1) X.ex X.co dX9_isConsistent_142 (by decide) ?_
              exact c_i X hS rfl (by decide) ⟨rfl, h0, ⟨g, ad, rfl, ⟨hC, hgr, hwt, hsb⟩, F⟩⟩ (by omega) (by omega) dX9_isConsistent_143
            · refine lv_iconst (v := 0) X.ex X.co dX9_isConsistent_70 (by decide) ?_
              refine lv_istore_n (lv' := [(3, .int 0), (2, .int (nI k)), (0, .ref (ad (0, 0))), (1, .ref q_7)]) X.ex X.co dX9_isConsistent_71 rfl hl (by decide) rfl (fun ls hl => ?_)
              have loop_15 : ∀ (fu_14 j : Nat), j ≤ nLe σ → nLe σ < j + fu_14 → ∀ ls : Array Slot, lv_has ls 6 [(3, .int (nI j)), (0, .ref (ad (0, 0))), (1, .ref q_7), (2, .int (nI k))] → Wc p l e 5 1 3 s m args below meth c (fB G A (ad (0, 0)) (fIsConsistent σ)) A H locs (0 + 1) (0 + 3) 72 ls [] := by
                intro fu_14
                induction fu_14 with
                | zero => intro j h_17 h_18; exact absurd h_18 (by omega)
                | succ fu_14 ih_16 =>
                  intro j h_17 h_18 ls hl
                  refine lv_iload_n X.ex X.co dX9_isConsistent_72 rfl (lv_at hl 0 rfl) ?_
                  refine lv_aload_n X.ex X.co dX9_isConsistent_73 rfl (lv_at hl 1 rfl) ?_
                  refine f_get X hK (cw_be F) okX9 rfl 2 (by decide) m_108 (fun _ h => h) (v := .ref (ad (1, 2))) rfl dX9_isConsistent_74 ?_
                  refine q_rV X ce_Jx4a65c_size_8abf5 m_144 (c_Jx4a65c_size_8abf5 l G (ad (1, 2)) (g.2.1 (2)) (lrow G g ad (2)) (nLe σ)) (g0.step hS hAg) (cw_lsn F (k := 2) (n := nLe σ) (Or.inl (by omega)) rng_len) (cw_lsn F (k := 2) (n := nLe σ) (Or.inl (by omega)) rng_len) rfl (by decide) rfl hl.1 rfl (Nat.le_of_ble_eq_true rfl) dX9_isConsistent_77 (by omega) (by omega) ?_
                  refine n_cmp_ge X (x := j) (y := nLe σ) (tgt := 136) (by omega) (by omega) dX9_isConsistent_80 (by decide) (fun c_19 => ?_) (fun c_19 => ?_)
                  · refine lv_iinc (v := nI (k + 1)) (lv' := [(2, .int (nI (k + 1))), (3, .int (nI j)), (0, .ref (ad (0, 0))), (1, .ref q_7)]) X.ex X.co dX9_isConsistent_136 hl (k := 3) rfl (n_inc _) (by decide) rfl (fun ls hl => ?_)
                    refine lv_goto (tgt := 59) X.ex X.co dX9_isConsistent_139 (by decide) ?_
                    exact ih_10 (k + 1) (by omega) (by omega) ls (lv_sub hl [0, 2, 3] rfl)
                  · refine lv_aload_n X.ex X.co dX9_isConsistent_83 rfl (lv_at hl 1 rfl) ?_
                    refine f_get X hK (cw_be F) okX9 rfl 1 (by decide) m_107 (fun _ h => h) (v := .ref (ad (1, 1))) rfl dX9_isConsistent_84 ?_
                    refine lv_iload_n X.ex X.co dX9_isConsistent_87 rfl (lv_at hl 3 rfl) ?_
                    refine q_rV X ce_Jx4a65c_get_915e3 m_164 (c_getR l G (ad (1, 1)) (g.2.1 (1)) (lrow G g ad (1)) (nSt σ) (g.1 (1)) (cont (lstN σ (1)) ad) k (by omega) (cl_n hC (Or.inl (by omega)) rng_len) (cl_q hC (Or.inl (by omega))) (cont_get (j := (4, k)) (rng_get (k := 4) (show k < nSt σ by omega)))) (g0.step hS hAg) (cw_get F hC (k := 1) (x := k) (n := nSt σ) (Or.inl (by omega)) rng_len (by omega)) (cw_get F hC (k := 1) (x := k) (n := nSt σ) (Or.inl (by omega)) rng_len (by omega)).1 rfl (by decide) rfl hl.1 rfl (Nat.le_of_ble_eq_true rfl) dX9_isConsistent_88 (by omega) (by omega) ?_
                    refine f_castS X hK (cw_st F (i := k) (by omega)) rfl m_230 dX9_isConsistent_91 ?_
                    refine lv_astore (lv' := [(4, .ref (ad (4, k))), (3, .int (nI j)), (0, .ref (ad (0, 0))), (1, .ref q_7), (2, .int (nI k))]) X.ex X.co dX9_isConsistent_94 hl (by decide) rfl (fun ls hl => ?_)
                    refine lv_aload_n X.ex X.co dX9_isConsistent_96 rfl (lv_at hl 2 rfl) ?_
                    refine f_get X hK (cw_be F) okX9 rfl 2 (by decide) m_108 (fun _ h => h) (v := .ref (ad (1, 2))) rfl dX9_isConsistent_97 ?_
                    refine lv_iload_n X.ex X.co dX9_isConsistent_100 rfl (lv_at hl 1 rfl) ?_
                    refine q_rV X ce_Jx4a65c_get_915e3 m_164 (c_getR l G (ad (1, 2)) (g.2.1 (2)) (lrow G g ad (2)) (nLe σ) (g.1 (2)) (cont (lstN σ (2)) ad) j (by omega) (cl_n hC (Or.inl (by omega)) rng_len) (cl_q hC (Or.inl (by omega))) (cont_get (j := (5, j)) (rng_get (k := 5) (show j < nLe σ by omega)))) (g0.step hS hAg) (cw_get F hC (k := 2) (x := j) (n := nLe σ) (Or.inl (by omega)) rng_len (by omega)) (cw_get F hC (k := 2) (x := j) (n := nLe σ) (Or.inl (by omega)) rng_len (by omega)).1 rfl (by decide) rfl hl.1 rfl (Nat.le_of_ble_eq_true rfl) dX9_isConsistent_101 (by omega) (by omega) ?_
                    refine f_castS X hK (cw_le F (i := j) (by omega)) rfl m_231 dX9_isConsistent_104 ?_
                    refine lv_astore (lv' := [(5, .ref (ad (5, j))), (4, .ref (ad (4, k))), (3, .int (nI j)), (0, .ref (ad (0, 0))), (1, .ref q_7), (2, .int (nI k))]) X.ex X.co dX9_isConsistent_107 hl (by decide) rfl (fun ls hl => ?_)
                    refine lv_aload X.ex X.co dX9_isConsistent_109 (lv_at hl 0 rfl) ?_
                    refine lv_aload X.ex X.co dX9_isConsistent_111 (lv_at hl 1 rfl) ?_
                    refine lv_aload_n X.ex X.co dX9_isConsistent_113 rfl (lv_at hl 4 rfl) ?_
                    refine q_rV X ce_X5_masteryAt m_232 (c_X5_masteryAt l G A g ad σ hI0 hC hgr k j q_7 (nEx σ) (nAn σ) (dayV σ) (by omega) (by omega) (by omega) (by omega)) (g0.step hS hAg) ⟨F, hmo⟩ (cw_le F (i := j) (by omega)) rfl (by decide) rfl hl.1 rfl (Nat.le_of_ble_eq_true rfl) dX9_isConsistent_114 (by omega) (by omega) ?_
                    refine lv_aload_n X.ex X.co dX9_isConsistent_117 rfl (lv_at hl 3 rfl) ?_
                    refine lv_aload X.ex X.co dX9_isConsistent_118 (lv_at hl 1 rfl) ?_
                    refine lv_aload X.ex X.co dX9_isConsistent_120 (lv_at hl 0 rfl) ?_
                    refine q_rV X ce_X9_masteryByRules m_254 (c_X9_masteryByRules l G A g ad σ hI0 hC k j (by omega) (by omega)) (g0.step hS hAg) F (cw_be F) rfl (by decide) rfl hl.1 rfl (Nat.le_of_ble_eq_true rfl) dX9_isConsistent_122 (by omega) (by omega) ?_
                    refine lv_icmp_eq (tgt := 130) X.ex X.co dX9_isConsistent_125 (by decide) (fun c_20 => ?_) (fun c_20 => ?_)
                    · refine lv_iinc (v := nI (j + 1)) (lv' := [(3, .int (nI (j + 1))), (5, .ref (ad (5, j))), (4, .ref (ad (4, k))), (0, .ref (ad (0, 0))), (1, .ref q_7), (2, .int (nI k))]) X.ex X.co dX9_isConsistent_130 hl (k := 2) rfl (n_inc _) (by decide) rfl (fun ls hl => ?_)
                      refine lv_goto (tgt := 72) X.ex X.co dX9_isConsistent_133 (by decide) ?_
                      exact ih_16 (j + 1) (by omega) (by omega) ls (lv_sub hl [0, 3, 4, 5] rfl)
                    · exact absurd rfl c_20
              exact loop_15 (nLe σ + 1) 0 (by omega) (by omega) ls (lv_sub hl [0, 2, 3, 1] rfl)
        exact loop_9 (nSt σ + 1) 0 (by omega) (by omega) ls (lv_sub hl [0, 2, 1] rfl)
      · refine lv_aload_n X.ex X.co dX9_isConsistent_13 rfl (lv_at hl 1 rfl) ?_
        refine f_get X hK (cw_be F) okX9 rfl 4 (by decide) m_110 (fun _ h => h) (v := .ref (ad (1, 4))) rfl dX9_isConsistent_14 ?_
        refine lv_iload_n X.ex X.co dX9_isConsistent_17 rfl (lv_at hl 0 rfl) ?_
        refine q_rV X ce_Jx4a65c_get_915e3 m_164 (c_getR l G (ad (1, 4)) (g.2.1 (4)) (lrow G g ad (4)) (nAn σ) (g.1 (4)) (cont (lstN σ (4)) ad) i (by omega) (cl_n hC (Or.inl (by omega)) rng_len) (cl_q hC (Or.inl (by omega))) (cont_get (j := (7, i)) (rng_get (k := 7) (show i < nAn σ by omega)))) (g0.step hS hAg) (cw_get F hC (k := 4) (x := i) (n := nAn σ) (Or.inl (by omega)) rng_len (by omega)) (cw_get F hC (k := 4) (x := i) (n := nAn σ) (Or.inl (by omega)) rng_len (by omega)).1 rfl (by decide) rfl hl.1 rfl (Nat.le_of_ble_eq_true rfl) dX9_isConsistent_18 (by omega) (by omega) ?_
        refine f_castS X hK (cw_an F (i := i) (by omega)) rfl m_187 dX9_isConsistent_21 ?_
        refine f_get X hK (cw_an F (i := i) (by omega)) okX0 rfl 5 (by decide) m_727 (fun _ h => h) (v := .int (grade σ i)) (by rw [← hgr i (by omega)]; rfl) dX9_isConsistent_24 ?_
        refine lv_aload_n X.ex X.co dX9_isConsistent_27 rfl (lv_at hl 1 rfl) ?_
        refine f_get X hK (cw_be F) okX9 rfl 4 (by decide) m_110 (fun _ h => h) (v := .ref (ad (1, 4))) rfl dX9_isConsistent_28 ?_
        refine lv_iload_n X.ex X.co dX9_isConsistent_31 rfl (lv_at hl 0 rfl) ?_
        refine q_rV X ce_Jx4a65c_get_915e3 m_164 (c_getR l G (ad (1, 4)) (g.2.1 (4)) (lrow G g ad (4)) (nAn σ) (g.1 (4)) (cont (lstN σ (4)) ad) i (by omega) (cl_n hC (Or.inl (by omega)) rng_len) (cl_q hC (Or.inl (by omega))) (cont_get (j := (7, i)) (rng_get (k := 7) (show i < nAn σ by omega)))) (g0.step hS hAg) (cw_get F hC (k := 4) (x := i) (n := nAn σ) (Or.inl (by omega)) rng_len (by omega)) (cw_get F hC (k := 4) (x := i) (n := nAn σ) (Or.inl (by omega)) rng_len (by omega)).1 rfl (by decide) rfl hl.1 rfl (Nat.le_of_ble_eq_true rfl) dX9_isConsistent_32 (by omega) (by omega) ?_
        refine f_castS X hK (cw_an F (i := i) (by omega)) rfl m_187 dX9_isConsistent_35 ?_
        have g_21_1 := hI0.an (i := i) (by omega); have g_21_2 := hI0.ex (i := exe σ i) (by omega); have g_21_3 := allS_b hI0 (e := exe σ i) (by omega) _ (Nat.le_refl _)
        refine q_rV X ce_X0_gradeByRule m_188 (c_X0_gradeByRule l G ad σ (ad (7, i)) (ad (12, i)) (exe σ i) (σ.2 22 i) (σ.2 23 i) (σ.2 25 i) (by omega) (by omega)) (g0.step hS hAg) ⟨cw_exC F (i := exe σ i) (by omega), cw_an F (i := i) (by omega), cw_ra F (i := i) (by omega)⟩ (cw_an F (i := i) (by omega)) rfl (by decide) rfl hl.1 rfl (Nat.le_of_ble_eq_true rfl) dX9_isConsistent_38 (by omega) (by omega) ?_
        refine top_eq (y := grade σ i) (grade_R hI0 (by omega)) ?_
        refine lv_icmp_eq (tgt := 46) X.ex X.co dX9_isConsistent_41 (by decide) (fun c_22 => ?_) (fun c_22 => ?_)
        · refine lv_iinc (v := nI (i + 1)) (lv' := [(1, .int (nI (i + 1))), (0, .ref (ad (0, 0)))]) X.ex X.co dX9_isConsistent_46 hl (k := 0) rfl (n_inc _) (by decide) rfl (fun ls hl => ?_)
          refine lv_goto (tgt := 2) X.ex X.co dX9_isConsistent_49 (by decide) ?_
          exact ih_3 (i + 1) (by omega) (by omega) ls (lv_sub hl [0, 1] rfl)
        · exact absurd rfl c_22
  exact loop_2 (nAn σ + 1) 0 (by omega) (by omega) ls (lv_sub hl [0, 1] rfl)
set_option maxHeartbeats 4000000 in
set_option maxRecDepth 100000 in
theorem c_X9_lineAt (l : Launch) (hst : l.stackTraces = false) (G : GT) (A : Nat → Prop) (hAg : ∀ q, A q → gA G q) (b : Nat) (σ : Sg) (hI : MI σ) (hJ : MJ σ) (h0 : σ.1 0 0 = 0) (qa : Int32) : xM l yX9_lineAt cX9_lineAt 2 ((Option.some FieldType.char)) 5 1 6 G [.ref b, .int qa] (fun H => CB G A b σ H ∧ ∀ q, H.size ≤ q → A q) (fB G A b (fLineAt σ qa)) (fX ["java/lang/IndexOutOfBoundsException"] G A b (fLineAt σ qa)) A := by
  refine mk_x (by decide) (Nat.le_of_ble_eq_true rfl) ?_
  intro p e s m args below meth c X ls hl g0 F hno
  obtain ⟨⟨g, ad, hb0, ⟨hC, hgr, hwt, hsb⟩, F⟩, hfr⟩ := F
  subst hb0
  have hI0 := hI.1
  obtain ⟨b1, b2, b3, b4, b5, b6, b7⟩ := hI0.1
  obtain ⟨b8, b9, b10⟩ := hI.2.1
  have hone := hJ.2.2.2.2.2
  have hK := g0.1
  have hS : va_S A s.heap s.heap [] := va_S.rf
  have hl : lv_has ls 2 [(0, .ref (ad (0, 0))), (1, .int qa)] := hl
  show Wx p l e 5 1 6 s m args below meth c (fB G A (ad (0, 0)) (fLineAt σ qa)) (fX ["java/lang/IndexOutOfBoundsException"] G A (ad (0, 0)) (fLineAt σ qa)) A s.heap [] 0 0 0 ls []
  rcases hok_1 : okP qa (nSz σ) with _ | _
  · refine lv_iload_n X.ex X.co dX9_lineAt_0 rfl (lv_at hl 1 rfl) ?_
    refine lv_if_lt (tgt := 15) X.ex X.co dX9_lineAt_1 (by decide) (fun c_2 => ?_) (fun c_2 => ?_)
    · exact x_throwW X hst g0 hAg hS hno (cls := "java/lang/IndexOutOfBoundsException") (text := "no such character") (by decide) m_473 m_20 ok_IOB (tb_6 (List.mem_of_getElem? (i := 18) (by decide +kernel))) hl.1 dX9_lineAt_15 dX9_lineAt_18 dX9_lineAt_19 dX9_lineAt_22 dX9_lineAt_25 (Nat.le_of_ble_eq_true rfl) (by omega) (by omega) (fun H1 hz hq => fX_err (k := 0) (by show (fLineAt σ qa) = err σ 1; simp only [fLineAt]; simp [hok_1]) rfl (CB_old (⟨g, ad, rfl, ⟨hC, hgr, hwt, hsb⟩, F⟩ : CB G A (ad (0, 0)) σ _) hq))
    · refine lv_iload_n X.ex X.co dX9_lineAt_4 rfl (lv_at hl 1 rfl) ?_
      refine lv_aload_n X.ex X.co dX9_lineAt_5 rfl (lv_at hl 0 rfl) ?_
      refine f_get X hK (cw_be F) okX9 rfl 9 (by decide) m_115 (fun _ h => h) (v := .ref (ad (15, 0))) rfl dX9_lineAt_6 ?_
      refine q_rV X ce_J4_length_8abf5 m_1323 (c_J4_length_8abf5 l G (ad (15, 0)) (ad (16, 0)) (g.2.2.1 3 0) (nSz σ)) (g0.step hS hAg) (cw_sb F) (cw_sb F) rfl (by decide) rfl hl.1 rfl (Nat.le_of_ble_eq_true rfl) dX9_lineAt_9 (by omega) (by omega) ?_
      refine lv_icmp_lt (tgt := 26) X.ex X.co dX9_lineAt_12 (by decide) (fun c_3 => ?_) (fun c_3 => ?_)
      · exact absurd c_3 (okP_no (by omega) hok_1 c_2)
      · exact x_throwW X hst g0 hAg hS hno (cls := "java/lang/IndexOutOfBoundsException") (text := "no such character") (by decide) m_473 m_20 ok_IOB (tb_6 (List.mem_of_getElem? (i := 18) (by decide +kernel))) hl.1 dX9_lineAt_15 dX9_lineAt_18 dX9_lineAt_19 dX9_lineAt_22 dX9_lineAt_25 (Nat.le_of_ble_eq_true rfl) (by omega) (by omega) (fun H1 hz hq => fX_err (k := 0) (by show (fLineAt σ qa) = err σ 1; simp only [fLineAt]; simp [hok_1]) rfl (CB_old (⟨g, ad, rfl, ⟨hC, hgr, hwt, hsb⟩, F⟩ : CB G A (ad (0, 0)) σ _) hq))
  · have ok_qa := hok_1
    obtain ⟨j_qa, hj_qa, rfl⟩ := (okP_ix (by omega)).mp ok_qa
    have ex_qa := ix_nI (j := j_qa) (by omega)
    refine lv_iload_n X.ex X.co dX9_lineAt_0 rfl (lv_at hl 1 rfl) ?_
    refine n_if_lt X (x := j_qa) (tgt := 15) (by omega) dX9_lineAt_1 (by decide) (fun c_4 => ?_) (fun c_4 => ?_)
    · exact c_4.elim
    · refine lv_iload_n X.ex X.co dX9_lineAt_4 rfl (lv_at hl 1 rfl) ?_
      refine lv_aload_n X.ex X.co dX9_lineAt_5 rfl (lv_at hl 0 rfl) ?_
      refine f_get X hK (cw_be F) okX9 rfl 9 (by decide) m_115 (fun _ h => h) (v := .ref (ad (15, 0))) rfl dX9_lineAt_6 ?_
      refine q_rV X ce_J4_length_8abf5 m_1323 (c_J4_length_8abf5 l G (ad (15, 0)) (ad (16, 0)) (g.2.2.1 3 0) (nSz σ)) (g0.step hS hAg) (cw_sb F) (cw_sb F) rfl (by decide) rfl hl.1 rfl (Nat.le_of_ble_eq_true rfl) dX9_lineAt_9 (by omega) (by omega) ?_
      refine n_cmp_lt X (x := j_qa) (y := nSz σ) (tgt := 26) (by omega) (by omega) dX9_lineAt_12 (by decide) (fun c_5 => ?_) (fun c_5 => ?_)
      · refine lv_aload_n X.ex X.co dX9_lineAt_26 rfl (lv_at hl 0 rfl) ?_
        refine f_get X hK (cw_be F) okX9 rfl 9 (by decide) m_115 (fun _ h => h) (v := .ref (ad (15, 0))) rfl dX9_lineAt_27 ?_
        refine lv_iload_n X.ex X.co dX9_lineAt_30 rfl (lv_at hl 1 rfl) ?_
        obtain ⟨x_6, x_6_1, x_6_2, x_6_3⟩ := hsb.2.2.1 j_qa (by omega)
        refine q_rV X ce_J4_charAt_5068e m_1332 (c_J4_charAt_5068e l G (ad (15, 0)) (ad (16, 0)) (g.2.2.1 3 0) (nSz σ) g.2.2.2.1 j_qa x_6 g.2.2.2.2 (by omega) hsb.1 (Nat.lt_of_le_of_lt hsb.2.1 (by decide)) x_6_2 x_6_1) (g0.step hS hAg) ⟨cw_sb F, cw_sa F⟩ (cw_sb F) rfl (by decide) rfl hl.1 rfl (Nat.le_of_ble_eq_true rfl) dX9_lineAt_31 (by omega) (by omega) ?_
        exact vx_ret (c_i X hS rfl (pk_charN (show x_6 < 65536 by omega)).1 (by have q : (fLineAt σ (nI j_qa)) = (nI x_6, σ) := (by simp only [fLineAt]; simp [x_6_3, ok_qa, ex_qa]); rw [q]; exact ⟨rfl, h0, ⟨g, ad, rfl, ⟨hC, hgr, hwt, hsb⟩, F⟩⟩) (by omega) (by omega) dX9_lineAt_34)
      · exact absurd hj_qa (by omega)
