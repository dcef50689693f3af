theorem ce_X9_dropSettledAppeals : ceV yX9_dropSettledAppeals cX9_dropSettledAppeals 2 ((Option.none : Option FieldType)) 0 := ⟨m_856, mp_16, m_1, m_857, ⟨by decide, by decide, by decide +kernel⟩, by decide⟩
set_option maxHeartbeats 4000000 in
set_option maxRecDepth 100000 in
theorem c_X9_dropSettledAppeals (l : Launch) (G : GT) (A : Nat → Prop) (hAg : ∀ q, A q → gA G q) (g : CG) (ad : I2 → Nat) (σ : Sg) (hI0 : MI0 σ) (L : Nat → List I2) (hC : CLL g σ L) (hLo : okL g σ L) (wf : I2 → Bool) (hM : ∀ i ∈ L 7, i.1 = 7 ∧ i.2 < nAn σ ∧ g.2.2.1 1 i.2 = bI (wf i)) (hn : (L 7).length ≤ 100) : cM l yX9_dropSettledAppeals cX9_dropSettledAppeals 2 ((Option.none : Option FieldType)) 3 0 0 G [.ref (ad (0, 0))] (fun H => cwL G g A ad σ L H) (eB none (fun H => ∃ x, cwL G (gls g 7 (g.1 7) x) A ad σ (upL L 7 ((L 7).filter wf)) H)) A := by
  refine mk_m (by decide) (Nat.le_of_ble_eq_true rfl) ?_
  intro p e s m args below meth c X ls hl g0 F hnm
  have hK := g0.1
  have hS : va_S A s.heap s.heap [] := va_S.rf
  obtain ⟨b1, b2, b3, b4, b5, b6, b7⟩ := hI0.1
  obtain ⟨n, hn9⟩ : ∃ n, n = (L 7).length := ⟨_, rfl⟩
  have hl : lv_has ls 2 [(0, .ref (ad (0, 0)))] := hl
  show Wc p l e 3 0 0 s m args below meth c (eB none (fun H => ∃ x, cwL G (gls g 7 (g.1 7) x) A ad σ (upL L 7 ((L 7).filter wf)) H)) A s.heap [] 0 0 0 ls []
  refine lv_aload_n X.ex X.co dX9_dropSettledAppeals_0 rfl (lv_at hl 0 rfl) ?_
  refine f_get X hK (cw_be F) okX9 rfl 7 (by decide) m_113 (fun _ h => h) (v := .ref (ad (1, 7))) rfl dX9_dropSettledAppeals_1 ?_
  refine q_rV X ce_Jx4a65c_size_8abf5 m_144 (c_Jx4a65c_size_8abf5 l G (ad (1, 7)) (g.2.1 (7)) (lrow G g ad (7)) (n)) (g0.step hS hAg) (cw_lsn F (k := 7) (n := n) (Or.inl (show 7 < 9 + nLe σ by omega)) hn9.symm) (cw_lsn F (k := 7) (n := n) (Or.inl (show 7 < 9 + nLe σ by omega)) hn9.symm) rfl (by decide) rfl hl.1 rfl (Nat.le_of_ble_eq_true rfl) dX9_dropSettledAppeals_4 (by omega) (by omega) ?_
  refine lv_iconst (v := 1) X.ex X.co dX9_dropSettledAppeals_7 (by decide) ?_
  refine lv_isub X.ex X.co dX9_dropSettledAppeals_8 ?_
  refine lv_istore_n (lv' := [(1, .int (nI n - 1)), (0, .ref (ad (0, 0)))]) X.ex X.co dX9_dropSettledAppeals_9 rfl hl (by decide) rfl (fun ls hl => ?_)
  have loop_2 : ∀ (fu_1 u : Nat), u ≤ n → n < u + fu_1 → ∀ (H : Heap) (locs : List Loc) (x : Int32), cwL G (gls g 7 (g.1 7) x) A ad σ (upL L 7 (dpL (L 7) wf (n - u))) H → va_S A s.heap H locs → ∀ ls : Array Slot, lv_has ls 2 [(1, .int (nI (n - u) - 1)), (0, .ref (ad (0, 0)))] → Wc p l e 3 0 0 s m args below meth c (eB none (fun H => ∃ x, cwL G (gls g 7 (g.1 7) x) A ad σ (upL L 7 ((L 7).filter wf)) H)) A H locs 0 0 10 ls [] := by
    intro fu_1
    induction fu_1 with
    | zero => intro u h_4 h_5; exact absurd h_5 (by omega)
    | succ fu_1 ih_3 =>
      intro u h_4 h_5 H locs x F hS ls hl
      refine lv_iload_n X.ex X.co dX9_dropSettledAppeals_10 rfl (lv_at hl 0 rfl) ?_
      rcases Nat.eq_zero_or_pos (n - u) with hz | hz
      · refine top_eq (y := -1) (by rw [hz]; rfl) ?_
        refine lv_if_lt (tgt := 46) X.ex X.co dX9_dropSettledAppeals_11 (by decide) (fun c_6 => ?_) (fun c_6 => ?_)
        · exact c_v X hS rfl ⟨rfl, x, by have h9 := F; rw [hz, dpL_0] at h9; exact h9⟩ (by omega) (by omega) dX9_dropSettledAppeals_46
        · exact absurd (by decide) c_6
      · obtain ⟨t, ht⟩ : ∃ t, n - u = t + 1 := ⟨n - u - 1, by omega⟩
        have hti : nI (n - u) - 1 = nI t := by rw [ht]; exact pk_sub (a := t + 1) (b := 1) (by omega)
        rw [hti] at hl
        refine top_eq (y := nI t) hti ?_
        rw [ht] at F
        obtain ⟨i, hi⟩ : ∃ i, (L 7)[t]? = some i := ⟨_, List.getElem?_eq_getElem (by omega)⟩
        obtain ⟨k, a⟩ := i
        obtain ⟨hk, ha, hw⟩ := hM (k, a) (List.mem_of_getElem? hi)
        have hk : k = 7 := hk
        subst hk
        have ha : a < nAn σ := ha
        have hw : g.2.2.1 1 a = bI (wf (7, a)) := hw
        have hg9 : ((upL L 7 (dpL (L 7) wf (t + 1))) 7)[t]? = some (7, a) := by rw [upL_s]; exact dpL_get hi
        have hlt9 := lt_get hg9
        have hC9 : CLL (gls g 7 (g.1 7) x) σ (upL L 7 (dpL (L 7) wf (t + 1))) := CLL_up hC ⟨Nat.le_trans (dpL_l _ _ _) (hC 7 (Or.inl (show 7 < 9 + nLe σ by omega))).1, (hC 7 (Or.inl (show 7 < 9 + nLe σ by omega))).2⟩
        have hLo9 : okL (gls g 7 (g.1 7) x) σ (upL L 7 (dpL (L 7) wf (t + 1))) := okL_up hLo (fun i hi => hLo 7 (Or.inl (show 7 < 9 + nLe σ by omega)) i (dpL_b _ _ _ i hi))
        refine n_if_lt X (x := t) (tgt := 46) (by omega) dX9_dropSettledAppeals_11 (by decide) (fun c_7 => ?_) (fun c_7 => ?_)
        · exact c_7.elim
        · refine lv_aload_n X.ex X.co dX9_dropSettledAppeals_14 rfl (lv_at hl 1 rfl) ?_
          refine f_get X hK (cw_be F) okX9 rfl 7 (by decide) m_113 (fun _ h => h) (v := .ref (ad (1, 7))) rfl dX9_dropSettledAppeals_15 ?_
          refine lv_iload_n X.ex X.co dX9_dropSettledAppeals_18 rfl (lv_at hl 0 rfl) ?_
          refine q_rV X ce_Jx4a65c_get_915e3 m_164 (c_getR l G (ad (1, 7)) ((gls g 7 (g.1 7) x).2.1 7) (lrow G (gls g 7 (g.1 7) x) ad 7) ((upL L 7 (dpL (L 7) wf (t + 1))) 7).length ((gls g 7 (g.1 7) x).1 7) (cont ((upL L 7 (dpL (L 7) wf (t + 1))) 7) ad) t hlt9 (cl_n hC9 (Or.inl (show 7 < 9 + nLe σ by omega)) rfl) (cl_q hC9 (Or.inl (show 7 < 9 + nLe σ by omega))) (cont_get (j := (7, a)) hg9)) (g0.step hS hAg) (cw_get F hC9 (k := 7) (x := t) (n := ((upL L 7 (dpL (L 7) wf (t + 1))) 7).length) (Or.inl (show 7 < 9 + nLe σ by omega)) rfl hlt9) (cw_get F hC9 (k := 7) (x := t) (n := ((upL L 7 (dpL (L 7) wf (t + 1))) 7).length) (Or.inl (show 7 < 9 + nLe σ by omega)) rfl hlt9).1 rfl (by decide) rfl hl.1 rfl (Nat.le_of_ble_eq_true rfl) dX9_dropSettledAppeals_19 (by omega) (by omega) ?_
          refine f_castS X hK (cw_an F (i := a) (by omega)) rfl m_187 dX9_dropSettledAppeals_22 ?_
          refine f_get X hK (cw_an F (i := a) (by omega)) okX0 rfl 7 (by decide) m_731 (fun _ h => h) (v := .int (bI (wf (7, a)))) (by rw [← hw]; rfl) dX9_dropSettledAppeals_25 ?_
          refine b_if_ne X (x := wf (7, a)) (tgt := 40) dX9_dropSettledAppeals_28 (by decide) (fun c_8 => ?_) (fun c_8 => ?_)
          · refine lv_iinc (v := (nI t + Int32.ofInt (-1))) (lv' := [(1, .int (nI t + Int32.ofInt (-1))), (0, .ref (ad (0, 0)))]) X.ex X.co dX9_dropSettledAppeals_40 hl (k := 0) rfl rfl (by decide) rfl (fun ls hl => ?_)
            refine lv_goto (tgt := 10) X.ex X.co dX9_dropSettledAppeals_43 (by decide) ?_
            have F : cwL G (gls g 7 (g.1 7) x) A ad σ (upL L 7 (dpL (L 7) wf (t))) H := by have h9 := F; rw [dpL_k hi c_8] at h9; exact h9
            rw [show t = n - (u + 1) by omega] at F
            have hq9 : nI (n - (u + 1)) - 1 = nI t + Int32.ofInt (-1) := by rw [show n - (u + 1) = t by omega]; exact Int32.sub_eq_add_neg _ _
            rw [← hq9] at hl
            exact ih_3 (u + 1) (by omega) (by omega) _ _ _ F hS ls (lv_sub hl [0, 1] rfl)
          · refine lv_aload_n X.ex X.co dX9_dropSettledAppeals_31 rfl (lv_at hl 1 rfl) ?_
            refine f_get X hK (cw_be F) okX9 rfl 7 (by decide) m_113 (fun _ h => h) (v := .ref (ad (1, 7))) rfl dX9_dropSettledAppeals_32 ?_
            refine lv_iload_n X.ex X.co dX9_dropSettledAppeals_35 rfl (lv_at hl 0 rfl) ?_
            refine q_eV X ce_Jx4a65c_remove_915e3 m_858 (c_rmL l G A hAg (gls g 7 (g.1 7) x) ad σ (upL L 7 (dpL (L 7) wf (t + 1))) hC9 hLo9 7 (Or.inl (show 7 < 9 + nLe σ by omega)) t (7, a) hg9 _ _ rfl rfl) (g0.step hS hAg) F (cw_ls F (k := 7) (Or.inl (show 7 < 9 + nLe σ by omega))) rfl (by decide) rfl hl.1 rfl (Nat.le_of_ble_eq_true rfl) dX9_dropSettledAppeals_36 (by show _ ≤ 0; omega) (by show _ ≤ 0; omega) hS (fun _ h => h) (fun H locs F hz hk9 hS => ?_)
            have F : cwL G (gls g 7 (g.1 7) ((gls g 7 (g.1 7) x).2.1 7 + 1)) A ad σ (upL L 7 (dpL (L 7) wf (t))) H := by have h9 := F; rw [upL_s, upL_upL, gls_gls, gls_1, dpL_r hi c_8] at h9; exact h9
            refine lv_pop X.ex X.co dX9_dropSettledAppeals_39 rfl ?_
            refine lv_iinc (v := (nI t + Int32.ofInt (-1))) (lv' := [(1, .int (nI t + Int32.ofInt (-1))), (0, .ref (ad (0, 0)))]) X.ex X.co dX9_dropSettledAppeals_40 hl (k := 0) rfl rfl (by decide) rfl (fun ls hl => ?_)
            refine lv_goto (tgt := 10) X.ex X.co dX9_dropSettledAppeals_43 (by decide) ?_
            rw [show t = n - (u + 1) by omega] at F
            have hq9 : nI (n - (u + 1)) - 1 = nI t + Int32.ofInt (-1) := by rw [show n - (u + 1) = t by omega]; exact Int32.sub_eq_add_neg _ _
            rw [← hq9] at hl
            exact ih_3 (u + 1) (by omega) (by omega) _ _ _ F hS ls (lv_sub hl [0, 1] rfl)
  exact loop_2 (n + 1) 0 (by omega) (by omega) _ _ _ (by rw [Nat.sub_zero, dpL_n _ _ (by omega), upL_id, gls_id]; exact F) hS ls (lv_sub hl [0, 1] rfl)
set_option maxHeartbeats 4000000 in
set_option maxRecDepth 100000 in
theorem c_X9_withdraw (l : Launch) (hst : l.stackTraces = false) (G : GT) (A : Nat → Prop) (hAg : ∀ q, A q → gA G q) (b : Nat) (σ : Sg) (hI : MI σ) (hJ : MJ σ) (h0 : σ.1 0 0 = 0) (aa : Int32) : xM l yX9_withdraw cX9_withdraw 3 ((Option.some FieldType.int)) 4 1 6 G [.ref b, .int aa] (fun H => CB G A b σ H ∧ ∀ q, H.size ≤ q → A q) (fB G A b (fWithdraw σ aa)) (fX ["java/lang/IndexOutOfBoundsException", "java/util/NoSuchElementException"] G A b (fWithdraw σ aa)) A := by
  refine mk_x (by decide) (Nat.le_of_ble_eq_true rfl) ?_
  intro p e s m args below meth c X ls hl g0 F hno
  obtain ⟨⟨g, ad, hb0, ⟨hC, hgr, hwt, hsb⟩, F⟩, hfr⟩ := F
  subst hb0
  have hI0 := hI.1
  obtain ⟨b1, b2, b3, b4, b5, b6, b7⟩ := hI0.1
  obtain ⟨b8, b9, b10⟩ := hI.2.1
  have hone := hJ.2.2.2.2.2
  have hK := g0.1
  have hS : va_S A s.heap s.heap [] := va_S.rf
  have hLo := lstN_ok (g := g) hI
  have hl : lv_has ls 3 [(0, .ref (ad (0, 0))), (1, .int aa)] := hl
  show Wx p l e 4 1 6 s m args below meth c (fB G A (ad (0, 0)) (fWithdraw σ aa)) (fX ["java/lang/IndexOutOfBoundsException", "java/util/NoSuchElementException"] G A (ad (0, 0)) (fWithdraw σ aa)) A s.heap [] 0 0 0 ls []
  refine lv_aload_n X.ex X.co dX9_withdraw_0 rfl (lv_at hl 0 rfl) ?_
  refine lv_iload_n X.ex X.co dX9_withdraw_1 rfl (lv_at hl 1 rfl) ?_
  rcases hok_1 : okP aa (nAn σ) with _ | _
  · exact x_V X ce_X9_findAnswer m_764 (c_X9_findAnswerX l hst G A hAg g ad σ hI0 hC aa hok_1) (g0.step hS hAg) F (cw_be F) rfl (by decide) rfl hl.1 rfl (Nat.le_of_ble_eq_true rfl) dX9_withdraw_2 (by omega) (by omega) hS (fun _ h => h) hno (fun E H1 hB hz hq => fX_err (k := 0) (by show (fWithdraw σ aa) = err σ 1; simp only [fWithdraw]; simp [hok_1]) (by rw [hB.1]; rfl) (⟨g, ad, rfl, ⟨hC, hgr, hwt, hsb⟩, hB.2⟩ : CB G A (ad (0, 0)) σ H1)) (fun v0 H1 locs1 hB => hB.elim)
  · have ok_aa := hok_1
    obtain ⟨j_aa, hj_aa, rfl⟩ := (okP_ix (by omega)).mp ok_aa
    have ex_aa := ix_nI (j := j_aa) (by omega)
    refine q_rV X ce_X9_findAnswer m_764 (c_X9_findAnswer l G A g ad σ hI0 hC j_aa (by omega)) (g0.step hS hAg) F (cw_be F) rfl (by decide) rfl hl.1 rfl (Nat.le_of_ble_eq_true rfl) dX9_withdraw_2 (by omega) (by omega) ?_
    refine lv_astore_n (lv' := [(2, .ref (ad (7, j_aa))), (0, .ref (ad (0, 0))), (1, .int (nI j_aa))]) X.ex X.co dX9_withdraw_5 rfl hl (by decide) rfl (fun ls hl => ?_)
    refine lv_aload_n X.ex X.co dX9_withdraw_6 rfl (lv_at hl 0 rfl) ?_
    refine f_get X hK (cw_an F (i := j_aa) (by omega)) okX0 rfl 7 (by decide) m_731 (fun _ h => h) (v := .int (bI (waitS σ j_aa (nAp σ)))) (by rw [← hwt j_aa (by omega)]; rfl) dX9_withdraw_7 ?_
    refine b_if_ne X (x := waitS σ j_aa (nAp σ)) (tgt := 23) dX9_withdraw_10 (by decide) (fun c_2 => ?_) (fun c_2 => ?_)
    · refine lv_aload_n X.ex X.co dX9_withdraw_23 rfl (lv_at hl 0 rfl) ?_
      refine lv_iconst (v := 0) X.ex X.co dX9_withdraw_24 (by decide) ?_
      refine f_put X hK F hS (show (cLv g σ) (7, j_aa) from (show j_aa < nAn σ by omega)) rfl (ci := 5) (fs := [.int (nI j_aa), .ref (ad (4, stu σ j_aa)), .ref (ad (6, exe σ j_aa)), .ref (ad (12, j_aa)), .int (σ.2 24 j_aa), .int (g.2.2.1 0 j_aa), .int (σ.2 25 j_aa), .int (g.2.2.1 1 j_aa), .int (σ.2 26 j_aa), .int (g.2.2.1 2 j_aa)]) rfl okX0 rfl 7 (by decide) m_731 (fun _ h => h) rfl (v := .int 0) rfl rfl rfl (Nat.le_of_ble_eq_true rfl) dX9_withdraw_25 (fun H locs F hS => ?_)
      have F : fw G.1 (cLv g σ) ad (iup (cEnL G g ad σ (lstN σ)) (7, j_aa) (.inr (5, [.int (nI j_aa), .ref (ad (4, stu σ j_aa)), .ref (ad (6, exe σ j_aa)), .ref (ad (12, j_aa)), .int (σ.2 24 j_aa), .int (g.2.2.1 0 j_aa), .int (σ.2 25 j_aa), .int 0, .int (σ.2 26 j_aa), .int (g.2.2.1 2 j_aa)]))) A H := F
      have F : cwL G (gAn g j_aa (g.2.2.1 0 j_aa) 0 (g.2.2.1 2 j_aa)) A ad σ (lstN σ) H := by have h9 := upA F; rw [sV_id, sV_id] at h9; exact h9
      have hLo : okL (gAn g j_aa (g.2.2.1 0 j_aa) 0 (g.2.2.1 2 j_aa)) σ (lstN σ) := okL_mono hLo ⟨Nat.le_refl _, Nat.le_refl _, Nat.le_refl _, Nat.le_refl _, Nat.le_refl _, Nat.le_refl _, Nat.le_refl _⟩ (fun k hk => Or.inl hk)
      have hC : CLL (gAn g j_aa (g.2.2.1 0 j_aa) 0 (g.2.2.1 2 j_aa)) σ (lstN σ) := hC
      refine lv_aload_n X.ex X.co dX9_withdraw_28 rfl (lv_at hl 1 rfl) ?_
      refine q_vV X ce_X9_dropSettledAppeals m_854 (c_X9_dropSettledAppeals l G A hAg (gAn g j_aa (g.2.2.1 0 j_aa) 0 (g.2.2.1 2 j_aa)) ad σ hI0 (lstN σ) hC hLo (fun i => decide (i.2 ≠ j_aa)) (wd_M hI (p := fun y => decide (y ≠ j_aa)) (wd_f hwt hI)) (by rw [show (lstN σ 7).length = nAp σ from rng_len]; omega)) (g0.step hS hAg) F (cw_be F) rfl (by decide) rfl hl.1 rfl (Nat.le_of_ble_eq_true rfl) dX9_withdraw_29 (by show _ ≤ 1; omega) (by show _ ≤ 6; omega) hS (fun _ h => h) (fun H locs F hz hk9 hS => ?_)
      obtain ⟨x9, F⟩ := F
      have F : cwL G (gls (gAn g j_aa (g.2.2.1 0 j_aa) 0 (g.2.2.1 2 j_aa)) 7 ((gAn g j_aa (g.2.2.1 0 j_aa) 0 (g.2.2.1 2 j_aa)).1 7) x9) A ad (dropS σ j_aa) (upL (lstN σ) 7 ((lstN σ 7).filter (fun i => decide (i.2 ≠ j_aa)))) H := cwL_sg (sameC_drop σ j_aa) F
      have h79 : (lstN σ 7).filter (fun i => decide (i.2 ≠ j_aa)) = lstN (dropS σ j_aa) 7 := lst7_f (p := fun y => decide (y ≠ j_aa)) (appL_drop σ j_aa)
      have hC : CLL (gls (gAn g j_aa (g.2.2.1 0 j_aa) 0 (g.2.2.1 2 j_aa)) 7 ((gAn g j_aa (g.2.2.1 0 j_aa) 0 (g.2.2.1 2 j_aa)).1 7) x9) σ (upL (lstN σ) 7 ((lstN σ 7).filter (fun i => decide (i.2 ≠ j_aa)))) := CLL_up hC ⟨Nat.le_trans (List.length_filter_le _ _) (hC 7 (Or.inl (show 7 < 9 + nLe σ by omega))).1, (hC 7 (Or.inl (show 7 < 9 + nLe σ by omega))).2⟩
      have b3w : nLe (dropS σ j_aa) = nLe σ := congrFun (dropS_N σ j_aa (k := 7) (by decide) (by decide)) 0
      refine lv_aload_n X.ex X.co dX9_withdraw_32 rfl (lv_at hl 1 rfl) ?_
      refine f_get X hK (cw_be F) okX9 rfl 7 (by decide) m_113 (fun _ h => h) (v := .ref (ad (1, 7))) rfl dX9_withdraw_33 ?_
      refine q_rV X ce_Jx4a65c_size_8abf5 m_144 (c_Jx4a65c_size_8abf5 l G (ad (1, 7)) ((gls (gAn g j_aa (g.2.2.1 0 j_aa) 0 (g.2.2.1 2 j_aa)) 7 ((gAn g j_aa (g.2.2.1 0 j_aa) 0 (g.2.2.1 2 j_aa)).1 7) x9).2.1 (7)) (lrow G (gls (gAn g j_aa (g.2.2.1 0 j_aa) 0 (g.2.2.1 2 j_aa)) 7 ((gAn g j_aa (g.2.2.1 0 j_aa) 0 (g.2.2.1 2 j_aa)).1 7) x9) ad (7)) (nAp (dropS σ j_aa))) (g0.step hS hAg) (cw_lsn F (k := 7) (n := nAp (dropS σ j_aa)) (Or.inl (show 7 < 9 + nLe (dropS σ j_aa) by omega)) (by rw [upL_s, h79]; exact rng_len)) (cw_lsn F (k := 7) (n := nAp (dropS σ j_aa)) (Or.inl (show 7 < 9 + nLe (dropS σ j_aa) by omega)) (by rw [upL_s, h79]; exact rng_len)) rfl (by decide) rfl hl.1 rfl (Nat.le_of_ble_eq_true rfl) dX9_withdraw_36 (by omega) (by omega) ?_
      exact vx_ret (c_i X hS rfl rfl (by have q : (fWithdraw σ (nI j_aa)) = (nI (nAp (dropS σ j_aa)), (dropS σ j_aa)) := (by simp only [fWithdraw]; rw [if_pos ok_aa, ex_aa, if_pos (by simp [c_2])]); rw [q]; exact ⟨rfl, (congrFun (dropS_N σ j_aa (k := 0) (by decide) (by decide)) 0).trans h0, by have e9 := dec_id σ j_aa; have h9 := CB_dec (g := g) (ad := ad) (σ := σ) (j := j_aa) (p := σ.2 25 j_aa) (d := σ.2 26 j_aa) (gr := g.2.2.1 0 j_aa) (fl := g.2.2.1 2 j_aa) hI0 hgr hwt hsb hj_aa (by rw [e9, hgr _ hj_aa]; exact (grade_e ((eqN.rf σ).drop j_aa) ⟨by rw [dropS_V], by rw [dropS_V], by rw [dropS_V], by rw [dropS_V], by rw [dropS_V], by rw [dropS_V]⟩ (by rw [dropS_V])).symm) rfl (lst_same (dec_N σ j_aa _ _) (by rw [e9]; exact h79)) hC rfl (by rw [e9]; exact F); rw [e9] at h9; exact h9⟩) (by omega) (by omega) dX9_withdraw_39)
    · exact x_throwN X hst g0 hAg hS hno (cls := "java/util/NoSuchElementException") (text := "no appeal against it is waiting") (by decide) m_784 m_31 ok_NSE (tb_4 (List.mem_of_getElem? (i := 21) (by decide +kernel))) hl.1 dX9_withdraw_13 dX9_withdraw_16 dX9_withdraw_17 dX9_withdraw_19 dX9_withdraw_22 (Nat.le_of_ble_eq_true rfl) (by omega) (by omega) (fun H1 hz hq => fX_err (k := 1) (by show (fWithdraw σ (nI j_aa)) = err σ 2; simp only [fWithdraw]; rw [if_pos ok_aa, ex_aa, if_neg (by simp [c_2])]) rfl (CB_old (⟨g, ad, rfl, ⟨hC, hgr, hwt, hsb⟩, F⟩ : CB G A (ad (0, 0)) σ _) hq))
set_option maxHeartbeats 4000000 in
set_option maxRecDepth 100000 in
theorem c_X9_decide (l : Launch) (hst : l.stackTraces = false) (G : GT) (A : Nat → Prop) (hAg : ∀ q, A q → gA G q) (b : Nat) (σ : Sg) (hI : MI σ) (hJ : MJ σ) (h0 : σ.1 0 0 = 0) (pa : Int32) : xM l yX9_decide cX9_decide 3 ((Option.some FieldType.int)) 4 1 6 G [.ref b, .int pa] (fun H => CB G A b σ H ∧ ∀ q, H.size ≤ q → A q) (fB G A b (fDecide σ pa)) (fX ["java/lang/IllegalArgumentException", "java/util/NoSuchElementException"] G A b (fDecide σ pa)) A := by
  refine mk_x (by decide) (Nat.le_of_ble_eq_true rfl) ?_
  intro p e s m args below meth c X ls hl g0 F hno
  obtain ⟨⟨g, ad, hb0, ⟨hC, hgr, hwt, hsb⟩, F⟩, hfr⟩ := F
  subst hb0
  have hI0 := hI.1
  obtain ⟨b1, b2, b3, b4, b5, b6, b7⟩ := hI0.1
  obtain ⟨b8, b9, b10⟩ := hI.2.1
  have hone := hJ.2.2.2.2.2
  have hK := g0.1
  have hS : va_S A s.heap s.heap [] := va_S.rf
  have hLo := lstN_ok (g := g) hI
  have hl : lv_has ls 3 [(0, .ref (ad (0, 0))), (1, .int pa)] := hl
  show Wx p l e 4 1 6 s m args below meth c (fB G A (ad (0, 0)) (fDecide σ pa)) (fX ["java/lang/IllegalArgumentException", "java/util/NoSuchElementException"] G A (ad (0, 0)) (fDecide σ pa)) A s.heap [] 0 0 0 ls []
  refine lv_iload_n X.ex X.co dX9_decide_0 rfl (lv_at hl 1 rfl) ?_
  refine lv_iconst (v := 0) X.ex X.co dX9_decide_1 (by decide) ?_
  refine lv_bipush (v := 100) X.ex X.co dX9_decide_2 (by decide) ?_
  refine q_rS X ce_X9_isWithin m_513 (c_X9_isWithin l G pa 0 100) (g0.step hS hAg) trivial (by decide) rfl hl.1 rfl (Nat.le_of_ble_eq_true rfl) dX9_decide_4 (by omega) (by omega) ?_
  refine b_if_ne X (x := inB pa 0 100) (tgt := 20) dX9_decide_7 (by decide) (fun c_1 => ?_) (fun c_1 => ?_)
  · refine lv_aload_n X.ex X.co dX9_decide_20 rfl (lv_at hl 0 rfl) ?_
    refine f_get X hK (cw_be F) okX9 rfl 7 (by decide) m_113 (fun _ h => h) (v := .ref (ad (1, 7))) rfl dX9_decide_21 ?_
    refine q_rV X ce_Jx4a65c_isEmpty_aae02 m_632 (c_Jx4a65c_isEmpty_aae02 l G (ad (1, 7)) (g.2.1 (7)) (lrow G g ad (7)) (nAp σ) (by omega)) (g0.step hS hAg) (cw_lsn F (k := 7) (n := nAp σ) (Or.inl (by omega)) rng_len) (cw_lsn F (k := 7) (n := nAp σ) (Or.inl (by omega)) rng_len) rfl (by decide) rfl hl.1 rfl (Nat.le_of_ble_eq_true rfl) dX9_decide_24 (by omega) (by omega) ?_
    refine b_if_eq X (x := decide (nAp σ = 0)) (tgt := 40) dX9_decide_27 (by decide) (fun c_2 => ?_) (fun c_2 => ?_)
    · refine lv_aload_n X.ex X.co dX9_decide_40 rfl (lv_at hl 0 rfl) ?_
      refine f_get X hK (cw_be F) okX9 rfl 7 (by decide) m_113 (fun _ h => h) (v := .ref (ad (1, 7))) rfl dX9_decide_41 ?_
      refine lv_iconst (v := 0) X.ex X.co dX9_decide_44 (by decide) ?_
      have hap9 : 0 < nAp σ := by have h9 := c_2; simp at h9; omega
      have hd9 : app σ 0 < nAn σ := hI.ap hap9
      refine q_eV X ce_Jx4a65c_remove_915e3 m_858 (c_rmL l G A hAg g ad σ (lstN σ) hC hLo 7 (Or.inl (show 7 < 9 + nLe σ by omega)) 0 (7, app σ 0) (app_get hap9) _ _ rfl rfl) (g0.step hS hAg) F (cw_ls F (k := 7) (Or.inl (show 7 < 9 + nLe σ by omega))) rfl (by decide) rfl hl.1 rfl (Nat.le_of_ble_eq_true rfl) dX9_decide_45 (by show _ ≤ 1; omega) (by show _ ≤ 6; omega) hS (fun _ h => h) (fun H locs F hz hk9 hS => ?_)
      have F : cwL G (gls g 7 (g.1 7) (g.2.1 7 + 1)) A ad σ (upL (lstN σ) 7 ((lstN σ 7).eraseIdx 0)) H := F
      have hC : CLL (gls g 7 (g.1 7) (g.2.1 7 + 1)) σ (upL (lstN σ) 7 ((lstN σ 7).eraseIdx 0)) := CLL_up hC ⟨Nat.le_trans (by rw [List.length_eraseIdx]; split <;> omega) (hC 7 (Or.inl (show 7 < 9 + nLe σ by omega))).1, (hC 7 (Or.inl (show 7 < 9 + nLe σ by omega))).2⟩
      have hLo : okL (gls g 7 (g.1 7) (g.2.1 7 + 1)) σ (upL (lstN σ) 7 ((lstN σ 7).eraseIdx 0)) := okL_up hLo (fun i hi => hLo 7 (Or.inl (show 7 < 9 + nLe σ by omega)) i (List.mem_of_mem_eraseIdx hi))
      refine f_castS X hK (cw_an F (i := app σ 0) (by omega)) rfl m_187 dX9_decide_48 ?_
      refine lv_astore_n (lv' := [(2, .ref (ad (7, app σ 0))), (0, .ref (ad (0, 0))), (1, .int pa)]) X.ex X.co dX9_decide_51 rfl hl (by decide) rfl (fun ls hl => ?_)
      refine lv_aload_n X.ex X.co dX9_decide_52 rfl (lv_at hl 0 rfl) ?_
      refine lv_iconst (v := 0) X.ex X.co dX9_decide_53 (by decide) ?_
      refine f_put X hK F hS (show (cLv (gls g 7 (g.1 7) (g.2.1 7 + 1)) σ) (7, app σ 0) from (show app σ 0 < nAn σ by omega)) rfl (ci := 5) (fs := [.int (nI (app σ 0)), .ref (ad (4, stu σ (app σ 0))), .ref (ad (6, exe σ (app σ 0))), .ref (ad (12, app σ 0)), .int (σ.2 24 (app σ 0)), .int (g.2.2.1 0 (app σ 0)), .int (σ.2 25 (app σ 0)), .int (g.2.2.1 1 (app σ 0)), .int (σ.2 26 (app σ 0)), .int (g.2.2.1 2 (app σ 0))]) rfl okX0 rfl 7 (by decide) m_731 (fun _ h => h) rfl (v := .int 0) rfl rfl rfl (Nat.le_of_ble_eq_true rfl) dX9_decide_54 (fun H locs F hS => ?_)
      have F : fw G.1 (cLv (gls g 7 (g.1 7) (g.2.1 7 + 1)) σ) ad (iup (cEnL G (gls g 7 (g.1 7) (g.2.1 7 + 1)) ad σ (upL (lstN σ) 7 ((lstN σ 7).eraseIdx 0))) (7, app σ 0) (.inr (5, [.int (nI (app σ 0)), .ref (ad (4, stu σ (app σ 0))), .ref (ad (6, exe σ (app σ 0))), .ref (ad (12, app σ 0)), .int (σ.2 24 (app σ 0)), .int (g.2.2.1 0 (app σ 0)), .int (σ.2 25 (app σ 0)), .int 0, .int (σ.2 26 (app σ 0)), .int (g.2.2.1 2 (app σ 0))]))) A H := F
      refine lv_aload_n X.ex X.co dX9_decide_57 rfl (lv_at hl 0 rfl) ?_
      refine lv_iconst (v := 1) X.ex X.co dX9_decide_58 (by decide) ?_
      refine f_put X hK F hS (show (cLv (gls g 7 (g.1 7) (g.2.1 7 + 1)) σ) (7, app σ 0) from (show app σ 0 < nAn σ by omega)) rfl (ci := 5) (fs := [.int (nI (app σ 0)), .ref (ad (4, stu σ (app σ 0))), .ref (ad (6, exe σ (app σ 0))), .ref (ad (12, app σ 0)), .int (σ.2 24 (app σ 0)), .int (g.2.2.1 0 (app σ 0)), .int (σ.2 25 (app σ 0)), .int 0, .int (σ.2 26 (app σ 0)), .int (g.2.2.1 2 (app σ 0))]) (iup_s _ _ _) okX0 rfl 8 (by decide) m_733 (fun _ h => h) rfl (v := .int 1) rfl rfl rfl (Nat.le_of_ble_eq_true rfl) dX9_decide_59 (fun H locs F hS => ?_)
      rw [iup_iup] at F
      have F : fw G.1 (cLv (gls g 7 (g.1 7) (g.2.1 7 + 1)) σ) ad (iup (cEnL G (gls g 7 (g.1 7) (g.2.1 7 + 1)) ad σ (upL (lstN σ) 7 ((lstN σ 7).eraseIdx 0))) (7, app σ 0) (.inr (5, [.int (nI (app σ 0)), .ref (ad (4, stu σ (app σ 0))), .ref (ad (6, exe σ (app σ 0))), .ref (ad (12, app σ 0)), .int (σ.2 24 (app σ 0)), .int (g.2.2.1 0 (app σ 0)), .int (σ.2 25 (app σ 0)), .int 0, .int 1, .int (g.2.2.1 2 (app σ 0))]))) A H := F
      refine lv_aload_n X.ex X.co dX9_decide_62 rfl (lv_at hl 0 rfl) ?_
      refine lv_iload_n X.ex X.co dX9_decide_63 rfl (lv_at hl 2 rfl) ?_
      refine f_put X hK F hS (show (cLv (gls g 7 (g.1 7) (g.2.1 7 + 1)) σ) (7, app σ 0) from (show app σ 0 < nAn σ by omega)) rfl (ci := 5) (fs := [.int (nI (app σ 0)), .ref (ad (4, stu σ (app σ 0))), .ref (ad (6, exe σ (app σ 0))), .ref (ad (12, app σ 0)), .int (σ.2 24 (app σ 0)), .int (g.2.2.1 0 (app σ 0)), .int (σ.2 25 (app σ 0)), .int 0, .int 1, .int (g.2.2.1 2 (app σ 0))]) (iup_s _ _ _) okX0 rfl 6 (by decide) m_729 (fun _ h => h) rfl (v := .int pa) rfl rfl rfl (Nat.le_of_ble_eq_true rfl) dX9_decide_64 (fun H locs F hS => ?_)
      rw [iup_iup] at F
      have F : fw G.1 (cLv (gls g 7 (g.1 7) (g.2.1 7 + 1)) σ) ad (iup (cEnL G (gls g 7 (g.1 7) (g.2.1 7 + 1)) ad σ (upL (lstN σ) 7 ((lstN σ 7).eraseIdx 0))) (7, app σ 0) (.inr (5, [.int (nI (app σ 0)), .ref (ad (4, stu σ (app σ 0))), .ref (ad (6, exe σ (app σ 0))), .ref (ad (12, app σ 0)), .int (σ.2 24 (app σ 0)), .int (g.2.2.1 0 (app σ 0)), .int pa, .int 0, .int 1, .int (g.2.2.1 2 (app σ 0))]))) A H := F
      refine lv_aload_n X.ex X.co dX9_decide_67 rfl (lv_at hl 0 rfl) ?_
      refine lv_aload_n X.ex X.co dX9_decide_68 rfl (lv_at hl 0 rfl) ?_
      have han9 := hI0.an hd9; have hf9 := hI0.ex han9.2.1; have hg9 := allS_b hI0 (e := exe σ (app σ 0)) han9.2.1 _ (Nat.le_refl _)
      refine q_rV X ce_X0_gradeByRule m_188 (c_X0_gradeByRule l G ad σ (ad (7, app σ 0)) (ad (12, app σ 0)) (exe σ (app σ 0)) (σ.2 22 (app σ 0)) (σ.2 23 (app σ 0)) pa (by omega) (by omega)) (g0.step hS hAg) ⟨⟨(fw.get F (show (cLv (gls g 7 (g.1 7) (g.2.1 7 + 1)) σ) (6, exe σ (app σ 0)) from (show exe σ (app σ 0) < nEx σ by omega)) rfl ((iup_n _ _ (kne (by decide))).trans rfl)), (fw.get F (show (cLv (gls g 7 (g.1 7) (g.2.1 7 + 1)) σ) (11, exe σ (app σ 0)) from (show exe σ (app σ 0) < nEx σ by omega)) rfl ((iup_n _ _ (kne (by decide))).trans rfl)), (fw.get F (show (cLv (gls g 7 (g.1 7) (g.2.1 7 + 1)) σ) (13, exe σ (app σ 0)) from (show exe σ (app σ 0) < nEx σ by omega)) rfl ((iup_n _ _ (kne (by decide))).trans rfl)), (fw.get F (show (cLv (gls g 7 (g.1 7) (g.2.1 7 + 1)) σ) (14, exe σ (app σ 0)) from (show exe σ (app σ 0) < nEx σ by omega)) rfl ((iup_n _ _ (kne (by decide))).trans rfl))⟩, (fw.get F (show (cLv (gls g 7 (g.1 7) (g.2.1 7 + 1)) σ) (7, app σ 0) from (show app σ 0 < nAn σ by omega)) rfl (iup_s _ _ _)), (fw.get F (show (cLv (gls g 7 (g.1 7) (g.2.1 7 + 1)) σ) (12, app σ 0) from (show app σ 0 < nAn σ by omega)) rfl ((iup_n _ _ (kne (by decide))).trans rfl))⟩ (fw.get F (show (cLv (gls g 7 (g.1 7) (g.2.1 7 + 1)) σ) (7, app σ 0) from (show app σ 0 < nAn σ by omega)) rfl (iup_s _ _ _)) rfl (by decide) rfl hl.1 rfl (Nat.le_of_ble_eq_true rfl) dX9_decide_69 (by omega) (by omega) ?_
      refine f_put X hK F hS (show (cLv (gls g 7 (g.1 7) (g.2.1 7 + 1)) σ) (7, app σ 0) from (show app σ 0 < nAn σ by omega)) rfl (ci := 5) (fs := [.int (nI (app σ 0)), .ref (ad (4, stu σ (app σ 0))), .ref (ad (6, exe σ (app σ 0))), .ref (ad (12, app σ 0)), .int (σ.2 24 (app σ 0)), .int (g.2.2.1 0 (app σ 0)), .int pa, .int 0, .int 1, .int (g.2.2.1 2 (app σ 0))]) (iup_s _ _ _) okX0 rfl 5 (by decide) m_727 (fun _ h => h) rfl (v := .int (gradR σ (σ.2 22 (app σ 0)) (σ.2 23 (app σ 0)) (exe σ (app σ 0)) pa)) rfl rfl rfl (Nat.le_of_ble_eq_true rfl) dX9_decide_72 (fun H locs F hS => ?_)
      rw [iup_iup] at F
      have F : fw G.1 (cLv (gls g 7 (g.1 7) (g.2.1 7 + 1)) σ) ad (iup (cEnL G (gls g 7 (g.1 7) (g.2.1 7 + 1)) ad σ (upL (lstN σ) 7 ((lstN σ 7).eraseIdx 0))) (7, app σ 0) (.inr (5, [.int (nI (app σ 0)), .ref (ad (4, stu σ (app σ 0))), .ref (ad (6, exe σ (app σ 0))), .ref (ad (12, app σ 0)), .int (σ.2 24 (app σ 0)), .int (gradR σ (σ.2 22 (app σ 0)) (σ.2 23 (app σ 0)) (exe σ (app σ 0)) pa), .int pa, .int 0, .int 1, .int (g.2.2.1 2 (app σ 0))]))) A H := F
      refine lv_aload_n X.ex X.co dX9_decide_75 rfl (lv_at hl 0 rfl) ?_
      refine f_get X hK (fw.get F (show (cLv (gls g 7 (g.1 7) (g.2.1 7 + 1)) σ) (7, app σ 0) from (show app σ 0 < nAn σ by omega)) rfl (iup_s _ _ _)) okX0 rfl 0 (by decide) m_714 (fun _ h => h) (v := .int (nI (app σ 0))) rfl dX9_decide_76 ?_
      have F : cwL G (gAn (gls g 7 (g.1 7) (g.2.1 7 + 1)) (app σ 0) (gradR σ (σ.2 22 (app σ 0)) (σ.2 23 (app σ 0)) (exe σ (app σ 0)) pa) 0 (g.2.2.1 2 (app σ 0))) A ad (sV (sV (dropS σ (app σ 0)) 25 (app σ 0) pa) 26 (app σ 0) 1) (upL (lstN σ) 7 ((lstN σ 7).eraseIdx 0)) H := cwL_sg (sameC_dec σ (app σ 0) pa 1) (upA F)
      exact vx_ret (c_i X hS rfl rfl (by have q : (fDecide σ pa) = (nI (app σ 0), (sV (sV (dropS σ (app σ 0)) 25 (app σ 0) pa) 26 (app σ 0) 1)) := (by simp only [fDecide]; rw [if_pos (by assumption), if_neg (by omega)]); rw [q]; exact ⟨rfl, (congrFun (dropS_N σ (app σ 0) (k := 0) (by decide) (by decide)) 0).trans h0, CB_dec (g := g) (g' := (gAn (gls g 7 (g.1 7) (g.2.1 7 + 1)) (app σ 0) (gradR σ (σ.2 22 (app σ 0)) (σ.2 23 (app σ 0)) (exe σ (app σ 0)) pa) 0 (g.2.2.1 2 (app σ 0)))) (ad := ad) (σ := σ) (j := app σ 0) (p := pa) (d := 1) (fl := g.2.2.1 2 (app σ 0)) hI0 hgr hwt hsb hd9 (dec_gr hI0 hd9 pa 1) rfl (lst_same (dec_N σ (app σ 0) pa 1) (lst7_tl hI hap9)) hC rfl F⟩) (by omega) (by omega) dX9_decide_79)
    · exact x_throwN X hst g0 hAg hS hno (cls := "java/util/NoSuchElementException") (text := "no appeal is waiting") (by decide) m_784 m_31 ok_NSE (tb_4 (List.mem_of_getElem? (i := 46) (by decide +kernel))) hl.1 dX9_decide_30 dX9_decide_33 dX9_decide_34 dX9_decide_36 dX9_decide_39 (Nat.le_of_ble_eq_true rfl) (by omega) (by omega) (fun H1 hz hq => fX_err (k := 1) (by show (fDecide σ pa) = err σ 2; simp only [fDecide]; rw [if_pos (by assumption), if_pos (by simpa using c_2)]) rfl (CB_old (⟨g, ad, rfl, ⟨hC, hgr, hwt, hsb⟩, F⟩ : CB G A (ad (0, 0)) σ _) hq))
  · exact x_throw X hst g0 hAg hS hno (cls := "java/lang/IllegalArgumentException") (text := "the number of points is out of range") (by decide) m_274 m_13 ok_IAE (tb_4 (List.mem_of_getElem? (i := 45) (by decide +kernel))) hl.1 dX9_decide_10 dX9_decide_13 dX9_decide_14 dX9_decide_16 dX9_decide_19 (Nat.le_of_ble_eq_true rfl) (by omega) (by omega) (fun H1 hz hq => fX_err (k := 0) (by show (fDecide σ pa) = err σ 1; simp only [fDecide]; rw [if_neg (by simp [c_1])]) rfl (CB_old (⟨g, ad, rfl, ⟨hC, hgr, hwt, hsb⟩, F⟩ : CB G A (ad (0, 0)) σ _) hq))
