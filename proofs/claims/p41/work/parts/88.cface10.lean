set_option maxHeartbeats 4000000 in
set_option maxRecDepth 100000 in
theorem c_X9_writeAnswer (l : Launch) (hst : l.stackTraces = false) (G : GT) (A : Nat → Prop) (hAg : ∀ q, A q → gA G q) (b : Nat) (σ : Sg) (hI : MI σ) (hJ : MJ σ) (h0 : σ.1 0 0 = 0) (aa : Int32) : xM l yX9_writeAnswer cX9_writeAnswer 3 ((Option.some FieldType.int)) 7 8 2200 G [.ref b, .int aa] (fun H => CB G A b σ H ∧ ∀ q, H.size ≤ q → A q) (fB G A b (fWriteAnswer σ aa)) (fX ["java/lang/IndexOutOfBoundsException"] G A b (fWriteAnswer σ aa)) A := by
  refine mk_x (by decide) (Nat.le_of_ble_eq_true rfl) ?_
  intro p e s m args below meth c X ls hl g0 F hno
  obtain ⟨⟨g, ad, hb0, ⟨hC, hgr, hwt, hsb⟩, F⟩, hfr⟩ := F
  subst hb0
  have hI0 := hI.1
  obtain ⟨b1, b2, b3, b4, b5, b6, b7⟩ := hI0.1
  obtain ⟨b8, b9, b10⟩ := hI.2.1
  have hone := hJ.2.2.2.2.2
  have hK := g0.1
  have hS : va_S A s.heap s.heap [] := va_S.rf
  have hLo := lstN_ok (g := g) hI
  have hl : lv_has ls 3 [(0, .ref (ad (0, 0))), (1, .int aa)] := hl
  show Wx p l e 7 8 2200 s m args below meth c (fB G A (ad (0, 0)) (fWriteAnswer σ aa)) (fX ["java/lang/IndexOutOfBoundsException"] G A (ad (0, 0)) (fWriteAnswer σ aa)) A s.heap [] 0 0 0 ls []
  refine lv_aload_n X.ex X.co dX9_writeAnswer_0 rfl (lv_at hl 0 rfl) ?_
  refine lv_iload_n X.ex X.co dX9_writeAnswer_1 rfl (lv_at hl 1 rfl) ?_
  rcases hok_1 : okP aa (nAn σ) with _ | _
  · exact x_V X ce_X9_findAnswer m_764 (c_X9_findAnswerX l hst G A hAg g ad σ hI0 hC aa hok_1) (g0.step hS hAg) F (cw_be F) rfl (by decide) rfl hl.1 rfl (Nat.le_of_ble_eq_true rfl) dX9_writeAnswer_2 (by omega) (by omega) hS (fun _ h => h) hno (fun E H1 hB hz hq => fX_err (k := 0) (by show (fWriteAnswer σ aa) = err σ 1; simp only [fWriteAnswer]; simp [hok_1]) (by rw [hB.1]; rfl) (⟨g, ad, rfl, ⟨hC, hgr, hwt, hsb⟩, hB.2⟩ : CB G A (ad (0, 0)) σ H1)) (fun v0 H1 locs1 hB => hB.elim)
  · have ok_aa := hok_1
    obtain ⟨j_aa, hj_aa, rfl⟩ := (okP_ix (by omega)).mp ok_aa
    have ex_aa := ix_nI (j := j_aa) (by omega)
    refine q_rV X ce_X9_findAnswer m_764 (c_X9_findAnswer l G A g ad σ hI0 hC j_aa (by omega)) (g0.step hS hAg) F (cw_be F) rfl (by decide) rfl hl.1 rfl (Nat.le_of_ble_eq_true rfl) dX9_writeAnswer_2 (by omega) (by omega) ?_
    refine lv_astore_n (lv' := [(2, .ref (ad (7, j_aa))), (0, .ref (ad (0, 0))), (1, .int (nI j_aa))]) X.ex X.co dX9_writeAnswer_5 rfl hl (by decide) rfl (fun ls hl => ?_)
    obtain ⟨hgg, hgl⟩ := grade_g hI hj_aa
    obtain ⟨p9, hp9, hpe⟩ := hI.pt hj_aa
    refine lv_aload_n X.ex X.co dX9_writeAnswer_6 rfl (lv_at hl 1 rfl) ?_
    refine f_get X hK (cw_be F) okX9 rfl 9 (by decide) m_115 (fun _ h => h) (v := .ref (ad (15, 0))) rfl dX9_writeAnswer_7 ?_
    refine lv_iconst (v := 0) X.ex X.co dX9_writeAnswer_10 (by decide) ?_
    refine q_vV X ce_J4_setLength_d00df m_1264 (c_J4_setLength_d00df l G A hAg (cLv g σ) ad (cEnL G g ad σ (lstN σ)) (15, 0) (16, 0) (kne (by decide)) rfl rfl (ad (15, 0)) (ad (16, 0)) (g.2.2.1 3 0) (nSz σ) g.2.2.2.1 g.2.2.2.2 rfl rfl rfl rfl hsb.1 (Nat.lt_of_le_of_lt hsb.2.1 (by decide))) (g0.step hS hAg) F (cw_sb F) rfl (by decide) rfl hl.1 rfl (Nat.le_of_ble_eq_true rfl) dX9_writeAnswer_11 (by show _ ≤ 8; omega) (by show _ ≤ 2200; omega) hS (fun _ h => h) (fun H locs F hz hk9 hS => ?_)
    obtain ⟨ml, F⟩ := F
    obtain ⟨F, hsb⟩ := sb_0 hsb F
    obtain ⟨m9, hm9⟩ : ∃ z, z = g.2.2.2.1 := ⟨_, rfl⟩
    obtain ⟨f9, hf9⟩ : ∃ z, z = g.2.2.2.2 := ⟨_, rfl⟩
    rw [← hm9, ← hf9] at F hsb
    obtain ⟨τ, hτ⟩ : ∃ τ, τ = sN σ 43 0 0 := ⟨_, rfl⟩
    rw [← hτ] at F hsb
    have hw : eqW τ σ := by rw [hτ]; exact (eqW.rf σ).z 0 0
    have hp : ∀ k, k ≠ 43 → τ.1 k = σ.1 k := fun k hk => by rw [hτ]; exact funext fun y => if_neg (fun z => hk z.1)
    have hz9 : nSz τ = 0 := by rw [hτ]; exact nSz0 σ
    have hna : nAn τ = nAn σ := hw.an
    refine lv_aload_n X.ex X.co dX9_writeAnswer_14 rfl (lv_at hl 1 rfl) ?_
    refine f_get X hK (cw_be F) okX9 rfl 9 (by decide) m_115 (fun _ h => h) (v := .ref (ad (15, 0))) rfl dX9_writeAnswer_15 ?_
    refine f_ldcw X g0.2.1.2.2.2.2.2.1.1 dX9_writeAnswer_18 ?_
    refine q_eV X ce_J4_append_15ec4 m_1317 (c_J4_append_15ec4 l G A hAg (cLv (gSB g ml m9 f9) τ) ad (cEnL G (gSB g ml m9 f9) ad τ (lstN σ)) (15, 0) (16, 0) (kne (by decide)) rfl rfl (ad (15, 0)) (ad (16, 0)) ml (nSz τ) m9 f9 rfl rfl rfl rfl hsb.1 hsb.2.1 (17, 0) (kne (by decide)) (kne (by decide)) (fun z => z) hsb.2.2.2 0 (by decide) (by show _ + 7 ≤ 40; omega)) (g0.step hS hAg) ⟨F, (fun q hq => hfr q (Nat.le_trans hS.1 hq))⟩ (cw_sb F) rfl (by decide) rfl hl.1 rfl (Nat.le_of_ble_eq_true rfl) dX9_writeAnswer_21 (by show _ ≤ 8; omega) (by show _ ≤ 2200; omega) hS (fun _ h => h) (fun H locs F hz hk9 hS => ?_)
    obtain ⟨q2, m2, f2, F, hsb⟩ := sb_app (tTx_l 0 (by decide)) rfl (tTx_b 0 (by decide)) (tTx_e 0 (by decide)) hsb (okL_N hw.1 hLo) F
    have hw : eqW (putL τ (tTx 0)) σ := hw.l (tTx 0)
    have hp : ∀ k, k ≠ 43 → (putL τ (tTx 0)).1 k = σ.1 k := fun k hk => by rw [putL_1s]; exact (funext fun y => if_neg (fun z => hk z.1) : (sN τ 43 0 (nSz τ + (tTx 0).length)).1 k = τ.1 k).trans (hp k hk)
    have hz9 : nSz (putL τ (tTx 0)) ≤ 7 := by rw [putL_sz]; have h9 : (tTx 0).length = 7 := rfl; omega
    have hz8 : nSz (putL τ (tTx 0)) = nSz τ + (tTx 0).length := putL_sz _ _
    obtain ⟨τ2, hτ2⟩ : ∃ z, z = putL τ (tTx 0) := ⟨_, rfl⟩
    rw [← hτ2] at F hsb hw hp hz9
    have hna : nAn τ2 = nAn σ := hw.an
    refine lv_aload_n X.ex X.co dX9_writeAnswer_24 rfl (lv_at hl 0 rfl) ?_
    refine f_get X hK (show va_at G.1 vwCl (ad (7, j_aa), eAn (gSB g ml m2 f2) (iup ad (16, 0) q2) τ2 j_aa) H from by have h9 := (cw_an F (i := j_aa) (show j_aa < nAn τ2 by omega)); exact h9) okX0 rfl 0 (by decide) m_714 (fun _ h => h) (v := .int (nI j_aa)) rfl dX9_writeAnswer_25 ?_
    have hdl := dgN_le j_aa
    refine q_eV X ce_J4_append_bf812 m_1318 (c_J4_append_bf812 l G A hAg (cLv (gSB g ml m2 f2) τ2) (iup ad (16, 0) q2) (cEnL G (gSB g ml m2 f2) (iup ad (16, 0) q2) τ2 (lstN σ)) (15, 0) (16, 0) (kne (by decide)) rfl rfl ((iup ad (16, 0) q2) (15, 0)) ((iup ad (16, 0) q2) (16, 0)) ml (nSz τ2) m2 f2 rfl rfl rfl rfl hsb.1 hsb.2.1 (17, 0) (kne (by decide)) (kne (by decide)) (fun z => z) hsb.2.2.2 j_aa (by omega) (by omega)) (g0.step hS hAg) ⟨F, (fun q hq => hfr q (Nat.le_trans hS.1 hq))⟩ (cw_sb F) rfl (by decide) rfl hl.1 rfl (Nat.le_of_ble_eq_true rfl) dX9_writeAnswer_28 (by show _ ≤ 8; omega) (by show _ ≤ 2200; omega) hS (fun _ h => h) (fun H locs F hz hk9 hS => ?_)
    obtain ⟨q3, m3, f3, F, hsb⟩ := sb_app decS_l rfl (decS_b j_aa (by omega)) (fun x hx => rfl) hsb (okL_N hw.1 hLo) F
    rw [show iup (iup ad (16, 0) q2) (16, 0) q3 = iup ad (16, 0) q3 from iup_iup _ _ _ _] at F
    have hw : eqW (putL τ2 (decS j_aa)) σ := hw.l (decS j_aa)
    have hp : ∀ k, k ≠ 43 → (putL τ2 (decS j_aa)).1 k = σ.1 k := fun k hk => by rw [putL_1s]; exact (funext fun y => if_neg (fun z => hk z.1) : (sN τ2 43 0 (nSz τ2 + (decS j_aa).length)).1 k = τ2.1 k).trans (hp k hk)
    have hz9 : nSz (putL τ2 (decS j_aa)) ≤ 10 := by rw [putL_sz]; have h9 := decS_len j_aa; omega
    have hz8 : nSz (putL τ2 (decS j_aa)) = nSz τ2 + (decS j_aa).length := putL_sz _ _
    obtain ⟨τ3, hτ3⟩ : ∃ z, z = putL τ2 (decS j_aa) := ⟨_, rfl⟩
    rw [← hτ3] at F hsb hw hp hz9
    have hna : nAn τ3 = nAn σ := hw.an
    refine f_ldcw X g0.2.1.2.2.2.2.2.1.2.1 dX9_writeAnswer_31 ?_
    refine q_eV X ce_J4_append_15ec4 m_1317 (c_J4_append_15ec4 l G A hAg (cLv (gSB g ml m3 f3) τ3) (iup ad (16, 0) q3) (cEnL G (gSB g ml m3 f3) (iup ad (16, 0) q3) τ3 (lstN σ)) (15, 0) (16, 0) (kne (by decide)) rfl rfl ((iup ad (16, 0) q3) (15, 0)) ((iup ad (16, 0) q3) (16, 0)) ml (nSz τ3) m3 f3 rfl rfl rfl rfl hsb.1 hsb.2.1 (17, 0) (kne (by decide)) (kne (by decide)) (fun z => z) hsb.2.2.2 1 (by decide) (by show _ + 2 ≤ 40; omega)) (g0.step hS hAg) ⟨F, (fun q hq => hfr q (Nat.le_trans hS.1 hq))⟩ (cw_sb F) rfl (by decide) rfl hl.1 rfl (Nat.le_of_ble_eq_true rfl) dX9_writeAnswer_34 (by show _ ≤ 8; omega) (by show _ ≤ 2200; omega) hS (fun _ h => h) (fun H locs F hz hk9 hS => ?_)
    obtain ⟨q4, m4, f4, F, hsb⟩ := sb_app (tTx_l 1 (by decide)) rfl (tTx_b 1 (by decide)) (tTx_e 1 (by decide)) hsb (okL_N hw.1 hLo) F
    rw [show iup (iup ad (16, 0) q3) (16, 0) q4 = iup ad (16, 0) q4 from iup_iup _ _ _ _] at F
    have hw : eqW (putL τ3 (tTx 1)) σ := hw.l (tTx 1)
    have hp : ∀ k, k ≠ 43 → (putL τ3 (tTx 1)).1 k = σ.1 k := fun k hk => by rw [putL_1s]; exact (funext fun y => if_neg (fun z => hk z.1) : (sN τ3 43 0 (nSz τ3 + (tTx 1).length)).1 k = τ3.1 k).trans (hp k hk)
    have hz9 : nSz (putL τ3 (tTx 1)) ≤ 12 := by rw [putL_sz]; have h9 : (tTx 1).length = 2 := rfl; omega
    have hz8 : nSz (putL τ3 (tTx 1)) = nSz τ3 + (tTx 1).length := putL_sz _ _
    obtain ⟨τ4, hτ4⟩ : ∃ z, z = putL τ3 (tTx 1) := ⟨_, rfl⟩
    rw [← hτ4] at F hsb hw hp hz9
    have hna : nAn τ4 = nAn σ := hw.an
    refine lv_aload_n X.ex X.co dX9_writeAnswer_37 rfl (lv_at hl 0 rfl) ?_
    refine f_get X hK (show va_at G.1 vwCl (ad (7, j_aa), eAn (gSB g ml m4 f4) (iup ad (16, 0) q4) τ4 j_aa) H from by have h9 := (cw_an F (i := j_aa) (show j_aa < nAn τ4 by omega)); exact h9) okX0 rfl 5 (by decide) m_727 (fun _ h => h) (v := .int (nI (graN σ j_aa))) (by rw [← hgg, ← hgr j_aa hj_aa]; rfl) dX9_writeAnswer_38 ?_
    have hdl := dgN_le (graN σ j_aa)
    refine q_eV X ce_J4_append_bf812 m_1318 (c_J4_append_bf812 l G A hAg (cLv (gSB g ml m4 f4) τ4) (iup ad (16, 0) q4) (cEnL G (gSB g ml m4 f4) (iup ad (16, 0) q4) τ4 (lstN σ)) (15, 0) (16, 0) (kne (by decide)) rfl rfl ((iup ad (16, 0) q4) (15, 0)) ((iup ad (16, 0) q4) (16, 0)) ml (nSz τ4) m4 f4 rfl rfl rfl rfl hsb.1 hsb.2.1 (17, 0) (kne (by decide)) (kne (by decide)) (fun z => z) hsb.2.2.2 (graN σ j_aa) (by omega) (by omega)) (g0.step hS hAg) ⟨F, (fun q hq => hfr q (Nat.le_trans hS.1 hq))⟩ (cw_sb F) rfl (by decide) rfl hl.1 rfl (Nat.le_of_ble_eq_true rfl) dX9_writeAnswer_41 (by show _ ≤ 8; omega) (by show _ ≤ 2200; omega) hS (fun _ h => h) (fun H locs F hz hk9 hS => ?_)
    obtain ⟨q5, m5, f5, F, hsb⟩ := sb_app decS_l rfl (decS_b (graN σ j_aa) (by omega)) (fun x hx => rfl) hsb (okL_N hw.1 hLo) F
    rw [show iup (iup ad (16, 0) q4) (16, 0) q5 = iup ad (16, 0) q5 from iup_iup _ _ _ _] at F
    have hw : eqW (putL τ4 (decS (graN σ j_aa))) σ := hw.l (decS (graN σ j_aa))
    have hp : ∀ k, k ≠ 43 → (putL τ4 (decS (graN σ j_aa))).1 k = σ.1 k := fun k hk => by rw [putL_1s]; exact (funext fun y => if_neg (fun z => hk z.1) : (sN τ4 43 0 (nSz τ4 + (decS (graN σ j_aa)).length)).1 k = τ4.1 k).trans (hp k hk)
    have hz9 : nSz (putL τ4 (decS (graN σ j_aa))) ≤ 15 := by rw [putL_sz]; have h9 := decS_len (graN σ j_aa); omega
    have hz8 : nSz (putL τ4 (decS (graN σ j_aa))) = nSz τ4 + (decS (graN σ j_aa)).length := putL_sz _ _
    obtain ⟨τ5, hτ5⟩ : ∃ z, z = putL τ4 (decS (graN σ j_aa)) := ⟨_, rfl⟩
    rw [← hτ5] at F hsb hw hp hz9
    have hna : nAn τ5 = nAn σ := hw.an
    refine lv_pop X.ex X.co dX9_writeAnswer_44 rfl ?_
    refine lv_aload_n X.ex X.co dX9_writeAnswer_45 rfl (lv_at hl 1 rfl) ?_
    refine f_get X hK (show va_at G.1 vwCl (ad (0, 0), eBe (iup ad (16, 0) q5) (dayV τ5)) H from by have h9 := (cw_be F); exact h9) okX9 rfl 9 (by decide) m_115 (fun _ h => h) (v := .ref ((iup ad (16, 0) q5) (15, 0))) rfl dX9_writeAnswer_46 ?_
    refine lv_aload_n X.ex X.co dX9_writeAnswer_49 rfl (lv_at hl 0 rfl) ?_
    refine f_get X hK (show va_at G.1 vwCl (ad (7, j_aa), eAn (gSB g ml m5 f5) (iup ad (16, 0) q5) τ5 j_aa) H from by have h9 := (cw_an F (i := j_aa) (show j_aa < nAn τ5 by omega)); exact h9) okX0 rfl 5 (by decide) m_727 (fun _ h => h) (v := .int (nI (graN σ j_aa))) (by rw [← hgg, ← hgr j_aa hj_aa]; rfl) dX9_writeAnswer_50 ?_
    refine lv_bipush (v := 50) X.ex X.co dX9_writeAnswer_53 (by decide) ?_
    refine n_cmp_lt X (x := graN σ j_aa) (y := 50) (tgt := 64) (by omega) (by omega) dX9_writeAnswer_55 (by decide) (fun c_6 => ?_) (fun c_6 => ?_)
    · refine f_ldcw X g0.2.1.2.2.2.2.2.1.2.2.2.1 dX9_writeAnswer_64 ?_
      refine q_eV X ce_J4_append_15ec4 m_1317 (c_J4_append_15ec4 l G A hAg (cLv (gSB g ml m5 f5) τ5) (iup ad (16, 0) q5) (cEnL G (gSB g ml m5 f5) (iup ad (16, 0) q5) τ5 (lstN σ)) (15, 0) (16, 0) (kne (by decide)) rfl rfl ((iup ad (16, 0) q5) (15, 0)) ((iup ad (16, 0) q5) (16, 0)) ml (nSz τ5) m5 f5 rfl rfl rfl rfl hsb.1 hsb.2.1 (17, 0) (kne (by decide)) (kne (by decide)) (fun z => z) hsb.2.2.2 3 (by decide) (by show _ + 7 ≤ 40; omega)) (g0.step hS hAg) ⟨F, (fun q hq => hfr q (Nat.le_trans hS.1 hq))⟩ (cw_sb F) rfl (by decide) rfl hl.1 rfl (Nat.le_of_ble_eq_true rfl) dX9_writeAnswer_67 (by show _ ≤ 8; omega) (by show _ ≤ 2200; omega) hS (fun _ h => h) (fun H locs F hz hk9 hS => ?_)
      obtain ⟨q7, m7, f7, F, hsb⟩ := sb_app (tTx_l 3 (by decide)) rfl (tTx_b 3 (by decide)) (tTx_e 3 (by decide)) hsb (okL_N hw.1 hLo) F
      rw [show iup (iup ad (16, 0) q5) (16, 0) q7 = iup ad (16, 0) q7 from iup_iup _ _ _ _] at F
      have hw : eqW (putL τ5 (tTx 3)) σ := hw.l (tTx 3)
      have hp : ∀ k, k ≠ 43 → (putL τ5 (tTx 3)).1 k = σ.1 k := fun k hk => by rw [putL_1s]; exact (funext fun y => if_neg (fun z => hk z.1) : (sN τ5 43 0 (nSz τ5 + (tTx 3).length)).1 k = τ5.1 k).trans (hp k hk)
      have hz9 : nSz (putL τ5 (tTx 3)) ≤ 22 := by rw [putL_sz]; have h9 : (tTx 3).length = 7 := rfl; omega
      have hz8 : nSz (putL τ5 (tTx 3)) = nSz τ5 + (tTx 3).length := putL_sz _ _
      obtain ⟨τ7, hτ7⟩ : ∃ z, z = putL τ5 (tTx 3) := ⟨_, rfl⟩
      rw [← hτ7] at F hsb hw hp hz9
      have hna : nAn τ7 = nAn σ := hw.an
      refine lv_pop X.ex X.co dX9_writeAnswer_70 rfl ?_
      refine lv_aload_n X.ex X.co dX9_writeAnswer_71 rfl (lv_at hl 0 rfl) ?_
      refine f_get X hK (show va_at G.1 vwCl (ad (7, j_aa), eAn (gSB g ml m7 f7) (iup ad (16, 0) q7) τ7 j_aa) H from by have h9 := (cw_an F (i := j_aa) (show j_aa < nAn τ7 by omega)); exact h9) okX0 rfl 6 (by decide) m_729 (fun _ h => h) (v := .int (nI p9)) (by rw [← hpe, ← congrFun (hw.2 25 (by decide)) j_aa]; rfl) dX9_writeAnswer_72 ?_
      refine n_if_le X (x := p9) (tgt := 96) (by omega) dX9_writeAnswer_75 (by decide) (fun c_8 => ?_) (fun c_8 => ?_)
      · refine lv_aload_n X.ex X.co dX9_writeAnswer_96 rfl (lv_at hl 1 rfl) ?_
        refine f_get X hK (show va_at G.1 vwCl (ad (0, 0), eBe (iup ad (16, 0) q7) (dayV τ7)) H from by have h9 := (cw_be F); exact h9) okX9 rfl 9 (by decide) m_115 (fun _ h => h) (v := .ref ((iup ad (16, 0) q7) (15, 0))) rfl dX9_writeAnswer_97 ?_
        refine q_rV X ce_J4_length_8abf5 m_1323 (c_J4_length_8abf5 l G ((iup ad (16, 0) q7) (15, 0)) ((iup ad (16, 0) q7) (16, 0)) ml (nSz τ7)) (g0.step hS hAg) (cw_sb F) (cw_sb F) rfl (by decide) rfl hl.1 rfl (Nat.le_of_ble_eq_true rfl) dX9_writeAnswer_100 (by omega) (by omega) ?_
        exact vx_ret (c_i X hS rfl rfl (by have hL9 : lineS σ j_aa = (tTx 0) ++ (decS j_aa) ++ (tTx 1) ++ (decS (graN σ j_aa)) ++ (tTx 3) := (by unfold lineS; rw [hgg, if_pos (show nI (graN σ j_aa) < 50 from (nI_ltI (by omega) (by decide)).mpr c_6), hpe, if_pos (show nI p9 ≤ 0 from (nI_leI (by omega) (by decide)).mpr (Nat.le_of_eq c_8))]; simp [tTx]); have hz0 : τ = sN σ 43 0 0 := hτ; have hE9 : putL (sN σ 43 0 0) (lineS σ j_aa) = τ7 := (by rw [hL9, ← hz0, hτ7, hτ5, hτ4, hτ3, hτ2]; simp only [putL_app, List.append_assoc]); have hN9 : nI (lineS σ j_aa).length = nI (nSz τ7) := (by rw [← hE9, putL_sz, nSz0, Nat.zero_add]); have q : (fWriteAnswer σ (nI j_aa)) = (nI (nSz τ7), τ7) := (by simp only [fWriteAnswer]; rw [if_pos ok_aa, ex_aa, hN9, hE9]); rw [q]; exact ⟨rfl, (congrFun (hp 0 (by decide)) 0).trans h0, CB_line (g := g) (ad := (iup ad (16, 0) q7)) hw ⟨hp 28 (by decide), congrFun (hp 27 (by decide)) 0⟩ hC hgr hwt hsb (fun k _ => by rw [lstN_1s hp]) rfl F⟩) (by omega) (by omega) dX9_writeAnswer_103)
      · refine lv_aload_n X.ex X.co dX9_writeAnswer_78 rfl (lv_at hl 1 rfl) ?_
        refine f_get X hK (show va_at G.1 vwCl (ad (0, 0), eBe (iup ad (16, 0) q7) (dayV τ7)) H from by have h9 := (cw_be F); exact h9) okX9 rfl 9 (by decide) m_115 (fun _ h => h) (v := .ref ((iup ad (16, 0) q7) (15, 0))) rfl dX9_writeAnswer_79 ?_
        refine f_ldcw X g0.2.1.2.2.2.2.2.1.2.2.2.2 dX9_writeAnswer_82 ?_
        refine q_eV X ce_J4_append_15ec4 m_1317 (c_J4_append_15ec4 l G A hAg (cLv (gSB g ml m7 f7) τ7) (iup ad (16, 0) q7) (cEnL G (gSB g ml m7 f7) (iup ad (16, 0) q7) τ7 (lstN σ)) (15, 0) (16, 0) (kne (by decide)) rfl rfl ((iup ad (16, 0) q7) (15, 0)) ((iup ad (16, 0) q7) (16, 0)) ml (nSz τ7) m7 f7 rfl rfl rfl rfl hsb.1 hsb.2.1 (17, 0) (kne (by decide)) (kne (by decide)) (fun z => z) hsb.2.2.2 4 (by decide) (by show _ + 4 ≤ 40; omega)) (g0.step hS hAg) ⟨F, (fun q hq => hfr q (Nat.le_trans hS.1 hq))⟩ (cw_sb F) rfl (by decide) rfl hl.1 rfl (Nat.le_of_ble_eq_true rfl) dX9_writeAnswer_85 (by show _ ≤ 8; omega) (by show _ ≤ 2200; omega) hS (fun _ h => h) (fun H locs F hz hk9 hS => ?_)
        obtain ⟨q9, m9, f9, F, hsb⟩ := sb_app (tTx_l 4 (by decide)) rfl (tTx_b 4 (by decide)) (tTx_e 4 (by decide)) hsb (okL_N hw.1 hLo) F
        rw [show iup (iup ad (16, 0) q7) (16, 0) q9 = iup ad (16, 0) q9 from iup_iup _ _ _ _] at F
        have hw : eqW (putL τ7 (tTx 4)) σ := hw.l (tTx 4)
        have hp : ∀ k, k ≠ 43 → (putL τ7 (tTx 4)).1 k = σ.1 k := fun k hk => by rw [putL_1s]; exact (funext fun y => if_neg (fun z => hk z.1) : (sN τ7 43 0 (nSz τ7 + (tTx 4).length)).1 k = τ7.1 k).trans (hp k hk)
        have hz9 : nSz (putL τ7 (tTx 4)) ≤ 26 := by rw [putL_sz]; have h9 : (tTx 4).length = 4 := rfl; omega
        have hz8 : nSz (putL τ7 (tTx 4)) = nSz τ7 + (tTx 4).length := putL_sz _ _
        obtain ⟨τ9, hτ9⟩ : ∃ z, z = putL τ7 (tTx 4) := ⟨_, rfl⟩
        rw [← hτ9] at F hsb hw hp hz9
        have hna : nAn τ9 = nAn σ := hw.an
        refine lv_aload_n X.ex X.co dX9_writeAnswer_88 rfl (lv_at hl 0 rfl) ?_
        refine f_get X hK (show va_at G.1 vwCl (ad (7, j_aa), eAn (gSB g ml m9 f9) (iup ad (16, 0) q9) τ9 j_aa) H from by have h9 := (cw_an F (i := j_aa) (show j_aa < nAn τ9 by omega)); exact h9) okX0 rfl 6 (by decide) m_729 (fun _ h => h) (v := .int (nI p9)) (by rw [← hpe, ← congrFun (hw.2 25 (by decide)) j_aa]; rfl) dX9_writeAnswer_89 ?_
        have hdl := dgN_le p9
        refine q_eV X ce_J4_append_bf812 m_1318 (c_J4_append_bf812 l G A hAg (cLv (gSB g ml m9 f9) τ9) (iup ad (16, 0) q9) (cEnL G (gSB g ml m9 f9) (iup ad (16, 0) q9) τ9 (lstN σ)) (15, 0) (16, 0) (kne (by decide)) rfl rfl ((iup ad (16, 0) q9) (15, 0)) ((iup ad (16, 0) q9) (16, 0)) ml (nSz τ9) m9 f9 rfl rfl rfl rfl hsb.1 hsb.2.1 (17, 0) (kne (by decide)) (kne (by decide)) (fun z => z) hsb.2.2.2 p9 (by omega) (by omega)) (g0.step hS hAg) ⟨F, (fun q hq => hfr q (Nat.le_trans hS.1 hq))⟩ (cw_sb F) rfl (by decide) rfl hl.1 rfl (Nat.le_of_ble_eq_true rfl) dX9_writeAnswer_92 (by show _ ≤ 8; omega) (by show _ ≤ 2200; omega) hS (fun _ h => h) (fun H locs F hz hk9 hS => ?_)
        obtain ⟨q10, m10, f10, F, hsb⟩ := sb_app decS_l rfl (decS_b p9 (by omega)) (fun x hx => rfl) hsb (okL_N hw.1 hLo) F
        rw [show iup (iup ad (16, 0) q9) (16, 0) q10 = iup ad (16, 0) q10 from iup_iup _ _ _ _] at F
        have hw : eqW (putL τ9 (decS p9)) σ := hw.l (decS p9)
        have hp : ∀ k, k ≠ 43 → (putL τ9 (decS p9)).1 k = σ.1 k := fun k hk => by rw [putL_1s]; exact (funext fun y => if_neg (fun z => hk z.1) : (sN τ9 43 0 (nSz τ9 + (decS p9).length)).1 k = τ9.1 k).trans (hp k hk)
        have hz9 : nSz (putL τ9 (decS p9)) ≤ 29 := by rw [putL_sz]; have h9 := decS_len p9; omega
        have hz8 : nSz (putL τ9 (decS p9)) = nSz τ9 + (decS p9).length := putL_sz _ _
        obtain ⟨τ10, hτ10⟩ : ∃ z, z = putL τ9 (decS p9) := ⟨_, rfl⟩
        rw [← hτ10] at F hsb hw hp hz9
        have hna : nAn τ10 = nAn σ := hw.an
        refine lv_pop X.ex X.co dX9_writeAnswer_95 rfl ?_
        refine lv_aload_n X.ex X.co dX9_writeAnswer_96 rfl (lv_at hl 1 rfl) ?_
        refine f_get X hK (show va_at G.1 vwCl (ad (0, 0), eBe (iup ad (16, 0) q10) (dayV τ10)) H from by have h9 := (cw_be F); exact h9) okX9 rfl 9 (by decide) m_115 (fun _ h => h) (v := .ref ((iup ad (16, 0) q10) (15, 0))) rfl dX9_writeAnswer_97 ?_
        refine q_rV X ce_J4_length_8abf5 m_1323 (c_J4_length_8abf5 l G ((iup ad (16, 0) q10) (15, 0)) ((iup ad (16, 0) q10) (16, 0)) ml (nSz τ10)) (g0.step hS hAg) (cw_sb F) (cw_sb F) rfl (by decide) rfl hl.1 rfl (Nat.le_of_ble_eq_true rfl) dX9_writeAnswer_100 (by omega) (by omega) ?_
        exact vx_ret (c_i X hS rfl rfl (by have hL9 : lineS σ j_aa = (tTx 0) ++ (decS j_aa) ++ (tTx 1) ++ (decS (graN σ j_aa)) ++ (tTx 3) ++ (tTx 4) ++ (decS p9) := (by unfold lineS; rw [hgg, if_pos (show nI (graN σ j_aa) < 50 from (nI_ltI (by omega) (by decide)).mpr c_6), hpe, if_neg (show ¬ nI p9 ≤ 0 from fun z => by have h9 := (nI_leI (by omega) (by decide)).mp (show nI p9 ≤ nI 0 from z); omega), ix_nI (show p9 < 2 ^ 31 by omega)]; simp [tTx]); have hz0 : τ = sN σ 43 0 0 := hτ; have hE9 : putL (sN σ 43 0 0) (lineS σ j_aa) = τ10 := (by rw [hL9, ← hz0, hτ10, hτ9, hτ7, hτ5, hτ4, hτ3, hτ2]; simp only [putL_app, List.append_assoc]); have hN9 : nI (lineS σ j_aa).length = nI (nSz τ10) := (by rw [← hE9, putL_sz, nSz0, Nat.zero_add]); have q : (fWriteAnswer σ (nI j_aa)) = (nI (nSz τ10), τ10) := (by simp only [fWriteAnswer]; rw [if_pos ok_aa, ex_aa, hN9, hE9]); rw [q]; exact ⟨rfl, (congrFun (hp 0 (by decide)) 0).trans h0, CB_line (g := g) (ad := (iup ad (16, 0) q10)) hw ⟨hp 28 (by decide), congrFun (hp 27 (by decide)) 0⟩ hC hgr hwt hsb (fun k _ => by rw [lstN_1s hp]) rfl F⟩) (by omega) (by omega) dX9_writeAnswer_103)
    · refine f_ldcw X g0.2.1.2.2.2.2.2.1.2.2.1 dX9_writeAnswer_58 ?_
      refine lv_goto (tgt := 67) X.ex X.co dX9_writeAnswer_61 (by decide) ?_
      refine q_eV X ce_J4_append_15ec4 m_1317 (c_J4_append_15ec4 l G A hAg (cLv (gSB g ml m5 f5) τ5) (iup ad (16, 0) q5) (cEnL G (gSB g ml m5 f5) (iup ad (16, 0) q5) τ5 (lstN σ)) (15, 0) (16, 0) (kne (by decide)) rfl rfl ((iup ad (16, 0) q5) (15, 0)) ((iup ad (16, 0) q5) (16, 0)) ml (nSz τ5) m5 f5 rfl rfl rfl rfl hsb.1 hsb.2.1 (17, 0) (kne (by decide)) (kne (by decide)) (fun z => z) hsb.2.2.2 2 (by decide) (by show _ + 7 ≤ 40; omega)) (g0.step hS hAg) ⟨F, (fun q hq => hfr q (Nat.le_trans hS.1 hq))⟩ (cw_sb F) rfl (by decide) rfl hl.1 rfl (Nat.le_of_ble_eq_true rfl) dX9_writeAnswer_67 (by show _ ≤ 8; omega) (by show _ ≤ 2200; omega) hS (fun _ h => h) (fun H locs F hz hk9 hS => ?_)
      obtain ⟨q11, m11, f11, F, hsb⟩ := sb_app (tTx_l 2 (by decide)) rfl (tTx_b 2 (by decide)) (tTx_e 2 (by decide)) hsb (okL_N hw.1 hLo) F
      rw [show iup (iup ad (16, 0) q5) (16, 0) q11 = iup ad (16, 0) q11 from iup_iup _ _ _ _] at F
      have hw : eqW (putL τ5 (tTx 2)) σ := hw.l (tTx 2)
      have hp : ∀ k, k ≠ 43 → (putL τ5 (tTx 2)).1 k = σ.1 k := fun k hk => by rw [putL_1s]; exact (funext fun y => if_neg (fun z => hk z.1) : (sN τ5 43 0 (nSz τ5 + (tTx 2).length)).1 k = τ5.1 k).trans (hp k hk)
      have hz9 : nSz (putL τ5 (tTx 2)) ≤ 22 := by rw [putL_sz]; have h9 : (tTx 2).length = 7 := rfl; omega
      have hz8 : nSz (putL τ5 (tTx 2)) = nSz τ5 + (tTx 2).length := putL_sz _ _
      obtain ⟨τ11, hτ11⟩ : ∃ z, z = putL τ5 (tTx 2) := ⟨_, rfl⟩
      rw [← hτ11] at F hsb hw hp hz9
      have hna : nAn τ11 = nAn σ := hw.an
      refine lv_pop X.ex X.co dX9_writeAnswer_70 rfl ?_
      refine lv_aload_n X.ex X.co dX9_writeAnswer_71 rfl (lv_at hl 0 rfl) ?_
      refine f_get X hK (show va_at G.1 vwCl (ad (7, j_aa), eAn (gSB g ml m11 f11) (iup ad (16, 0) q11) τ11 j_aa) H from by have h9 := (cw_an F (i := j_aa) (show j_aa < nAn τ11 by omega)); exact h9) okX0 rfl 6 (by decide) m_729 (fun _ h => h) (v := .int (nI p9)) (by rw [← hpe, ← congrFun (hw.2 25 (by decide)) j_aa]; rfl) dX9_writeAnswer_72 ?_
      refine n_if_le X (x := p9) (tgt := 96) (by omega) dX9_writeAnswer_75 (by decide) (fun c_12 => ?_) (fun c_12 => ?_)
      · refine lv_aload_n X.ex X.co dX9_writeAnswer_96 rfl (lv_at hl 1 rfl) ?_
        refine f_get X hK (show va_at G.1 vwCl (ad (0, 0), eBe (iup ad (16, 0) q11) (dayV τ11)) H from by have h9 := (cw_be F); exact h9) okX9 rfl 9 (by decide) m_115 (fun _ h => h) (v := .ref ((iup ad (16, 0) q11) (15, 0))) rfl dX9_writeAnswer_97 ?_
        refine q_rV X ce_J4_length_8abf5 m_1323 (c_J4_length_8abf5 l G ((iup ad (16, 0) q11) (15, 0)) ((iup ad (16, 0) q11) (16, 0)) ml (nSz τ11)) (g0.step hS hAg) (cw_sb F) (cw_sb F) rfl (by decide) rfl hl.1 rfl (Nat.le_of_ble_eq_true rfl) dX9_writeAnswer_100 (by omega) (by omega) ?_
        exact vx_ret (c_i X hS rfl rfl (by have hL9 : lineS σ j_aa = (tTx 0) ++ (decS j_aa) ++ (tTx 1) ++ (decS (graN σ j_aa)) ++ (tTx 2) := (by unfold lineS; rw [hgg, if_neg (show ¬ nI (graN σ j_aa) < 50 from fun z => by have h9 := (nI_ltI (by omega) (by decide)).mp (show nI (graN σ j_aa) < nI 50 from z); omega), hpe, if_pos (show nI p9 ≤ 0 from (nI_leI (by omega) (by decide)).mpr (Nat.le_of_eq c_12))]; simp [tTx]); have hz0 : τ = sN σ 43 0 0 := hτ; have hE9 : putL (sN σ 43 0 0) (lineS σ j_aa) = τ11 := (by rw [hL9, ← hz0, hτ11, hτ5, hτ4, hτ3, hτ2]; simp only [putL_app, List.append_assoc]); have hN9 : nI (lineS σ j_aa).length = nI (nSz τ11) := (by rw [← hE9, putL_sz, nSz0, Nat.zero_add]); have q : (fWriteAnswer σ (nI j_aa)) = (nI (nSz τ11), τ11) := (by simp only [fWriteAnswer]; rw [if_pos ok_aa, ex_aa, hN9, hE9]); rw [q]; exact ⟨rfl, (congrFun (hp 0 (by decide)) 0).trans h0, CB_line (g := g) (ad := (iup ad (16, 0) q11)) hw ⟨hp 28 (by decide), congrFun (hp 27 (by decide)) 0⟩ hC hgr hwt hsb (fun k _ => by rw [lstN_1s hp]) rfl F⟩) (by omega) (by omega) dX9_writeAnswer_103)
      · refine lv_aload_n X.ex X.co dX9_writeAnswer_78 rfl (lv_at hl 1 rfl) ?_
        refine f_get X hK (show va_at G.1 vwCl (ad (0, 0), eBe (iup ad (16, 0) q11) (dayV τ11)) H from by have h9 := (cw_be F); exact h9) okX9 rfl 9 (by decide) m_115 (fun _ h => h) (v := .ref ((iup ad (16, 0) q11) (15, 0))) rfl dX9_writeAnswer_79 ?_
        refine f_ldcw X g0.2.1.2.2.2.2.2.1.2.2.2.2 dX9_writeAnswer_82 ?_
        refine q_eV X ce_J4_append_15ec4 m_1317 (c_J4_append_15ec4 l G A hAg (cLv (gSB g ml m11 f11) τ11) (iup ad (16, 0) q11) (cEnL G (gSB g ml m11 f11) (iup ad (16, 0) q11) τ11 (lstN σ)) (15, 0) (16, 0) (kne (by decide)) rfl rfl ((iup ad (16, 0) q11) (15, 0)) ((iup ad (16, 0) q11) (16, 0)) ml (nSz τ11) m11 f11 rfl rfl rfl rfl hsb.1 hsb.2.1 (17, 0) (kne (by decide)) (kne (by decide)) (fun z => z) hsb.2.2.2 4 (by decide) (by show _ + 4 ≤ 40; omega)) (g0.step hS hAg) ⟨F, (fun q hq => hfr q (Nat.le_trans hS.1 hq))⟩ (cw_sb F) rfl (by decide) rfl hl.1 rfl (Nat.le_of_ble_eq_true rfl) dX9_writeAnswer_85 (by show _ ≤ 8; omega) (by show _ ≤ 2200; omega) hS (fun _ h => h) (fun H locs F hz hk9 hS => ?_)
        obtain ⟨q13, m13, f13, F, hsb⟩ := sb_app (tTx_l 4 (by decide)) rfl (tTx_b 4 (by decide)) (tTx_e 4 (by decide)) hsb (okL_N hw.1 hLo) F
        rw [show iup (iup ad (16, 0) q11) (16, 0) q13 = iup ad (16, 0) q13 from iup_iup _ _ _ _] at F
        have hw : eqW (putL τ11 (tTx 4)) σ := hw.l (tTx 4)
        have hp : ∀ k, k ≠ 43 → (putL τ11 (tTx 4)).1 k = σ.1 k := fun k hk => by rw [putL_1s]; exact (funext fun y => if_neg (fun z => hk z.1) : (sN τ11 43 0 (nSz τ11 + (tTx 4).length)).1 k = τ11.1 k).trans (hp k hk)
        have hz9 : nSz (putL τ11 (tTx 4)) ≤ 26 := by rw [putL_sz]; have h9 : (tTx 4).length = 4 := rfl; omega
        have hz8 : nSz (putL τ11 (tTx 4)) = nSz τ11 + (tTx 4).length := putL_sz _ _
        obtain ⟨τ13, hτ13⟩ : ∃ z, z = putL τ11 (tTx 4) := ⟨_, rfl⟩
        rw [← hτ13] at F hsb hw hp hz9
        have hna : nAn τ13 = nAn σ := hw.an
        refine lv_aload_n X.ex X.co dX9_writeAnswer_88 rfl (lv_at hl 0 rfl) ?_
        refine f_get X hK (show va_at G.1 vwCl (ad (7, j_aa), eAn (gSB g ml m13 f13) (iup ad (16, 0) q13) τ13 j_aa) H from by have h9 := (cw_an F (i := j_aa) (show j_aa < nAn τ13 by omega)); exact h9) okX0 rfl 6 (by decide) m_729 (fun _ h => h) (v := .int (nI p9)) (by rw [← hpe, ← congrFun (hw.2 25 (by decide)) j_aa]; rfl) dX9_writeAnswer_89 ?_
        have hdl := dgN_le p9
        refine q_eV X ce_J4_append_bf812 m_1318 (c_J4_append_bf812 l G A hAg (cLv (gSB g ml m13 f13) τ13) (iup ad (16, 0) q13) (cEnL G (gSB g ml m13 f13) (iup ad (16, 0) q13) τ13 (lstN σ)) (15, 0) (16, 0) (kne (by decide)) rfl rfl ((iup ad (16, 0) q13) (15, 0)) ((iup ad (16, 0) q13) (16, 0)) ml (nSz τ13) m13 f13 rfl rfl rfl rfl hsb.1 hsb.2.1 (17, 0) (kne (by decide)) (kne (by decide)) (fun z => z) hsb.2.2.2 p9 (by omega) (by omega)) (g0.step hS hAg) ⟨F, (fun q hq => hfr q (Nat.le_trans hS.1 hq))⟩ (cw_sb F) rfl (by decide) rfl hl.1 rfl (Nat.le_of_ble_eq_true rfl) dX9_writeAnswer_92 (by show _ ≤ 8; omega) (by show _ ≤ 2200; omega) hS (fun _ h => h) (fun H locs F hz hk9 hS => ?_)
        obtain ⟨q14, m14, f14, F, hsb⟩ := sb_app decS_l rfl (decS_b p9 (by omega)) (fun x hx => rfl) hsb (okL_N hw.1 hLo) F
        rw [show iup (iup ad (16, 0) q13) (16, 0) q14 = iup ad (16, 0) q14 from iup_iup _ _ _ _] at F
        have hw : eqW (putL τ13 (decS p9)) σ := hw.l (decS p9)
        have hp : ∀ k, k ≠ 43 → (putL τ13 (decS p9)).1 k = σ.1 k := fun k hk => by rw [putL_1s]; exact (funext fun y => if_neg (fun z => hk z.1) : (sN τ13 43 0 (nSz τ13 + (decS p9).length)).1 k = τ13.1 k).trans (hp k hk)
        have hz9 : nSz (putL τ13 (decS p9)) ≤ 29 := by rw [putL_sz]; have h9 := decS_len p9; omega
        have hz8 : nSz (putL τ13 (decS p9)) = nSz τ13 + (decS p9).length := putL_sz _ _
        obtain ⟨τ14, hτ14⟩ : ∃ z, z = putL τ13 (decS p9) := ⟨_, rfl⟩
        rw [← hτ14] at F hsb hw hp hz9
        have hna : nAn τ14 = nAn σ := hw.an
        refine lv_pop X.ex X.co dX9_writeAnswer_95 rfl ?_
        refine lv_aload_n X.ex X.co dX9_writeAnswer_96 rfl (lv_at hl 1 rfl) ?_
        refine f_get X hK (show va_at G.1 vwCl (ad (0, 0), eBe (iup ad (16, 0) q14) (dayV τ14)) H from by have h9 := (cw_be F); exact h9) okX9 rfl 9 (by decide) m_115 (fun _ h => h) (v := .ref ((iup ad (16, 0) q14) (15, 0))) rfl dX9_writeAnswer_97 ?_
        refine q_rV X ce_J4_length_8abf5 m_1323 (c_J4_length_8abf5 l G ((iup ad (16, 0) q14) (15, 0)) ((iup ad (16, 0) q14) (16, 0)) ml (nSz τ14)) (g0.step hS hAg) (cw_sb F) (cw_sb F) rfl (by decide) rfl hl.1 rfl (Nat.le_of_ble_eq_true rfl) dX9_writeAnswer_100 (by omega) (by omega) ?_
        exact vx_ret (c_i X hS rfl rfl (by have hL9 : lineS σ j_aa = (tTx 0) ++ (decS j_aa) ++ (tTx 1) ++ (decS (graN σ j_aa)) ++ (tTx 2) ++ (tTx 4) ++ (decS p9) := (by unfold lineS; rw [hgg, if_neg (show ¬ nI (graN σ j_aa) < 50 from fun z => by have h9 := (nI_ltI (by omega) (by decide)).mp (show nI (graN σ j_aa) < nI 50 from z); omega), hpe, if_neg (show ¬ nI p9 ≤ 0 from fun z => by have h9 := (nI_leI (by omega) (by decide)).mp (show nI p9 ≤ nI 0 from z); omega), ix_nI (show p9 < 2 ^ 31 by omega)]; simp [tTx]); have hz0 : τ = sN σ 43 0 0 := hτ; have hE9 : putL (sN σ 43 0 0) (lineS σ j_aa) = τ14 := (by rw [hL9, ← hz0, hτ14, hτ13, hτ11, hτ5, hτ4, hτ3, hτ2]; simp only [putL_app, List.append_assoc]); have hN9 : nI (lineS σ j_aa).length = nI (nSz τ14) := (by rw [← hE9, putL_sz, nSz0, Nat.zero_add]); have q : (fWriteAnswer σ (nI j_aa)) = (nI (nSz τ14), τ14) := (by simp only [fWriteAnswer]; rw [if_pos ok_aa, ex_aa, hN9, hE9]); rw [q]; exact ⟨rfl, (congrFun (hp 0 (by decide)) 0).trans h0, CB_line (g := g) (ad := (iup ad (16, 0) q14)) hw ⟨hp 28 (by decide), congrFun (hp 27 (by decide)) 0⟩ hC hgr hwt hsb (fun k _ => by rw [lstN_1s hp]) rfl F⟩) (by omega) (by omega) dX9_writeAnswer_103)
