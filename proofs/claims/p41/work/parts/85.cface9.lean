theorem ce_X9_revokeUnearned : ceV yX9_revokeUnearned cX9_revokeUnearned 4 ((Option.none : Option FieldType)) 0 := ⟨m_1122, mp_22, m_1, m_1123, ⟨by decide, by decide, by decide +kernel⟩, by decide⟩
set_option maxHeartbeats 4000000 in
set_option maxRecDepth 100000 in
theorem c_X9_revokeUnearned (l : Launch) (G : GT) (A : Nat → Prop) (hAg : ∀ q, A q → gA G q) (g : CG) (ad : I2 → Nat) (σ : Sg) (hI0 : MI0 σ) (hC : CL g σ) (hgr : ∀ a, a < nAn σ → g.2.2.1 0 a = grade σ a) (h33 : ∀ c, c < nCr σ → ∃ q, q < 2 ^ 31 ∧ σ.2 33 c = nI q) : cM l yX9_revokeUnearned cX9_revokeUnearned 4 ((Option.none : Option FieldType)) 6 0 0 G [.ref (ad (0, 0))] (fun H => cw G g A ad σ H) (eB none (fun H => cw G g A ad (revL σ (nCe σ)) H)) A := by
  refine mk_m (by decide) (Nat.le_of_ble_eq_true rfl) ?_
  intro p e s m args below meth c X ls hl g0 F hnm
  have hK := g0.1
  have hS : va_S A s.heap s.heap [] := va_S.rf
  obtain ⟨b1, b2, b3, b4, b5, b6, b7⟩ := hI0.1
  have hl : lv_has ls 4 [(0, .ref (ad (0, 0)))] := hl
  show Wc p l e 6 0 0 s m args below meth c (eB none (fun H => cw G g A ad (revL σ (nCe σ)) H)) A s.heap [] 0 0 0 ls []
  refine lv_iconst (v := 0) X.ex X.co dX9_revokeUnearned_0 (by decide) ?_
  refine lv_istore_n (lv' := [(1, .int 0), (0, .ref (ad (0, 0)))]) X.ex X.co dX9_revokeUnearned_1 rfl hl (by decide) rfl (fun ls hl => ?_)
  have loop_2 : ∀ (fu_1 i : Nat), i ≤ nCe σ → nCe σ < i + fu_1 → ∀ (H : Heap) (locs : List Loc) (ρ : Sg), ρ = revL σ i → cw G g A ad ρ H → va_S A s.heap H locs → ∀ ls : Array Slot, lv_has ls 4 [(1, .int (nI i)), (0, .ref (ad (0, 0)))] → Wc p l e 6 0 0 s m args below meth c (eB none (fun H => cw G g A ad (revL σ (nCe σ)) H)) A H locs 0 0 2 ls [] := by
    intro fu_1
    induction fu_1 with
    | zero => intro i h_4 h_5; exact absurd h_5 (by omega)
    | succ fu_1 ih_3 =>
      intro i h_4 h_5 H locs ρ hρ F hS ls hl
      have hN : eqN ρ σ := by rw [hρ]; exact revL_N σ i
      have h1 : ρ.1 = σ.1 := by rw [hρ]; exact revL_1 σ i
      have hnc : nCe ρ = nCe σ := congrFun (congrFun h1 35) 0
      have hnr : nCr ρ = nCr σ := congrFun (congrFun h1 32) 0
      have hns : nSt ρ = nSt σ := congrFun (congrFun h1 5) 0
      have hnl : nLe ρ = nLe σ := congrFun (congrFun h1 7) 0
      have hnx : nEx ρ = nEx σ := congrFun (congrFun h1 11) 0
      have hna : nAn ρ = nAn σ := congrFun (congrFun h1 19) 0
      have hI0 : MI0 ρ := hN.mi hI0
      have hC : CL g ρ := by intro k hk; rw [lstN_1 h1]; exact hC k ((lsB_N hN).mp hk)
      have hgr : ∀ a, a < nAn ρ → g.2.2.1 0 a = grade ρ a := fun a ha => by rw [hρ, gr_revL]; exact hgr a (by omega)
      refine lv_iload_n X.ex X.co dX9_revokeUnearned_2 rfl (lv_at hl 0 rfl) ?_
      refine lv_aload_n X.ex X.co dX9_revokeUnearned_3 rfl (lv_at hl 1 rfl) ?_
      refine f_get X hK (cw_be F) okX9 rfl 6 (by decide) m_112 (fun _ h => h) (v := .ref (ad (1, 6))) rfl dX9_revokeUnearned_4 ?_
      refine q_rV X ce_Jx4a65c_size_8abf5 m_144 (c_Jx4a65c_size_8abf5 l G (ad (1, 6)) (g.2.1 (6)) (lrow G g ad (6)) (nCe ρ)) (g0.step hS hAg) (cw_lsn F (k := 6) (n := nCe ρ) (Or.inl (by omega)) rng_len) (cw_lsn F (k := 6) (n := nCe ρ) (Or.inl (by omega)) rng_len) rfl (by decide) rfl hl.1 rfl (Nat.le_of_ble_eq_true rfl) dX9_revokeUnearned_7 (by omega) (by omega) ?_
      refine n_cmp_ge X (x := i) (y := nCe ρ) (tgt := 64) (by omega) (by omega) dX9_revokeUnearned_10 (by decide) (fun c_6 => ?_) (fun c_6 => ?_)
      · exact c_v X hS rfl ⟨rfl, by rw [show nCe σ = i by omega, ← hρ]; exact F⟩ (by omega) (by omega) dX9_revokeUnearned_64
      · refine lv_aload_n X.ex X.co dX9_revokeUnearned_13 rfl (lv_at hl 1 rfl) ?_
        refine f_get X hK (cw_be F) okX9 rfl 6 (by decide) m_112 (fun _ h => h) (v := .ref (ad (1, 6))) rfl dX9_revokeUnearned_14 ?_
        refine lv_iload_n X.ex X.co dX9_revokeUnearned_17 rfl (lv_at hl 0 rfl) ?_
        refine q_rV X ce_Jx4a65c_get_915e3 m_164 (c_getR l G (ad (1, 6)) (g.2.1 (6)) (lrow G g ad (6)) (nCe ρ) (g.1 (6)) (cont (lstN ρ (6)) ad) i (by omega) (cl_n hC (Or.inl (by omega)) rng_len) (cl_q hC (Or.inl (by omega))) (cont_get (j := (9, i)) (rng_get (k := 9) (show i < nCe ρ by omega)))) (g0.step hS hAg) (cw_get F hC (k := 6) (x := i) (n := nCe ρ) (Or.inl (by omega)) rng_len (by omega)) (cw_get F hC (k := 6) (x := i) (n := nCe ρ) (Or.inl (by omega)) rng_len (by omega)).1 rfl (by decide) rfl hl.1 rfl (Nat.le_of_ble_eq_true rfl) dX9_revokeUnearned_18 (by omega) (by omega) ?_
        refine f_castS X hK (cw_ce F (i := i) (show i < nCe ρ by omega)) rfl m_178 dX9_revokeUnearned_21 ?_
        refine lv_astore_n (lv' := [(2, .ref (ad (9, i))), (1, .int (nI i)), (0, .ref (ad (0, 0)))]) X.ex X.co dX9_revokeUnearned_24 rfl hl (by decide) rfl (fun ls hl => ?_)
        refine lv_aload_n X.ex X.co dX9_revokeUnearned_25 rfl (lv_at hl 0 rfl) ?_
        refine f_get X hK (cw_ce F (i := i) (show i < nCe ρ by omega)) okX1 rfl 2 (by decide) m_1184 (fun _ h => h) (v := .ref (ad (8, cou ρ i))) rfl dX9_revokeUnearned_26 ?_
        have hf_f_7 := hI0.ce (i := i) (by omega)
        refine lv_astore_n (lv' := [(3, .ref (ad (8, cou ρ i))), (2, .ref (ad (9, i))), (1, .int (nI i)), (0, .ref (ad (0, 0)))]) X.ex X.co dX9_revokeUnearned_29 rfl hl (by decide) rfl (fun ls hl => ?_)
        refine lv_aload_n X.ex X.co dX9_revokeUnearned_30 rfl (lv_at hl 3 rfl) ?_
        refine lv_aload_n X.ex X.co dX9_revokeUnearned_31 rfl (lv_at hl 1 rfl) ?_
        refine f_get X hK (cw_ce F (i := i) (show i < nCe ρ by omega)) okX1 rfl 1 (by decide) m_1182 (fun _ h => h) (v := .ref (ad (4, hol ρ i))) rfl dX9_revokeUnearned_32 ?_
        have hf_f_8 := hI0.ce (i := i) (by omega)
        refine lv_aload_n X.ex X.co dX9_revokeUnearned_35 rfl (lv_at hl 0 rfl) ?_
        refine f_get X hK (cw_cr F (i := cou ρ i) (show cou ρ i < nCr ρ by omega)) okX3 rfl 0 (by decide) m_1148 (fun _ h => h) (v := .int (ρ.2 33 (cou ρ i))) rfl dX9_revokeUnearned_36 ?_
        refine lv_aload_n X.ex X.co dX9_revokeUnearned_39 rfl (lv_at hl 0 rfl) ?_
        refine f_get X hK (cw_cr F (i := cou ρ i) (show cou ρ i < nCr ρ by omega)) okX3 rfl 1 (by decide) m_1150 (fun _ h => h) (v := .int (ρ.2 34 (cou ρ i))) rfl dX9_revokeUnearned_40 ?_
        refine lv_aload_n X.ex X.co dX9_revokeUnearned_43 rfl (lv_at hl 1 rfl) ?_
        refine f_get X hK (cw_ce F (i := i) (show i < nCe ρ by omega)) okX1 rfl 3 (by decide) m_1186 (fun _ h => h) (v := .ref (ad (10, i))) rfl dX9_revokeUnearned_44 ?_
        refine q_rV X ce_X9_hasMastery m_664 (c_X9_hasMastery l G A g ad ρ hI0 hC hgr (hol ρ i) (ad (10, i)) (eTh ρ i) (aTh ρ i) (ρ.2 33 (cou ρ i)) (ρ.2 34 (cou ρ i)) (ρ.2 38 i) (by omega) (by omega) (by omega)) (g0.step hS hAg) ⟨F, (cw_mo F (i := i) (show i < nCe ρ by omega))⟩ (cw_be F) rfl (by decide) rfl hl.1 rfl (Nat.le_of_ble_eq_true rfl) dX9_revokeUnearned_47 (by omega) (by omega) ?_
        obtain ⟨qn9, hq9, he9⟩ := h33 (cou ρ i) (by omega)
        have he8 : ρ.2 33 (cou ρ i) = nI qn9 := by rw [hρ, revL_V σ (by decide), ← hρ]; exact he9
        have hen9 : hasS ρ (hol ρ i) (ρ.2 33 (cou ρ i)) (ρ.2 34 (cou ρ i)) (ρ.2 38 i) (eTh ρ i) (aTh ρ i) (nLe ρ) = enoS ρ i (nLe ρ) := enough_n (σ := ρ) (c := i) hq9 he8 rfl rfl rfl rfl rfl (nLe ρ) (by omega)
        rw [hen9]
        refine b_if_ne X (x := enoS ρ i (nLe ρ)) (tgt := 58) dX9_revokeUnearned_50 (by decide) (fun c_9 => ?_) (fun c_9 => ?_)
        · refine lv_iinc (v := nI (i + 1)) (lv' := [(1, .int (nI (i + 1))), (3, .ref (ad (8, cou ρ i))), (2, .ref (ad (9, i))), (0, .ref (ad (0, 0)))]) X.ex X.co dX9_revokeUnearned_58 hl (k := 2) rfl (n_inc _) (by decide) rfl (fun ls hl => ?_)
          refine lv_goto (tgt := 2) X.ex X.co dX9_revokeUnearned_61 (by decide) ?_
          have F : cw G g A ad (sV ρ 41 i (bI (!(decide (ρ.2 41 i = 0)) || !(enoS ρ i (nLe ρ))))) H := cwL_eq (fun k hk => rfl) (cwL_S (by rw [c_9]; cases h9 : decide (ρ.2 41 i = 0) <;> simp [bI]) F)
          have hρ2 : sV ρ 41 i (bI (!(decide (ρ.2 41 i = 0)) || !(enoS ρ i (nLe ρ)))) = revL σ (i + 1) := by rw [hρ]; rfl
          exact ih_3 (i + 1) (by omega) (by omega) _ _ _ hρ2 F hS ls (lv_sub hl [0, 3] rfl)
        · refine lv_aload_n X.ex X.co dX9_revokeUnearned_53 rfl (lv_at hl 1 rfl) ?_
          refine lv_iconst (v := 0) X.ex X.co dX9_revokeUnearned_54 (by decide) ?_
          refine f_put X hK F hS (show (cLv g ρ) (9, i) from (show i < nCe ρ by omega)) rfl (ci := 6) (fs := [.int (nI i), .ref (ad (4, hol ρ i)), .ref (ad (8, cou ρ i)), .ref (ad (10, i)), .int (bI (decide (ρ.2 41 i = 0)))]) rfl okX1 rfl 4 (by decide) m_1188 (fun _ h => h) rfl (v := .int 0) rfl rfl rfl (Nat.le_of_ble_eq_true rfl) dX9_revokeUnearned_55 (fun H locs F hS => ?_)
          have F : fw G.1 (cLv g ρ) ad (iup (cEnL G g ad ρ (lstN ρ)) (9, i) (.inr (6, [.int (nI i), .ref (ad (4, hol ρ i)), .ref (ad (8, cou ρ i)), .ref (ad (10, i)), .int 0]))) A H := F
          refine lv_iinc (v := nI (i + 1)) (lv' := [(1, .int (nI (i + 1))), (3, .ref (ad (8, cou ρ i))), (2, .ref (ad (9, i))), (0, .ref (ad (0, 0)))]) X.ex X.co dX9_revokeUnearned_58 hl (k := 2) rfl (n_inc _) (by decide) rfl (fun ls hl => ?_)
          refine lv_goto (tgt := 2) X.ex X.co dX9_revokeUnearned_61 (by decide) ?_
          have F : cw G g A ad (sV ρ 41 i (bI (!(decide (ρ.2 41 i = 0)) || !(enoS ρ i (nLe ρ))))) H := by rw [c_9, show (!(decide (ρ.2 41 i = 0)) || !false) = true by cases decide (ρ.2 41 i = 0) <;> rfl]; exact cwL_eq (fun k hk => rfl) (upS F)
          have hρ2 : sV ρ 41 i (bI (!(decide (ρ.2 41 i = 0)) || !(enoS ρ i (nLe ρ)))) = revL σ (i + 1) := by rw [hρ]; rfl
          exact ih_3 (i + 1) (by omega) (by omega) _ _ _ hρ2 F hS ls (lv_sub hl [0, 3] rfl)
  exact loop_2 (nCe σ + 1) 0 (by omega) (by omega) _ _ _ rfl F hS ls (lv_sub hl [0, 1] rfl)
set_option maxHeartbeats 4000000 in
set_option maxRecDepth 100000 in
theorem c_X9_mend (l : Launch) (hst : l.stackTraces = false) (G : GT) (A : Nat → Prop) (hAg : ∀ q, A q → gA G q) (b : Nat) (σ : Sg) (hI : MI σ) (hJ : MJ σ) (h0 : σ.1 0 0 = 0) (ea fa aa : Int32) : xM l yX9_mend cX9_mend 6 ((Option.some FieldType.int)) 8 102 1220 G [.ref b, .int ea, .int fa, .int aa] (fun H => CB G A b σ H ∧ ∀ q, H.size ≤ q → A q) (fB G A b (fMend σ ea fa aa)) (fX ["java/lang/IndexOutOfBoundsException", "java/lang/IllegalArgumentException", "java/lang/IllegalStateException"] G A b (fMend σ ea fa aa)) A := by
  refine mk_x (by decide) (Nat.le_of_ble_eq_true rfl) ?_
  intro p e s m args below meth c X ls hl g0 F hno
  obtain ⟨⟨g, ad, hb0, ⟨hC, hgr, hwt, hsb⟩, F⟩, hfr⟩ := F
  subst hb0
  have hI0 := hI.1
  obtain ⟨b1, b2, b3, b4, b5, b6, b7⟩ := hI0.1
  obtain ⟨b8, b9, b10⟩ := hI.2.1
  have hone := hJ.2.2.2.2.2
  have hK := g0.1
  have hS : va_S A s.heap s.heap [] := va_S.rf
  have hLo := lstN_ok (g := g) hI
  have hl : lv_has ls 6 [(0, .ref (ad (0, 0))), (1, .int ea), (2, .int fa), (3, .int aa)] := hl
  show Wx p l e 8 102 1220 s m args below meth c (fB G A (ad (0, 0)) (fMend σ ea fa aa)) (fX ["java/lang/IndexOutOfBoundsException", "java/lang/IllegalArgumentException", "java/lang/IllegalStateException"] G A (ad (0, 0)) (fMend σ ea fa aa)) A s.heap [] 0 0 0 ls []
  refine lv_aload_n X.ex X.co dX9_mend_0 rfl (lv_at hl 0 rfl) ?_
  refine lv_iload_n X.ex X.co dX9_mend_1 rfl (lv_at hl 1 rfl) ?_
  rcases hok_1 : okP ea (nEx σ) with _ | _
  · exact x_V X ce_X9_findExercise m_626 (c_X9_findExerciseX l hst G A hAg g ad σ hI0 hC ea hok_1) (g0.step hS hAg) F (cw_be F) rfl (by decide) rfl hl.1 rfl (Nat.le_of_ble_eq_true rfl) dX9_mend_2 (by omega) (by omega) hS (fun _ h => h) hno (fun E H1 hB hz hq => fX_err (k := 0) (by show (fMend σ ea fa aa) = err σ 1; simp only [fMend]; simp [hok_1]) (by rw [hB.1]; rfl) (⟨g, ad, rfl, ⟨hC, hgr, hwt, hsb⟩, hB.2⟩ : CB G A (ad (0, 0)) σ H1)) (fun v0 H1 locs1 hB => hB.elim)
  · have ok_ea := hok_1
    obtain ⟨j_ea, hj_ea, rfl⟩ := (okP_ix (by omega)).mp ok_ea
    have ex_ea := ix_nI (j := j_ea) (by omega)
    refine q_rV X ce_X9_findExercise m_626 (c_X9_findExercise l G A g ad σ hI0 hC j_ea (by omega)) (g0.step hS hAg) F (cw_be F) rfl (by decide) rfl hl.1 rfl (Nat.le_of_ble_eq_true rfl) dX9_mend_2 (by omega) (by omega) ?_
    refine lv_astore (lv' := [(4, .ref (ad (6, j_ea))), (0, .ref (ad (0, 0))), (1, .int (nI j_ea)), (2, .int fa), (3, .int aa)]) X.ex X.co dX9_mend_5 hl (by decide) rfl (fun ls hl => ?_)
    refine lv_iload_n X.ex X.co dX9_mend_7 rfl (lv_at hl 3 rfl) ?_
    refine lv_iload_n X.ex X.co dX9_mend_8 rfl (lv_at hl 4 rfl) ?_
    rcases hr_2 : isR fa aa with _ | _
    · exact x_S X ce_X9_requireRule m_553 (c_X9_requireRuleX l hst G A hAg (fun H => cw G g A ad σ H) (fun H H1 hB hq => fw.old hB hq) fa aa hr_2) (g0.step hS hAg) F (by decide) rfl hl.1 rfl (Nat.le_of_ble_eq_true rfl) dX9_mend_9 (by omega) (by omega) hS (fun _ h => h) hno (fun E H1 hB hz hq => fX_err (k := 1) (by show (fMend σ (nI j_ea) fa aa) = err σ 2; simp only [fMend]; simp [hr_2, ok_ea, ex_ea]) (by rw [hB.1]; rfl) (⟨g, ad, rfl, ⟨hC, hgr, hwt, hsb⟩, hB.2⟩ : CB G A (ad (0, 0)) σ H1)) (fun v0 H1 locs1 hB => hB.elim)
    · refine q_rSv X ce_X9_requireRule m_553 (c_X9_requireRule l G fa aa hr_2) (g0.step hS hAg) trivial (by decide) rfl hl.1 rfl (Nat.le_of_ble_eq_true rfl) dX9_mend_9 (by omega) (by omega) ?_
      refine lv_aload X.ex X.co dX9_mend_12 (lv_at hl 0 rfl) ?_
      refine f_get X hK (cw_ex F (i := j_ea) (by omega)) okX4 rfl 6 (by decide) m_593 (fun _ h => h) (v := .ref (ad (11, j_ea))) rfl dX9_mend_14 ?_
      refine f_get X hK (cw_re F (i := j_ea) (by omega)) okX7 rfl 0 (by decide) m_567 (fun _ h => h) (v := .int (σ.2 13 j_ea)) rfl dX9_mend_17 ?_
      refine lv_iload_n X.ex X.co dX9_mend_20 rfl (lv_at hl 3 rfl) ?_
      refine lv_icmp_ne (tgt := 47) X.ex X.co dX9_mend_21 (by decide) (fun c_3 => ?_) (fun c_3 => ?_)
      · refine lv_aload X.ex X.co dX9_mend_47 (lv_at hl 0 rfl) ?_
        refine f_new X hK F hS hfr (17, 0) (fun z => z) (ci := 12) okX7 rfl m_560 m_561 m_27 [.int 0, .int 0] (by intro j hj; match j, hj with | 0, _ => rfl | 1, _ => rfl | n + 2, h => exact absurd h (by omega)) (by show _ ≤ 102; omega) (by show _ ≤ 1220; omega) dX9_mend_49 (fun q_4 H F hS => ?_)
        have F : fw G.1 (fun j => (cLv g σ) j ∨ j = (17, 0)) (iup ad (17, 0) q_4) (iup (cEnL G g ad σ (lstN σ)) (17, 0) (.inr (12, [.int 0, .int 0]))) A H := F
        have Fc : cw G g A ad σ H := cw_drop (t := (17, 0)) (fun z => z) F
        refine lv_dup X.ex X.co dX9_mend_52 rfl ?_
        refine lv_iload_n X.ex X.co dX9_mend_53 rfl (lv_at hl 3 rfl) ?_
        refine lv_iload_n X.ex X.co dX9_mend_54 rfl (lv_at hl 4 rfl) ?_
        refine q_vI X ce_X7_init m_562 (c_X7_init l G A hAg (fun j => (cLv g σ) j ∨ j = (17, 0)) (iup ad (17, 0) q_4) (iup (cEnL G g ad σ (lstN σ)) (17, 0) (.inr (12, [.int 0, .int 0]))) (17, 0) (Or.inr rfl) q_4 (iup_s _ _ _) (iup_s _ _ _) fa aa) (g0.step hS hAg) F (by decide) rfl hl.1 rfl (Nat.le_of_ble_eq_true rfl) dX9_mend_55 (by show _ ≤ 102; omega) (by show _ ≤ 1220; omega) hS (fun _ h => h) (fun H locs F hz hk9 hS => ?_)
        rw [iup_iup] at F
        have F : fw G.1 (fun j => (cLv g σ) j ∨ j = (17, 0)) (iup ad (17, 0) q_4) (iup (cEnL G g ad σ (lstN σ)) (17, 0) (.inr (12, [.int fa, .int aa]))) A H := F
        have Fc : cw G g A ad σ H := cw_drop (t := (17, 0)) (fun z => z) F
        refine f_put X hK F hS (Or.inl ((show (cLv g σ) (6, j_ea) from (show j_ea < nEx σ by omega)))) ((iup_n _ _ (kne (by decide))).trans rfl) (ci := 9) (fs := [.int (nI j_ea), .ref (ad (5, les σ j_ea)), .int (σ.2 15 j_ea), .ref (ad (13, j_ea)), .ref (ad (14, j_ea)), .ref (ad (1, 17 + j_ea)), .ref (ad (11, j_ea)), .int (nI (cas σ j_ea)), .int (nI (allS σ j_ea (cas σ j_ea)))]) ((iup_n _ _ (kne (by decide))).trans rfl) okX4 rfl 6 (by decide) m_593 (fun _ h => h) rfl (v := .ref q_4) rfl rfl rfl (Nat.le_of_ble_eq_true rfl) dX9_mend_58 (fun H locs F hS => ?_)
        have F : fw G.1 (fun j => (cLv g σ) j ∨ j = (17, 0)) (iup ad (17, 0) q_4) (iup (iup (cEnL G g ad σ (lstN σ)) (17, 0) (.inr (12, [.int fa, .int aa]))) (6, j_ea) (.inr (9, [.int (nI j_ea), .ref (ad (5, les σ j_ea)), .int (σ.2 15 j_ea), .ref (ad (13, j_ea)), .ref (ad (14, j_ea)), .ref (ad (1, 17 + j_ea)), .ref q_4, .int (nI (cas σ j_ea)), .int (nI (allS σ j_ea (cas σ j_ea)))]))) A H := F
        refine lv_aload X.ex X.co dX9_mend_61 (lv_at hl 0 rfl) ?_
        refine f_get X hK (fw.get F (Or.inl ((show (cLv g σ) (6, j_ea) from (show j_ea < nEx σ by omega)))) ((iup_n _ _ (kne (by decide))).trans rfl) (iup_s _ _ _)) okX4 rfl 1 (by decide) m_586 (fun _ h => h) (v := .ref (ad (5, les σ j_ea))) rfl dX9_mend_63 ?_
        have hf_f_5 := hI0.ex (i := j_ea) (by omega)
        refine lv_dup X.ex X.co dX9_mend_66 rfl ?_
        refine f_get X hK (fw.get F (Or.inl ((show (cLv g σ) (5, les σ j_ea) from (show les σ j_ea < nLe σ by omega)))) ((iup_n _ _ (kne (by decide))).trans rfl) ((iup_n _ _ (kne (by decide))).trans ((iup_n _ _ (kne (by decide))).trans rfl))) okX5 rfl 3 (by decide) m_531 (fun _ h => h) (v := .int (σ.2 10 (les σ j_ea))) rfl dX9_mend_67 ?_
        refine lv_iconst (v := 1) X.ex X.co dX9_mend_70 (by decide) ?_
        refine lv_iadd X.ex X.co dX9_mend_71 ?_
        refine f_put X hK F hS (Or.inl ((show (cLv g σ) (5, les σ j_ea) from (show les σ j_ea < nLe σ by omega)))) ((iup_n _ _ (kne (by decide))).trans rfl) (ci := 10) (fs := [.int (σ.2 8 (les σ j_ea)), .int (σ.2 9 (les σ j_ea)), .ref (ad (1, 9 + (les σ j_ea))), .int (σ.2 10 (les σ j_ea))]) ((iup_n _ _ (kne (by decide))).trans ((iup_n _ _ (kne (by decide))).trans rfl)) okX5 rfl 3 (by decide) m_531 (fun _ h => h) rfl (v := .int ((σ.2 10 (les σ j_ea)) + 1)) rfl rfl rfl (Nat.le_of_ble_eq_true rfl) dX9_mend_72 (fun H locs F hS => ?_)
        have F : fw G.1 (fun j => (cLv g σ) j ∨ j = (17, 0)) (iup ad (17, 0) q_4) (iup (iup (iup (cEnL G g ad σ (lstN σ)) (17, 0) (.inr (12, [.int fa, .int aa]))) (6, j_ea) (.inr (9, [.int (nI j_ea), .ref (ad (5, les σ j_ea)), .int (σ.2 15 j_ea), .ref (ad (13, j_ea)), .ref (ad (14, j_ea)), .ref (ad (1, 17 + j_ea)), .ref q_4, .int (nI (cas σ j_ea)), .int (nI (allS σ j_ea (cas σ j_ea)))]))) (5, les σ j_ea) (.inr (10, [.int (σ.2 8 (les σ j_ea)), .int (σ.2 9 (les σ j_ea)), .ref (ad (1, 9 + (les σ j_ea))), .int ((σ.2 10 (les σ j_ea)) + 1)]))) A H := F
        have F : cwL G g A (iup ad (11, j_ea) q_4) (men1 σ j_ea fa aa) (lstN σ) H := cwL_sg sameC_m1 (push_mend hLo hj_ea F)
        have hNm := men1_N σ j_ea fa aa
        have hLo : okL g (men1 σ j_ea fa aa) (lstN σ) := okL_N hNm hLo
        have hCm : CLL g (men1 σ j_ea fa aa) (lstN σ) := CLL_N hNm hC
        have hxm : j_ea < nEx (men1 σ j_ea fa aa) := by rw [show nEx (men1 σ j_ea fa aa) = nEx σ from congrFun (m1_1 (by decide)) 0]; exact hj_ea
        refine lv_aload_n X.ex X.co dX9_mend_75 rfl (lv_at hl 1 rfl) ?_
        refine lv_aload X.ex X.co dX9_mend_76 (lv_at hl 0 rfl) ?_
        refine q_eV X ce_X9_gradeAllAnew m_892 (cM_imp (c_X9_gradeAllAnew l G A hAg g (iup ad (11, j_ea) q_4) (men1 σ j_ea fa aa) (hNm.mi hI0) (lstN σ) hCm hLo j_ea hxm (by rw [lst_ex, anL_m1]) rfl (m1_b hI) (m1_g hgr)) (fun H z => z) (B' := eB (some (.int (nI (menF (men1 σ j_ea fa aa) (anL (men1 σ j_ea fa aa) j_ea)).1))) (fun H => ∃ τ g' ad', gaW G A (men1 σ j_ea fa aa) g (iup ad (11, j_ea) q_4) (lstN σ) (anL (men1 σ j_ea fa aa) j_ea) τ g' ad' H)) (fun v H z => by obtain ⟨τ, g', ad', z1, z2⟩ := z; exact ⟨z1, τ, g', ad', z2⟩)) (g0.step hS hAg) ⟨F, (fun q hq => hfr q (Nat.le_trans hS.1 hq))⟩ (cw_be F) rfl (by decide) rfl hl.1 rfl (Nat.le_of_ble_eq_true rfl) dX9_mend_78 (by show _ ≤ 102; omega) (by show _ ≤ 1220; omega) hS (fun _ h => h) (fun H locs F hz hk9 hS => ?_)
        obtain ⟨τ, g', ad', W⟩ := F
        have hNt0 := W.N
        obtain ⟨hτ, F, hC7, hLo7, w5, w6, w7, w8⟩ := W
        have e00 : ad' (0, 0) = ad (0, 0) := w8 (0, 0) (show (0 : Nat) ≠ 2 by decide)
        rw [← e00] at hl
        have hNt := me_N hτ
        have hnl : nLe τ = nLe σ := congrFun (hNt.s (k := 7) (by decide)) 0
        have hnr : nCr τ = nCr σ := congrFun (hNt.s (k := 32) (by decide)) 0
        have hncr : nCe τ = nCe σ := congrFun (hNt.s (k := 35) (by decide)) 0
        have w51 : ∀ x, x ∈ (anL (men1 σ j_ea fa aa) j_ea) → g'.2.2.1 1 x = 0 := fun x hx => (w5 x hx).2.1
        refine top_eq (y := nI (men2 σ j_ea fa aa).1) (by rw [anL_m1, menF_m1]) ?_
        refine lv_istore (lv' := [(5, .int (nI ((men2 σ j_ea fa aa).1))), (4, .ref (ad (6, j_ea))), (0, .ref (ad' (0, 0))), (1, .int (nI j_ea)), (2, .int fa), (3, .int aa)]) X.ex X.co dX9_mend_81 hl (by decide) rfl (fun ls hl => ?_)
        refine lv_aload_n X.ex X.co dX9_mend_83 rfl (lv_at hl 2 rfl) ?_
        refine q_vV X ce_X9_dropSettledAppeals m_854 (c_X9_dropSettledAppeals l G A hAg g' ad' τ (hNt.mi hI0) (upL (lstN σ) 8 (lstN τ 8)) hC7 hLo7 (fun i => decide (i.2 ∉ (anL (men1 σ j_ea fa aa) j_ea))) (by rw [upL_n _ _ (by decide)]; exact me_M hτ hI hwt w51 w6) (by rw [upL_n _ _ (by decide), show (lstN σ 7).length = nAp σ from rng_len]; omega)) (g0.step hS hAg) F (cw_be F) rfl (by decide) rfl hl.1 rfl (Nat.le_of_ble_eq_true rfl) dX9_mend_84 (by show _ ≤ 102; omega) (by show _ ≤ 1220; omega) hS (fun _ h => h) (fun H locs F hz hk9 hS => ?_)
        obtain ⟨x9, F⟩ := F
        have hLL := me_LL hτ
        have F : cw G (gls g' 7 (g'.1 7) x9) A ad' τ H := cwL_eq hLL F
        have hC : CL (gls g' 7 (g'.1 7) x9) τ := fun k hk => by rw [hLL k hk]; exact (CLL_up (g := g') hC7 ⟨Nat.le_trans (List.length_filter_le _ _) (hC7 7 (Or.inl (show 7 < 9 + nLe τ by omega))).1, (hC7 7 (Or.inl (show 7 < 9 + nLe τ by omega))).2⟩) k hk
        have hgr9 : ∀ a, a < nAn τ → (gls g' 7 (g'.1 7) x9).2.2.1 0 a = grade τ a := fun a ha => by
          have ha9 : a < nAn σ := by rw [← show nAn τ = nAn σ from congrFun (hNt.s (k := 19) (by decide)) 0]; exact ha
          by_cases h9 : a ∈ (anL (men1 σ j_ea fa aa) j_ea)
          · exact (w5 a h9).1
          · exact (w6 0 a h9).trans ((hgr a ha9).trans (me_gr hτ ha9 h9).symm)
        refine lv_aload_n X.ex X.co dX9_mend_87 rfl (lv_at hl 2 rfl) ?_
        refine q_vV X ce_X9_revokeUnearned m_1120 (c_X9_revokeUnearned l G A hAg (gls g' 7 (g'.1 7) x9) ad' τ (hNt.mi hI0) hC hgr9 (fun c hc => by rw [me_V hτ (by decide) (by decide), m1_V (by decide) (by decide) (by decide) (by decide)]; exact hJ.2.2.2.2.1 c (by omega))) (g0.step hS hAg) F (cw_be F) rfl (by decide) rfl hl.1 rfl (Nat.le_of_ble_eq_true rfl) dX9_mend_88 (by show _ ≤ 102; omega) (by show _ ≤ 1220; omega) hS (fun _ h => h) (fun H locs F hz hk9 hS => ?_)
        refine lv_iload X.ex X.co dX9_mend_91 (lv_at hl 0 rfl) ?_
        exact vx_ret (c_i X hS rfl rfl (by have hτ2 : τ = (men2 σ j_ea fa aa).2 := (by rw [hτ, anL_m1, menF_m1]); have q : (fMend σ (nI j_ea) fa aa) = (nI (men2 σ j_ea fa aa).1, revL τ (nCe τ)) := (by simp only [fMend]; rw [if_pos ok_ea, if_pos (by assumption), ex_ea, if_neg (fun z => c_3 z.1), ← hτ2, hncr]); rw [q]; exact ⟨rfl, (congrFun (congrFun (revL_1 τ (nCe τ)) 0) 0).trans ((congrFun (me_1 hτ 0 (by decide) (by decide) (by decide) (by decide)) 0).trans h0), CB_men (g := g) (g' := g') (g3 := (gls g' 7 (g'.1 7) x9)) hτ hwt hsb w51 w6 w7 rfl e00 hC hgr9 F⟩) (by omega) (by omega) dX9_mend_93)
      · refine lv_aload X.ex X.co dX9_mend_24 (lv_at hl 0 rfl) ?_
        refine f_get X hK (cw_ex F (i := j_ea) (by omega)) okX4 rfl 6 (by decide) m_593 (fun _ h => h) (v := .ref (ad (11, j_ea))) rfl dX9_mend_26 ?_
        refine f_get X hK (cw_re F (i := j_ea) (by omega)) okX7 rfl 1 (by decide) m_569 (fun _ h => h) (v := .int (σ.2 14 j_ea)) rfl dX9_mend_29 ?_
        refine lv_iload_n X.ex X.co dX9_mend_32 rfl (lv_at hl 4 rfl) ?_
        refine lv_icmp_ne (tgt := 47) X.ex X.co dX9_mend_33 (by decide) (fun c_6 => ?_) (fun c_6 => ?_)
        · refine lv_aload X.ex X.co dX9_mend_47 (lv_at hl 0 rfl) ?_
          refine f_new X hK F hS hfr (17, 0) (fun z => z) (ci := 12) okX7 rfl m_560 m_561 m_27 [.int 0, .int 0] (by intro j hj; match j, hj with | 0, _ => rfl | 1, _ => rfl | n + 2, h => exact absurd h (by omega)) (by show _ ≤ 102; omega) (by show _ ≤ 1220; omega) dX9_mend_49 (fun q_7 H F hS => ?_)
          have F : fw G.1 (fun j => (cLv g σ) j ∨ j = (17, 0)) (iup ad (17, 0) q_7) (iup (cEnL G g ad σ (lstN σ)) (17, 0) (.inr (12, [.int 0, .int 0]))) A H := F
          have Fc : cw G g A ad σ H := cw_drop (t := (17, 0)) (fun z => z) F
          refine lv_dup X.ex X.co dX9_mend_52 rfl ?_
          refine lv_iload_n X.ex X.co dX9_mend_53 rfl (lv_at hl 3 rfl) ?_
          refine lv_iload_n X.ex X.co dX9_mend_54 rfl (lv_at hl 4 rfl) ?_
          refine q_vI X ce_X7_init m_562 (c_X7_init l G A hAg (fun j => (cLv g σ) j ∨ j = (17, 0)) (iup ad (17, 0) q_7) (iup (cEnL G g ad σ (lstN σ)) (17, 0) (.inr (12, [.int 0, .int 0]))) (17, 0) (Or.inr rfl) q_7 (iup_s _ _ _) (iup_s _ _ _) fa aa) (g0.step hS hAg) F (by decide) rfl hl.1 rfl (Nat.le_of_ble_eq_true rfl) dX9_mend_55 (by show _ ≤ 102; omega) (by show _ ≤ 1220; omega) hS (fun _ h => h) (fun H locs F hz hk9 hS => ?_)
          rw [iup_iup] at F
          have F : fw G.1 (fun j => (cLv g σ) j ∨ j = (17, 0)) (iup ad (17, 0) q_7) (iup (cEnL G g ad σ (lstN σ)) (17, 0) (.inr (12, [.int fa, .int aa]))) A H := F
          have Fc : cw G g A ad σ H := cw_drop (t := (17, 0)) (fun z => z) F
          refine f_put X hK F hS (Or.inl ((show (cLv g σ) (6, j_ea) from (show j_ea < nEx σ by omega)))) ((iup_n _ _ (kne (by decide))).trans rfl) (ci := 9) (fs := [.int (nI j_ea), .ref (ad (5, les σ j_ea)), .int (σ.2 15 j_ea), .ref (ad (13, j_ea)), .ref (ad (14, j_ea)), .ref (ad (1, 17 + j_ea)), .ref (ad (11, j_ea)), .int (nI (cas σ j_ea)), .int (nI (allS σ j_ea (cas σ j_ea)))]) ((iup_n _ _ (kne (by decide))).trans rfl) okX4 rfl 6 (by decide) m_593 (fun _ h => h) rfl (v := .ref q_7) rfl rfl rfl (Nat.le_of_ble_eq_true rfl) dX9_mend_58 (fun H locs F hS => ?_)
          have F : fw G.1 (fun j => (cLv g σ) j ∨ j = (17, 0)) (iup ad (17, 0) q_7) (iup (iup (cEnL G g ad σ (lstN σ)) (17, 0) (.inr (12, [.int fa, .int aa]))) (6, j_ea) (.inr (9, [.int (nI j_ea), .ref (ad (5, les σ j_ea)), .int (σ.2 15 j_ea), .ref (ad (13, j_ea)), .ref (ad (14, j_ea)), .ref (ad (1, 17 + j_ea)), .ref q_7, .int (nI (cas σ j_ea)), .int (nI (allS σ j_ea (cas σ j_ea)))]))) A H := F
          refine lv_aload X.ex X.co dX9_mend_61 (lv_at hl 0 rfl) ?_
          refine f_get X hK (fw.get F (Or.inl ((show (cLv g σ) (6, j_ea) from (show j_ea < nEx σ by omega)))) ((iup_n _ _ (kne (by decide))).trans rfl) (iup_s _ _ _)) okX4 rfl 1 (by decide) m_586 (fun _ h => h) (v := .ref (ad (5, les σ j_ea))) rfl dX9_mend_63 ?_
          have hf_f_8 := hI0.ex (i := j_ea) (by omega)
          refine lv_dup X.ex X.co dX9_mend_66 rfl ?_
          refine f_get X hK (fw.get F (Or.inl ((show (cLv g σ) (5, les σ j_ea) from (show les σ j_ea < nLe σ by omega)))) ((iup_n _ _ (kne (by decide))).trans rfl) ((iup_n _ _ (kne (by decide))).trans ((iup_n _ _ (kne (by decide))).trans rfl))) okX5 rfl 3 (by decide) m_531 (fun _ h => h) (v := .int (σ.2 10 (les σ j_ea))) rfl dX9_mend_67 ?_
          refine lv_iconst (v := 1) X.ex X.co dX9_mend_70 (by decide) ?_
          refine lv_iadd X.ex X.co dX9_mend_71 ?_
          refine f_put X hK F hS (Or.inl ((show (cLv g σ) (5, les σ j_ea) from (show les σ j_ea < nLe σ by omega)))) ((iup_n _ _ (kne (by decide))).trans rfl) (ci := 10) (fs := [.int (σ.2 8 (les σ j_ea)), .int (σ.2 9 (les σ j_ea)), .ref (ad (1, 9 + (les σ j_ea))), .int (σ.2 10 (les σ j_ea))]) ((iup_n _ _ (kne (by decide))).trans ((iup_n _ _ (kne (by decide))).trans rfl)) okX5 rfl 3 (by decide) m_531 (fun _ h => h) rfl (v := .int ((σ.2 10 (les σ j_ea)) + 1)) rfl rfl rfl (Nat.le_of_ble_eq_true rfl) dX9_mend_72 (fun H locs F hS => ?_)
          have F : fw G.1 (fun j => (cLv g σ) j ∨ j = (17, 0)) (iup ad (17, 0) q_7) (iup (iup (iup (cEnL G g ad σ (lstN σ)) (17, 0) (.inr (12, [.int fa, .int aa]))) (6, j_ea) (.inr (9, [.int (nI j_ea), .ref (ad (5, les σ j_ea)), .int (σ.2 15 j_ea), .ref (ad (13, j_ea)), .ref (ad (14, j_ea)), .ref (ad (1, 17 + j_ea)), .ref q_7, .int (nI (cas σ j_ea)), .int (nI (allS σ j_ea (cas σ j_ea)))]))) (5, les σ j_ea) (.inr (10, [.int (σ.2 8 (les σ j_ea)), .int (σ.2 9 (les σ j_ea)), .ref (ad (1, 9 + (les σ j_ea))), .int ((σ.2 10 (les σ j_ea)) + 1)]))) A H := F
          have F : cwL G g A (iup ad (11, j_ea) q_7) (men1 σ j_ea fa aa) (lstN σ) H := cwL_sg sameC_m1 (push_mend hLo hj_ea F)
          have hNm := men1_N σ j_ea fa aa
          have hLo : okL g (men1 σ j_ea fa aa) (lstN σ) := okL_N hNm hLo
          have hCm : CLL g (men1 σ j_ea fa aa) (lstN σ) := CLL_N hNm hC
          have hxm : j_ea < nEx (men1 σ j_ea fa aa) := by rw [show nEx (men1 σ j_ea fa aa) = nEx σ from congrFun (m1_1 (by decide)) 0]; exact hj_ea
          refine lv_aload_n X.ex X.co dX9_mend_75 rfl (lv_at hl 1 rfl) ?_
          refine lv_aload X.ex X.co dX9_mend_76 (lv_at hl 0 rfl) ?_
          refine q_eV X ce_X9_gradeAllAnew m_892 (cM_imp (c_X9_gradeAllAnew l G A hAg g (iup ad (11, j_ea) q_7) (men1 σ j_ea fa aa) (hNm.mi hI0) (lstN σ) hCm hLo j_ea hxm (by rw [lst_ex, anL_m1]) rfl (m1_b hI) (m1_g hgr)) (fun H z => z) (B' := eB (some (.int (nI (menF (men1 σ j_ea fa aa) (anL (men1 σ j_ea fa aa) j_ea)).1))) (fun H => ∃ τ g' ad', gaW G A (men1 σ j_ea fa aa) g (iup ad (11, j_ea) q_7) (lstN σ) (anL (men1 σ j_ea fa aa) j_ea) τ g' ad' H)) (fun v H z => by obtain ⟨τ, g', ad', z1, z2⟩ := z; exact ⟨z1, τ, g', ad', z2⟩)) (g0.step hS hAg) ⟨F, (fun q hq => hfr q (Nat.le_trans hS.1 hq))⟩ (cw_be F) rfl (by decide) rfl hl.1 rfl (Nat.le_of_ble_eq_true rfl) dX9_mend_78 (by show _ ≤ 102; omega) (by show _ ≤ 1220; omega) hS (fun _ h => h) (fun H locs F hz hk9 hS => ?_)
          obtain ⟨τ, g', ad', W⟩ := F
          have hNt0 := W.N
          obtain ⟨hτ, F, hC7, hLo7, w5, w6, w7, w8⟩ := W
          have e00 : ad' (0, 0) = ad (0, 0) := w8 (0, 0) (show (0 : Nat) ≠ 2 by decide)
          rw [← e00] at hl
          have hNt := me_N hτ
          have hnl : nLe τ = nLe σ := congrFun (hNt.s (k := 7) (by decide)) 0
          have hnr : nCr τ = nCr σ := congrFun (hNt.s (k := 32) (by decide)) 0
          have hncr : nCe τ = nCe σ := congrFun (hNt.s (k := 35) (by decide)) 0
          have w51 : ∀ x, x ∈ (anL (men1 σ j_ea fa aa) j_ea) → g'.2.2.1 1 x = 0 := fun x hx => (w5 x hx).2.1
          refine top_eq (y := nI (men2 σ j_ea fa aa).1) (by rw [anL_m1, menF_m1]) ?_
          refine lv_istore (lv' := [(5, .int (nI ((men2 σ j_ea fa aa).1))), (4, .ref (ad (6, j_ea))), (0, .ref (ad' (0, 0))), (1, .int (nI j_ea)), (2, .int fa), (3, .int aa)]) X.ex X.co dX9_mend_81 hl (by decide) rfl (fun ls hl => ?_)
          refine lv_aload_n X.ex X.co dX9_mend_83 rfl (lv_at hl 2 rfl) ?_
          refine q_vV X ce_X9_dropSettledAppeals m_854 (c_X9_dropSettledAppeals l G A hAg g' ad' τ (hNt.mi hI0) (upL (lstN σ) 8 (lstN τ 8)) hC7 hLo7 (fun i => decide (i.2 ∉ (anL (men1 σ j_ea fa aa) j_ea))) (by rw [upL_n _ _ (by decide)]; exact me_M hτ hI hwt w51 w6) (by rw [upL_n _ _ (by decide), show (lstN σ 7).length = nAp σ from rng_len]; omega)) (g0.step hS hAg) F (cw_be F) rfl (by decide) rfl hl.1 rfl (Nat.le_of_ble_eq_true rfl) dX9_mend_84 (by show _ ≤ 102; omega) (by show _ ≤ 1220; omega) hS (fun _ h => h) (fun H locs F hz hk9 hS => ?_)
          obtain ⟨x9, F⟩ := F
          have hLL := me_LL hτ
          have F : cw G (gls g' 7 (g'.1 7) x9) A ad' τ H := cwL_eq hLL F
          have hC : CL (gls g' 7 (g'.1 7) x9) τ := fun k hk => by rw [hLL k hk]; exact (CLL_up (g := g') hC7 ⟨Nat.le_trans (List.length_filter_le _ _) (hC7 7 (Or.inl (show 7 < 9 + nLe τ by omega))).1, (hC7 7 (Or.inl (show 7 < 9 + nLe τ by omega))).2⟩) k hk
          have hgr9 : ∀ a, a < nAn τ → (gls g' 7 (g'.1 7) x9).2.2.1 0 a = grade τ a := fun a ha => by
            have ha9 : a < nAn σ := by rw [← show nAn τ = nAn σ from congrFun (hNt.s (k := 19) (by decide)) 0]; exact ha
            by_cases h9 : a ∈ (anL (men1 σ j_ea fa aa) j_ea)
            · exact (w5 a h9).1
            · exact (w6 0 a h9).trans ((hgr a ha9).trans (me_gr hτ ha9 h9).symm)
          refine lv_aload_n X.ex X.co dX9_mend_87 rfl (lv_at hl 2 rfl) ?_
          refine q_vV X ce_X9_revokeUnearned m_1120 (c_X9_revokeUnearned l G A hAg (gls g' 7 (g'.1 7) x9) ad' τ (hNt.mi hI0) hC hgr9 (fun c hc => by rw [me_V hτ (by decide) (by decide), m1_V (by decide) (by decide) (by decide) (by decide)]; exact hJ.2.2.2.2.1 c (by omega))) (g0.step hS hAg) F (cw_be F) rfl (by decide) rfl hl.1 rfl (Nat.le_of_ble_eq_true rfl) dX9_mend_88 (by show _ ≤ 102; omega) (by show _ ≤ 1220; omega) hS (fun _ h => h) (fun H locs F hz hk9 hS => ?_)
          refine lv_iload X.ex X.co dX9_mend_91 (lv_at hl 0 rfl) ?_
          exact vx_ret (c_i X hS rfl rfl (by have hτ2 : τ = (men2 σ j_ea fa aa).2 := (by rw [hτ, anL_m1, menF_m1]); have q : (fMend σ (nI j_ea) fa aa) = (nI (men2 σ j_ea fa aa).1, revL τ (nCe τ)) := (by simp only [fMend]; rw [if_pos ok_ea, if_pos (by assumption), ex_ea, if_neg (fun z => c_6 z.2), ← hτ2, hncr]); rw [q]; exact ⟨rfl, (congrFun (congrFun (revL_1 τ (nCe τ)) 0) 0).trans ((congrFun (me_1 hτ 0 (by decide) (by decide) (by decide) (by decide)) 0).trans h0), CB_men (g := g) (g' := g') (g3 := (gls g' 7 (g'.1 7) x9)) hτ hwt hsb w51 w6 w7 rfl e00 hC hgr9 F⟩) (by omega) (by omega) dX9_mend_93)
        · exact x_throwW X hst g0 hAg hS hno (cls := "java/lang/IllegalStateException") (text := "this is its rule already") (by decide) m_346 m_14 ok_ISE (tb_4 (List.mem_of_getElem? (i := 51) (by decide +kernel))) hl.1 dX9_mend_36 dX9_mend_39 dX9_mend_40 dX9_mend_43 dX9_mend_46 (Nat.le_of_ble_eq_true rfl) (by omega) (by omega) (fun H1 hz hq => fX_err (k := 2) (by show (fMend σ (nI j_ea) fa aa) = err σ 3; simp only [fMend]; rw [if_pos ok_ea, if_pos (by assumption), ex_ea, if_pos ⟨by assumption, by assumption⟩]) rfl (CB_old (⟨g, ad, rfl, ⟨hC, hgr, hwt, hsb⟩, F⟩ : CB G A (ad (0, 0)) σ _) hq))
