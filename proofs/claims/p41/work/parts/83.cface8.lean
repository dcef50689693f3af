theorem ce_X0_meetMend : ceV yX0_meetMend cX0_meetMend 2 ((Option.none : Option FieldType)) 0 := ⟨m_901, m_902, m_30, m_903, ⟨by decide, by decide, by decide +kernel⟩, by decide⟩
theorem ce_X9_placeAmongHarmed : ceV yX9_placeAmongHarmed cX9_placeAmongHarmed 3 ((Option.some FieldType.int)) 1 := ⟨m_907, mp_19, m_1, m_908, ⟨by decide, by decide, by decide +kernel⟩, by decide⟩
theorem ce_X9_gradeAllAnew : ceV yX9_gradeAllAnew cX9_gradeAllAnew 5 ((Option.some FieldType.int)) 1 := ⟨m_894, mp_18, m_1, m_895, ⟨by decide, by decide, by decide +kernel⟩, by decide⟩
set_option maxHeartbeats 4000000 in
set_option maxRecDepth 100000 in
theorem c_X0_meetMend (l : Launch) (G : GT) (A : Nat → Prop) (hAg : ∀ q, A q → gA G q) (g : CG) (ad : I2 → Nat) (σ : Sg) (hI0 : MI0 σ) (L : Nat → List I2) (j : Nat) (hj : j < nAn σ) : cM l yX0_meetMend cX0_meetMend 2 ((Option.none : Option FieldType)) 3 0 0 G [.ref (ad (7, j))] (fun H => cwL G g A ad σ L H) (eB none (cwL G (gAn g j (grade (menA σ j) j) 0 (g.2.2.1 0 j - grade (menA σ j) j)) A ad (menA σ j) L)) A := by
  refine mk_m (by decide) (Nat.le_of_ble_eq_true rfl) ?_
  intro p e s m args below meth c X ls hl g0 F hnm
  have hK := g0.1
  have hS : va_S A s.heap s.heap [] := va_S.rf
  obtain ⟨b1, b2, b3, b4, b5, b6, b7⟩ := hI0.1
  have hl : lv_has ls 2 [(0, .ref (ad (7, j)))] := hl
  show Wc p l e 3 0 0 s m args below meth c (eB none (cwL G (gAn g j (grade (menA σ j) j) 0 (g.2.2.1 0 j - grade (menA σ j) j)) A ad (menA σ j) L)) A s.heap [] 0 0 0 ls []
  refine lv_aload_n X.ex X.co dX0_meetMend_0 rfl (lv_at hl 0 rfl) ?_
  refine lv_iconst (v := 0) X.ex X.co dX0_meetMend_1 (by decide) ?_
  refine f_put X hK F hS (show (cLv g σ) (7, j) from (show j < nAn σ by omega)) rfl (ci := 5) (fs := [.int (nI j), .ref (ad (4, stu σ j)), .ref (ad (6, exe σ j)), .ref (ad (12, j)), .int (σ.2 24 j), .int (g.2.2.1 0 j), .int (σ.2 25 j), .int (g.2.2.1 1 j), .int (σ.2 26 j), .int (g.2.2.1 2 j)]) rfl okX0 rfl 7 (by decide) m_730 (fun _ h => h) rfl (v := .int 0) rfl rfl rfl (Nat.le_of_ble_eq_true rfl) dX0_meetMend_2 (fun H locs F hS => ?_)
  have F : fw G.1 (cLv g σ) ad (iup (cEnL G g ad σ L) (7, j) (.inr (5, [.int (nI j), .ref (ad (4, stu σ j)), .ref (ad (6, exe σ j)), .ref (ad (12, j)), .int (σ.2 24 j), .int (g.2.2.1 0 j), .int (σ.2 25 j), .int 0, .int (σ.2 26 j), .int (g.2.2.1 2 j)]))) A H := F
  refine lv_aload_n X.ex X.co dX0_meetMend_5 rfl (lv_at hl 0 rfl) ?_
  refine lv_iconst (v := 0) X.ex X.co dX0_meetMend_6 (by decide) ?_
  refine f_put X hK F hS (show (cLv g σ) (7, j) from (show j < nAn σ by omega)) rfl (ci := 5) (fs := [.int (nI j), .ref (ad (4, stu σ j)), .ref (ad (6, exe σ j)), .ref (ad (12, j)), .int (σ.2 24 j), .int (g.2.2.1 0 j), .int (σ.2 25 j), .int 0, .int (σ.2 26 j), .int (g.2.2.1 2 j)]) (iup_s _ _ _) okX0 rfl 8 (by decide) m_732 (fun _ h => h) rfl (v := .int 0) rfl rfl rfl (Nat.le_of_ble_eq_true rfl) dX0_meetMend_7 (fun H locs F hS => ?_)
  rw [iup_iup] at F
  have F : fw G.1 (cLv g σ) ad (iup (cEnL G g ad σ L) (7, j) (.inr (5, [.int (nI j), .ref (ad (4, stu σ j)), .ref (ad (6, exe σ j)), .ref (ad (12, j)), .int (σ.2 24 j), .int (g.2.2.1 0 j), .int (σ.2 25 j), .int 0, .int 0, .int (g.2.2.1 2 j)]))) A H := F
  refine lv_aload_n X.ex X.co dX0_meetMend_10 rfl (lv_at hl 0 rfl) ?_
  refine lv_iconst (v := 0) X.ex X.co dX0_meetMend_11 (by decide) ?_
  refine f_put X hK F hS (show (cLv g σ) (7, j) from (show j < nAn σ by omega)) rfl (ci := 5) (fs := [.int (nI j), .ref (ad (4, stu σ j)), .ref (ad (6, exe σ j)), .ref (ad (12, j)), .int (σ.2 24 j), .int (g.2.2.1 0 j), .int (σ.2 25 j), .int 0, .int 0, .int (g.2.2.1 2 j)]) (iup_s _ _ _) okX0 rfl 6 (by decide) m_728 (fun _ h => h) rfl (v := .int 0) rfl rfl rfl (Nat.le_of_ble_eq_true rfl) dX0_meetMend_12 (fun H locs F hS => ?_)
  rw [iup_iup] at F
  have F : fw G.1 (cLv g σ) ad (iup (cEnL G g ad σ L) (7, j) (.inr (5, [.int (nI j), .ref (ad (4, stu σ j)), .ref (ad (6, exe σ j)), .ref (ad (12, j)), .int (σ.2 24 j), .int (g.2.2.1 0 j), .int 0, .int 0, .int 0, .int (g.2.2.1 2 j)]))) A H := F
  refine lv_aload_n X.ex X.co dX0_meetMend_15 rfl (lv_at hl 0 rfl) ?_
  refine f_get X hK (fw.get F (show (cLv g σ) (7, j) from (show j < nAn σ by omega)) rfl (iup_s _ _ _)) okX0 rfl 5 (by decide) m_725 (fun _ h => h) (v := .int (g.2.2.1 0 j)) rfl dX0_meetMend_16 ?_
  refine lv_istore_n (lv' := [(1, .int (g.2.2.1 0 j)), (0, .ref (ad (7, j)))]) X.ex X.co dX0_meetMend_19 rfl hl (by decide) rfl (fun ls hl => ?_)
  refine lv_aload_n X.ex X.co dX0_meetMend_20 rfl (lv_at hl 1 rfl) ?_
  refine lv_aload_n X.ex X.co dX0_meetMend_21 rfl (lv_at hl 1 rfl) ?_
  have han9 := hI0.an hj; have hf9 := hI0.ex han9.2.1; have hg9 := allS_b hI0 (e := exe σ j) han9.2.1 _ (Nat.le_refl _)
  refine q_rV X ce_X0_gradeByRule m_904 (c_X0_gradeByRule l G ad σ (ad (7, j)) (ad (12, j)) (exe σ j) (σ.2 22 j) (σ.2 23 j) 0 (by omega) (by omega)) (g0.step hS hAg) ⟨⟨(fw.get F (show (cLv g σ) (6, exe σ j) from (show exe σ j < nEx σ by omega)) rfl ((iup_n _ _ (kne (by decide))).trans rfl)), (fw.get F (show (cLv g σ) (11, exe σ j) from (show exe σ j < nEx σ by omega)) rfl ((iup_n _ _ (kne (by decide))).trans rfl)), (fw.get F (show (cLv g σ) (13, exe σ j) from (show exe σ j < nEx σ by omega)) rfl ((iup_n _ _ (kne (by decide))).trans rfl)), (fw.get F (show (cLv g σ) (14, exe σ j) from (show exe σ j < nEx σ by omega)) rfl ((iup_n _ _ (kne (by decide))).trans rfl))⟩, (fw.get F (show (cLv g σ) (7, j) from (show j < nAn σ by omega)) rfl (iup_s _ _ _)), (fw.get F (show (cLv g σ) (12, j) from (show j < nAn σ by omega)) rfl ((iup_n _ _ (kne (by decide))).trans rfl))⟩ (fw.get F (show (cLv g σ) (7, j) from (show j < nAn σ by omega)) rfl (iup_s _ _ _)) rfl (by decide) rfl hl.1 rfl (Nat.le_of_ble_eq_true rfl) dX0_meetMend_22 (by omega) (by omega) ?_
  refine top_eq (y := (grade (menA σ j) j)) (dec_gr hI0 hj 0 0) ?_
  refine f_put X hK F hS (show (cLv g σ) (7, j) from (show j < nAn σ by omega)) rfl (ci := 5) (fs := [.int (nI j), .ref (ad (4, stu σ j)), .ref (ad (6, exe σ j)), .ref (ad (12, j)), .int (σ.2 24 j), .int (g.2.2.1 0 j), .int 0, .int 0, .int 0, .int (g.2.2.1 2 j)]) (iup_s _ _ _) okX0 rfl 5 (by decide) m_725 (fun _ h => h) rfl (v := .int (grade (menA σ j) j)) rfl rfl rfl (Nat.le_of_ble_eq_true rfl) dX0_meetMend_25 (fun H locs F hS => ?_)
  rw [iup_iup] at F
  have F : fw G.1 (cLv g σ) ad (iup (cEnL G g ad σ L) (7, j) (.inr (5, [.int (nI j), .ref (ad (4, stu σ j)), .ref (ad (6, exe σ j)), .ref (ad (12, j)), .int (σ.2 24 j), .int (grade (menA σ j) j), .int 0, .int 0, .int 0, .int (g.2.2.1 2 j)]))) A H := F
  refine lv_aload_n X.ex X.co dX0_meetMend_28 rfl (lv_at hl 1 rfl) ?_
  refine lv_iload_n X.ex X.co dX0_meetMend_29 rfl (lv_at hl 0 rfl) ?_
  refine lv_aload_n X.ex X.co dX0_meetMend_30 rfl (lv_at hl 1 rfl) ?_
  refine f_get X hK (fw.get F (show (cLv g σ) (7, j) from (show j < nAn σ by omega)) rfl (iup_s _ _ _)) okX0 rfl 5 (by decide) m_725 (fun _ h => h) (v := .int (grade (menA σ j) j)) rfl dX0_meetMend_31 ?_
  refine lv_isub X.ex X.co dX0_meetMend_34 ?_
  refine f_put X hK F hS (show (cLv g σ) (7, j) from (show j < nAn σ by omega)) rfl (ci := 5) (fs := [.int (nI j), .ref (ad (4, stu σ j)), .ref (ad (6, exe σ j)), .ref (ad (12, j)), .int (σ.2 24 j), .int (grade (menA σ j) j), .int 0, .int 0, .int 0, .int (g.2.2.1 2 j)]) (iup_s _ _ _) okX0 rfl 9 (by decide) m_734 (fun _ h => h) rfl (v := .int ((g.2.2.1 0 j) - (grade (menA σ j) j))) rfl rfl rfl (Nat.le_of_ble_eq_true rfl) dX0_meetMend_35 (fun H locs F hS => ?_)
  rw [iup_iup] at F
  have F : fw G.1 (cLv g σ) ad (iup (cEnL G g ad σ L) (7, j) (.inr (5, [.int (nI j), .ref (ad (4, stu σ j)), .ref (ad (6, exe σ j)), .ref (ad (12, j)), .int (σ.2 24 j), .int (grade (menA σ j) j), .int 0, .int 0, .int 0, .int ((g.2.2.1 0 j) - (grade (menA σ j) j))]))) A H := F
  exact c_v X hS rfl ⟨rfl, cwL_sg (sameC_dec σ j 0 0) (upA F)⟩ (by omega) (by omega) dX0_meetMend_38
set_option maxHeartbeats 4000000 in
set_option maxRecDepth 100000 in
theorem c_X9_placeAmongHarmed (l : Launch) (G : GT) (A : Nat → Prop) (g : CG) (ad : I2 → Nat) (σ : Sg) (hI0 : MI0 σ) (L : Nat → List I2) (hC : CLL g σ L) (h8 : L 8 = lstN σ 8) (hn : nHa σ ≤ 100) (hh : ∀ j, j < nHa σ → har σ j < nAn σ) (c9 : Int32) : rM l yX9_placeAmongHarmed cX9_placeAmongHarmed 3 ((Option.some FieldType.int)) 3 G [.ref (ad (0, 0)), .int c9] (fun H => cwL G g A ad σ L H) (some (.int (nI (plc (fun j => g.2.2.1 2 (har σ j)) c9 (nHa σ))))) := by
  refine mk_m (by decide) (Nat.le_of_ble_eq_true rfl) ?_
  intro p e s m args below meth c X ls hl g0 F hnm
  have hK := g0.1
  obtain ⟨b1, b2, b3, b4, b5, b6, b7⟩ := hI0.1
  have hl : lv_has ls 3 [(0, .ref (ad (0, 0))), (1, .int c9)] := hl
  show Wr p l e 3 s m args below meth c (some (.int (nI (plc (fun j => g.2.2.1 2 (har σ j)) c9 (nHa σ))))) 0 ls []
  refine lv_aload_n X.ex X.co dX9_placeAmongHarmed_0 rfl (lv_at hl 0 rfl) ?_
  refine f_get X hK (cw_be F) okX9 rfl 8 (by decide) m_114 (fun _ h => h) (v := .ref (ad (1, 8))) rfl dX9_placeAmongHarmed_1 ?_
  refine q_rV X ce_Jx4a65c_size_8abf5 m_144 (c_Jx4a65c_size_8abf5 l G (ad (1, 8)) (g.2.1 (8)) (lrow G g ad (8)) (nHa σ)) g0 (cw_lsn F (k := 8) (n := nHa σ) (Or.inl (show 8 < 9 + nLe σ by omega)) (by rw [h8]; exact rng_len)) (cw_lsn F (k := 8) (n := nHa σ) (Or.inl (show 8 < 9 + nLe σ by omega)) (by rw [h8]; exact rng_len)) rfl (by decide) rfl hl.1 rfl (Nat.le_of_ble_eq_true rfl) dX9_placeAmongHarmed_4 (by omega) (by omega) ?_
  refine lv_istore_n (lv' := [(2, .int (nI (nHa σ))), (0, .ref (ad (0, 0))), (1, .int c9)]) X.ex X.co dX9_placeAmongHarmed_7 rfl hl (by decide) rfl (fun ls hl => ?_)
  have loop_2 : ∀ (fu_1 u : Nat), u ≤ nHa σ ∧ plc (fun j => g.2.2.1 2 (har σ j)) c9 (nHa σ) = plc (fun j => g.2.2.1 2 (har σ j)) c9 (nHa σ - u) → nHa σ < u + fu_1 → ∀ ls : Array Slot, lv_has ls 3 [(2, .int (nI (nHa σ - u))), (0, .ref (ad (0, 0))), (1, .int c9)] → Wr p l e 3 s m args below meth c (some (.int (nI (plc (fun j => g.2.2.1 2 (har σ j)) c9 (nHa σ))))) 8 ls [] := by
    intro fu_1
    induction fu_1 with
    | zero => intro u h_4 h_5; exact absurd h_5 (by omega)
    | succ fu_1 ih_3 =>
      intro u h_4 h_5 ls hl
      refine lv_iload_n X.ex X.co dX9_placeAmongHarmed_8 rfl (lv_at hl 0 rfl) ?_
      refine n_if_le X (x := nHa σ - u) (tgt := 38) (by omega) dX9_placeAmongHarmed_9 (by decide) (fun c_6 => ?_) (fun c_6 => ?_)
      · refine lv_iload_n X.ex X.co dX9_placeAmongHarmed_38 rfl (lv_at hl 0 rfl) ?_
        exact r_i X rfl rfl (by rw [h_4.2, plc_z c_6]) dX9_placeAmongHarmed_39
      · refine lv_aload_n X.ex X.co dX9_placeAmongHarmed_12 rfl (lv_at hl 1 rfl) ?_
        refine f_get X hK (cw_be F) okX9 rfl 8 (by decide) m_114 (fun _ h => h) (v := .ref (ad (1, 8))) rfl dX9_placeAmongHarmed_13 ?_
        refine lv_iload_n X.ex X.co dX9_placeAmongHarmed_16 rfl (lv_at hl 0 rfl) ?_
        refine lv_iconst (v := 1) X.ex X.co dX9_placeAmongHarmed_17 (by decide) ?_
        refine n_sub X (x := nHa σ - u) (y := 1) (by omega) dX9_placeAmongHarmed_18 ?_
        refine q_rV X ce_Jx4a65c_get_915e3 m_164 (c_getR l G (ad (1, 8)) (g.2.1 8) (lrow G g ad 8) (nHa σ) (g.1 8) (cont (L 8) ad) ((nHa σ - u) - 1) (by omega) (cl_n hC (Or.inl (show 8 < 9 + nLe σ by omega)) (by rw [h8]; exact rng_len)) (cl_q hC (Or.inl (show 8 < 9 + nLe σ by omega))) (cont_get (j := (7, har σ ((nHa σ - u) - 1))) (by rw [h8]; exact har_get (by omega)))) g0 (cw_get F hC (k := 8) (x := ((nHa σ - u) - 1)) (n := nHa σ) (Or.inl (show 8 < 9 + nLe σ by omega)) (by rw [h8]; exact rng_len) (by omega)) (cw_get F hC (k := 8) (x := ((nHa σ - u) - 1)) (n := nHa σ) (Or.inl (show 8 < 9 + nLe σ by omega)) (by rw [h8]; exact rng_len) (by omega)).1 rfl (by decide) rfl hl.1 rfl (Nat.le_of_ble_eq_true rfl) dX9_placeAmongHarmed_19 (by omega) (by omega) ?_
        have hh9 := hh ((nHa σ - u) - 1) (by omega)
        refine f_castS X hK (cw_an F (i := har σ ((nHa σ - u) - 1)) (by omega)) rfl m_187 dX9_placeAmongHarmed_22 ?_
        refine f_get X hK (cw_an F (i := har σ ((nHa σ - u) - 1)) (by omega)) okX0 rfl 9 (by decide) m_735 (fun _ h => h) (v := .int (g.2.2.1 2 (har σ ((nHa σ - u) - 1)))) rfl dX9_placeAmongHarmed_25 ?_
        refine lv_iload_n X.ex X.co dX9_placeAmongHarmed_28 rfl (lv_at hl 2 rfl) ?_
        refine lv_icmp_ge (tgt := 38) X.ex X.co dX9_placeAmongHarmed_29 (by decide) (fun c_7 => ?_) (fun c_7 => ?_)
        · refine lv_iload_n X.ex X.co dX9_placeAmongHarmed_38 rfl (lv_at hl 0 rfl) ?_
          exact r_i X rfl rfl (by rw [h_4.2, plc_stop c_6 (nlt_of_le c_7)]) dX9_placeAmongHarmed_39
        · refine lv_iinc (v := nI ((nHa σ - u) - 1)) (lv' := [(2, .int (nI ((nHa σ - u) - 1))), (0, .ref (ad (0, 0))), (1, .int c9)]) X.ex X.co dX9_placeAmongHarmed_32 hl (k := 0) rfl (n_dec (by omega)) (by decide) rfl (fun ls hl => ?_)
          refine lv_goto (tgt := 8) X.ex X.co dX9_placeAmongHarmed_35 (by decide) ?_
          have hp9 : plc (fun j => g.2.2.1 2 (har σ j)) c9 (nHa σ - u) = plc (fun j => g.2.2.1 2 (har σ j)) c9 (nHa σ - u - 1) := plc_go c_6 (lt_of_nle c_7)
          rw [show nHa σ - u - 1 = nHa σ - (u + 1) by omega] at hp9 hl
          exact ih_3 (u + 1) ⟨by omega, by rw [← hp9]; exact h_4.2⟩ (by omega) ls (lv_sub hl [0, 1, 2] rfl)
  exact loop_2 (nHa σ + 1) 0 ⟨by omega, rfl⟩ (by omega) ls (lv_sub hl [0, 1, 2] rfl)
set_option maxHeartbeats 4000000 in
set_option maxRecDepth 100000 in
theorem c_X9_gradeAllAnew (l : Launch) (G : GT) (A : Nat → Prop) (hAg : ∀ q, A q → gA G q) (g : CG) (ad : I2 → Nat) (σ : Sg) (hI0 : MI0 σ) (L : Nat → List I2) (hC : CLL g σ L) (hLo : okL g σ L) (ex : Nat) (hx9 : ex < nEx σ) (h17 : L (17 + ex) = (anL σ ex).map (fun a => (7, a))) (h0H : nHa σ = 0) (h31 : ∀ x, x < nAn σ → ∃ b, b ≤ 100 ∧ σ.2 31 x = nI b) (hg0 : ∀ x ∈ anL σ ex, g.2.2.1 0 x = σ.2 31 x) : cM l yX9_gradeAllAnew cX9_gradeAllAnew 5 ((Option.some FieldType.int)) 6 100 1200 G [.ref (ad (0, 0)), .ref (ad (6, ex))] (fun H => cwL G g A ad σ L H ∧ ∀ q, H.size ≤ q → A q) (fun r H => ∃ τ g' ad', r = some (.int (nI (menF σ (anL σ ex)).1)) ∧ gaW G A σ g ad L (anL σ ex) τ g' ad' H) A := by
  refine mk_m (by decide) (Nat.le_of_ble_eq_true rfl) ?_
  intro p e s m args below meth c X ls hl g0 F hnm
  have hK := g0.1
  have hS : va_S A s.heap s.heap [] := va_S.rf
  obtain ⟨F, hfr⟩ := F
  obtain ⟨b1, b2, b3, b4, b5, b6, b7⟩ := hI0.1
  have hLn := anL_len σ ex
  have hl : lv_has ls 5 [(0, .ref (ad (0, 0))), (1, .ref (ad (6, ex)))] := hl
  show Wc p l e 6 100 1200 s m args below meth c (fun r H => ∃ τ g' ad', r = some (.int (nI (menF σ (anL σ ex)).1)) ∧ gaW G A σ g ad L (anL σ ex) τ g' ad' H) A s.heap [] 0 0 0 ls []
  refine lv_aload_n X.ex X.co dX9_gradeAllAnew_0 rfl (lv_at hl 0 rfl) ?_
  refine f_get X hK (cw_be F) okX9 rfl 8 (by decide) m_114 (fun _ h => h) (v := .ref (ad (1, 8))) rfl dX9_gradeAllAnew_1 ?_
  refine q_vV X ce_Jx4a65c_clear_da8c8 m_896 (c_clL l G A hAg g ad σ L hC hLo 8 (Or.inl (show 8 < 9 + nLe σ by omega)) _ rfl) (g0.step hS hAg) F (cw_ls F (k := 8) (Or.inl (show 8 < 9 + nLe σ by omega))) rfl (by decide) rfl hl.1 rfl (Nat.le_of_ble_eq_true rfl) dX9_gradeAllAnew_4 (by show _ ≤ 100; omega) (by show _ ≤ 1200; omega) hS (fun _ h => h) (fun H locs F hz hk9 hS => ?_)
  have W := ga_0 (g := (gls g 8 (g.1 8) (g.2.1 8 + 1))) (g0 := g) (ad := ad) (L0 := L) h0H (CLL_up hC ⟨Nat.zero_le _, (hC 8 (Or.inl (show 8 < 9 + nLe σ by omega))).2⟩) (okL_up hLo (fun i hi => by cases hi)) rfl F
  refine lv_iconst (v := 0) X.ex X.co dX9_gradeAllAnew_7 (by decide) ?_
  refine lv_istore_n (lv' := [(2, .int 0), (0, .ref (ad (0, 0))), (1, .ref (ad (6, ex)))]) X.ex X.co dX9_gradeAllAnew_8 rfl hl (by decide) rfl (fun ls hl => ?_)
  refine lv_iconst (v := 0) X.ex X.co dX9_gradeAllAnew_9 (by decide) ?_
  refine lv_istore_n (lv' := [(3, .int 0), (2, .int 0), (0, .ref (ad (0, 0))), (1, .ref (ad (6, ex)))]) X.ex X.co dX9_gradeAllAnew_10 rfl hl (by decide) rfl (fun ls hl => ?_)
  have loop_2 : ∀ (fu_1 i : Nat), i ≤ (anL σ ex).length → (anL σ ex).length < i + fu_1 → ∀ (H : Heap) (locs : List Loc) (g' : CG) (ad' : I2 → Nat) (τ : Sg) (ce sl : Nat), gaW G A σ g ad L ((anL σ ex).take i) τ g' ad' H → ce ≤ i → sl ≤ 4 * g'.1 8 → va_S A s.heap H locs → ∀ ls : Array Slot, lv_has ls 5 [(3, .int (nI i)), (2, .int (nI ((menF σ ((anL σ ex).take i)).1))), (0, .ref (ad (0, 0))), (1, .ref (ad (6, ex)))] → Wc p l e 6 100 1200 s m args below meth c (fun r H => ∃ τ g' ad', r = some (.int (nI (menF σ (anL σ ex)).1)) ∧ gaW G A σ g ad L (anL σ ex) τ g' ad' H) A H locs ce sl 11 ls [] := by
    intro fu_1
    induction fu_1 with
    | zero => intro i h_4 h_5; exact absurd h_5 (by omega)
    | succ fu_1 ih_3 =>
      intro i h_4 h_5 H locs g' ad' τ ce sl W hce hsl hS ls hl
      have W0 := W
      obtain ⟨w1, F, hC9, hLo9, w5, w6, w7, w8⟩ := W
      have hN := gaW.N W0
      have hcap9 : g'.1 8 ≤ 200 := (hC9 8 (Or.inl (by omega))).2
      have hnn : nAn τ = nAn σ := congrFun (hN.s (k := 19) (by decide)) 0
      have hnx : nEx τ = nEx σ := congrFun (hN.s (k := 11) (by decide)) 0
      have hnl : nLe τ = nLe σ := congrFun (hN.s (k := 7) (by decide)) 0
      rw [← w8 (0, 0) (show (0 : Nat) ≠ 2 by decide), ← w8 (6, ex) (show (6 : Nat) ≠ 2 by decide)] at hl
      refine lv_iload_n X.ex X.co dX9_gradeAllAnew_11 rfl (lv_at hl 0 rfl) ?_
      refine lv_aload_n X.ex X.co dX9_gradeAllAnew_12 rfl (lv_at hl 3 rfl) ?_
      refine f_get X hK (show va_at G.1 vwCl (ad' (6, ex), eEx ad' τ ex) H from by have h9 := (cw_ex F (i := ex) (show ex < nEx τ by omega)); exact h9) okX4 rfl 5 (by decide) m_591 (fun _ h => h) (v := .ref (ad' (1, 17 + ex))) rfl dX9_gradeAllAnew_13 ?_
      refine q_rV X ce_Jx4a65c_size_8abf5 m_144 (c_Jx4a65c_size_8abf5 l G (ad' (1, 17 + ex)) (g'.2.1 (17 + ex)) (lrow G g' ad' (17 + ex)) ((anL σ ex).length)) (g0.step hS hAg) (cw_lsn F (k := 17 + ex) (n := (anL σ ex).length) (Or.inr ⟨by omega, by show 17 + ex < 17 + nEx τ; omega⟩) (by rw [upL_n _ _ (by omega), h17, List.length_map])) (cw_lsn F (k := 17 + ex) (n := (anL σ ex).length) (Or.inr ⟨by omega, by show 17 + ex < 17 + nEx τ; omega⟩) (by rw [upL_n _ _ (by omega), h17, List.length_map])) rfl (by decide) rfl hl.1 rfl (Nat.le_of_ble_eq_true rfl) dX9_gradeAllAnew_16 (by omega) (by omega) ?_
      refine n_cmp_ge X (x := i) (y := (anL σ ex).length) (tgt := 75) (by omega) (by omega) dX9_gradeAllAnew_19 (by decide) (fun c_6 => ?_) (fun c_6 => ?_)
      · refine lv_iload_n X.ex X.co dX9_gradeAllAnew_75 rfl (lv_at hl 1 rfl) ?_
        exact c_i X hS rfl rfl ⟨τ, g', ad', (by rw [List.take_of_length_le (by omega)]), by have h9 := W0; rw [List.take_of_length_le (by omega)] at h9; exact h9⟩ (by omega) (by omega) dX9_gradeAllAnew_76
      · refine lv_aload_n X.ex X.co dX9_gradeAllAnew_22 rfl (lv_at hl 3 rfl) ?_
        refine f_get X hK (show va_at G.1 vwCl (ad' (6, ex), eEx ad' τ ex) H from by have h9 := (cw_ex F (i := ex) (show ex < nEx τ by omega)); exact h9) okX4 rfl 5 (by decide) m_591 (fun _ h => h) (v := .ref (ad' (1, 17 + ex))) rfl dX9_gradeAllAnew_23 ?_
        refine lv_iload_n X.ex X.co dX9_gradeAllAnew_26 rfl (lv_at hl 0 rfl) ?_
        obtain ⟨y, hy, hy1, hy2⟩ := anL_at (σ := σ) (e := ex) (i := i) (by omega)
        refine q_rV X ce_Jx4a65c_get_915e3 m_164 (c_getR l G (ad' (1, 17 + ex)) (g'.2.1 (17 + ex)) (lrow G g' ad' (17 + ex)) (anL σ ex).length (g'.1 (17 + ex)) (cont ((upL L 8 (lstN τ 8)) (17 + ex)) ad') i (by omega) (cl_n hC9 (Or.inr ⟨by omega, by show 17 + ex < 17 + nEx τ; omega⟩) (by rw [upL_n _ _ (by omega), h17, List.length_map])) (cl_q hC9 (Or.inr ⟨by omega, by show 17 + ex < 17 + nEx τ; omega⟩)) (cont_get (j := (7, y)) (by rw [upL_n _ _ (by omega), h17, List.getElem?_map, hy]; rfl))) (g0.step hS hAg) (cw_get F hC9 (k := 17 + ex) (x := i) (n := (anL σ ex).length) (Or.inr ⟨by omega, by show 17 + ex < 17 + nEx τ; omega⟩) (by rw [upL_n _ _ (by omega), h17, List.length_map]) (by omega)) (cw_get F hC9 (k := 17 + ex) (x := i) (n := (anL σ ex).length) (Or.inr ⟨by omega, by show 17 + ex < 17 + nEx τ; omega⟩) (by rw [upL_n _ _ (by omega), h17, List.length_map]) (by omega)).1 rfl (by decide) rfl hl.1 rfl (Nat.le_of_ble_eq_true rfl) dX9_gradeAllAnew_27 (by omega) (by omega) ?_
        refine f_castS X hK (cw_an F (i := y) (show y < nAn τ by omega)) rfl m_187 dX9_gradeAllAnew_30 ?_
        refine lv_astore (lv' := [(4, .ref (ad' (7, y))), (3, .int (nI i)), (2, .int (nI ((menF σ ((anL σ ex).take i)).1))), (0, .ref (ad' (0, 0))), (1, .ref (ad' (6, ex)))]) X.ex X.co dX9_gradeAllAnew_33 hl (by decide) rfl (fun ls hl => ?_)
        refine lv_aload X.ex X.co dX9_gradeAllAnew_35 (lv_at hl 0 rfl) ?_
        refine q_vV X ce_X0_meetMend m_900 (c_X0_meetMend l G A hAg g' ad' τ (hN.mi hI0) (upL L 8 (lstN τ 8)) y (by omega)) (g0.step hS hAg) F (cw_an F (i := y) (show y < nAn τ by omega)) rfl (by decide) rfl hl.1 rfl (Nat.le_of_ble_eq_true rfl) dX9_gradeAllAnew_37 (by show _ ≤ 100; omega) (by show _ ≤ 1200; omega) hS (fun _ h => h) (fun H locs F hz hk9 hS => ?_)
        have hNt := menA_N (eqN.rf τ) y
        have hNA := hNt.tr hN
        have hnn2 : nAn (menA τ y) = nAn σ := congrFun (hNA.s (k := 19) (by decide)) 0
        have hnx2 : nEx (menA τ y) = nEx σ := congrFun (hNA.s (k := 11) (by decide)) 0
        have hnl2 : nLe (menA τ y) = nLe σ := congrFun (hNA.s (k := 7) (by decide)) 0
        have hC8 : CLL (gAn g' y (grade (menA τ y) y) 0 (g'.2.2.1 0 y - grade (menA τ y) y)) (menA τ y) (upL L 8 (lstN τ 8)) := CLL_N (g := (gAn g' y (grade (menA τ y) y) 0 (g'.2.2.1 0 y - grade (menA τ y) y))) hNt hC9
        have hLo8 : okL (gAn g' y (grade (menA τ y) y) 0 (g'.2.2.1 0 y - grade (menA τ y) y)) (menA τ y) (upL L 8 (lstN τ 8)) := okL_N hNt hLo9
        obtain ⟨fl9, hfl9⟩ : ∃ z, z = g'.2.2.1 0 y - grade (menA τ y) y := ⟨_, rfl⟩
        have hyM := nd_take (anL_nd σ ex) hy
        have hyg := hg0 y (List.mem_of_getElem? hy)
        have hMn : ∀ x ∈ ((anL σ ex).take i), x < nAn σ := fun x hx => (anL_mem (List.mem_of_mem_take hx)).1
        have hH0 : nHa τ = i := by rw [gaW.n W0 h0H, List.length_take]; omega
        have hH9 : nHa (menA τ y) = i := (menA_H τ y).1.trans hH0
        have hfz := ga_ch W0 hI0 h31 hy1 hyM hyg
        rw [← hfl9] at hfz
        have h68 : (lstN τ 8).length = i := (show (lstN τ 8).length = nHa τ from rng_len).trans hH0
        refine lv_aload X.ex X.co dX9_gradeAllAnew_40 (lv_at hl 0 rfl) ?_
        refine f_get X hK (show va_at G.1 vwCl (ad' (7, y), eAn (gAn g' y (grade (menA τ y) y) 0 (g'.2.2.1 0 y - grade (menA τ y) y)) ad' (menA τ y) y) H from by have h9 := (cw_an F (i := y) (show y < nAn (menA τ y) by omega)); exact h9) okX0 rfl 9 (by decide) m_735 (fun _ h => h) (v := .int fl9) (by rw [hfl9]; exact congrArg (fun z => some (Value.int z)) gAn_f) dX9_gradeAllAnew_42 ?_
        refine lv_if_eq (tgt := 51) X.ex X.co dX9_gradeAllAnew_45 (by decide) (fun c_7 => ?_) (fun c_7 => ?_)
        · refine lv_aload_n X.ex X.co dX9_gradeAllAnew_51 rfl (lv_at hl 3 rfl) ?_
          refine f_get X hK (show va_at G.1 vwCl (ad' (0, 0), eBe ad' (dayV (menA τ y))) H from by have h9 := (cw_be F); exact h9) okX9 rfl 8 (by decide) m_114 (fun _ h => h) (v := .ref (ad' (1, 8))) rfl dX9_gradeAllAnew_52 ?_
          refine lv_aload_n X.ex X.co dX9_gradeAllAnew_55 rfl (lv_at hl 3 rfl) ?_
          refine lv_aload X.ex X.co dX9_gradeAllAnew_56 (lv_at hl 0 rfl) ?_
          refine f_get X hK (show va_at G.1 vwCl (ad' (7, y), eAn (gAn g' y (grade (menA τ y) y) 0 (g'.2.2.1 0 y - grade (menA τ y) y)) ad' (menA τ y) y) H from by have h9 := (cw_an F (i := y) (show y < nAn (menA τ y) by omega)); exact h9) okX0 rfl 9 (by decide) m_735 (fun _ h => h) (v := .int fl9) (by rw [hfl9]; exact congrArg (fun z => some (Value.int z)) gAn_f) dX9_gradeAllAnew_58 ?_
          refine q_rV X ce_X9_placeAmongHarmed m_905 (c_X9_placeAmongHarmed l G A (gAn g' y (grade (menA τ y) y) 0 (g'.2.2.1 0 y - grade (menA τ y) y)) ad' (menA τ y) (hNA.mi hI0) (upL L 8 (lstN τ 8)) hC8 (by rw [upL_s, lst8_A]) (by omega) (fun j hj => by rw [(menA_H τ y).2, hnn2]; exact hMn _ (gaW.h W0 h0H (by rw [← (menA_H τ y).1]; exact hj))) fl9) (g0.step hS hAg) F (cw_be F) rfl (by decide) rfl hl.1 rfl (Nat.le_of_ble_eq_true rfl) dX9_gradeAllAnew_61 (by omega) (by omega) ?_
          obtain ⟨pl9, hpl9⟩ : ∃ z, z = (harD (menA τ y) y (nHa (menA τ y))).1 := ⟨_, rfl⟩
          refine top_eq (y := nI pl9) (by rw [hpl9, hfl9, ga_p W0 hI0 h0H h31 hMn hy1 hyM hyg]) ?_
          refine lv_aload X.ex X.co dX9_gradeAllAnew_64 (lv_at hl 0 rfl) ?_
          have hs9 := addS_le (n := ((upL L 8 (lstN τ 8)) 8).length) (hC8 8 (Or.inl (show 8 < 9 + nLe (menA τ y) by omega))).2
          have hle9 : ((upL L 8 (lstN τ 8)) 8).length = i := by rw [upL_s]; exact h68
          have hpi : pl9 ≤ i := by rw [hpl9, ← hH9]; exact harD_le _ _ _
          refine q_vV X ce_Jx4a65c_add_7a177 m_909 (c_insL l G A hAg (gAn g' y (grade (menA τ y) y) 0 (g'.2.2.1 0 y - grade (menA τ y) y)) ad' (menA τ y) (upL L 8 (lstN τ 8)) hC8 hLo8 8 (Or.inl (show 8 < 9 + nLe (menA τ y) by omega)) (7, y) (show y < nAn (menA τ y) by omega) (Nat.le_of_ble_eq_true rfl) (Nat.le_of_ble_eq_true rfl) (by omega) pl9 (by omega) _ _ rfl rfl) (g0.step hS hAg) ⟨F, (fun q hq => hfr q (Nat.le_trans hS.1 hq))⟩ (cw_ls F (k := 8) (Or.inl (show 8 < 9 + nLe (menA τ y) by omega))) rfl (by decide) rfl hl.1 rfl (Nat.le_of_ble_eq_true rfl) dX9_gradeAllAnew_66 (by show _ ≤ 100; omega) (by show _ ≤ 1200; omega) hS (fun _ h => h) (fun H locs F hz hk9 hS => ?_)
          obtain ⟨q9, F⟩ := F
          have F : cwL G (gls (gAn g' y (grade (menA τ y) y) 0 (g'.2.2.1 0 y - grade (menA τ y) y)) 8 (ncap (lstN τ 8).length (g'.1 8)) ((gAn g' y (grade (menA τ y) y) 0 (g'.2.2.1 0 y - grade (menA τ y) y)).2.1 8 + 1)) A (iup ad' (2, 8) q9) (menA τ y) (upL (upL L 8 (lstN τ 8)) 8 ((lstN τ 8).insertIdx pl9 (7, y))) H := by have h9 := F; rw [upL_s] at h9; exact h9
          rw [hpl9] at F
          have W1 := ga_step W0 hI0 hy1 hyM hyg (by omega) F
          refine lv_iinc (v := nI (i + 1)) (lv' := [(3, .int (nI (i + 1))), (4, .ref (ad' (7, y))), (2, .int (nI ((menF σ ((anL σ ex).take i)).1))), (0, .ref (ad' (0, 0))), (1, .ref (ad' (6, ex)))]) X.ex X.co dX9_gradeAllAnew_69 hl (k := 1) rfl (n_inc _) (by decide) rfl (fun ls hl => ?_)
          refine lv_goto (tgt := 11) X.ex X.co dX9_gradeAllAnew_72 (by decide) ?_
          rw [w8 (0, 0) (show (0 : Nat) ≠ 2 by decide), w8 (6, ex) (show (6 : Nat) ≠ 2 by decide)] at hl
          rw [← take_s hy] at W1
          have hc9 : (menF σ ((anL σ ex).take (i + 1))).1 = (menF σ ((anL σ ex).take i)).1 := by rw [menF_s hy]; show (menF σ ((anL σ ex).take i)).1 + (decide (¬ grade (menA (menF σ ((anL σ ex).take i)).2 y) y = (menA (menF σ ((anL σ ex).take i)).2 y).2 31 y)).toNat = _; rw [← w1, show decide (¬ grade (menA τ y) y = (menA τ y).2 31 y) = false from decide_eq_false (fun z => z (hfz.mp c_7))]; rfl
          rw [← hc9] at hl
          exact ih_3 (i + 1) (by omega) (by omega) _ _ _ _ _ _ _ W1 (by omega) (by rw [gls_1]; have h9 := addS_nc (n := (lstN τ 8).length) (q := g'.1 8); have h8 : addS ((upL L 8 (lstN τ 8)) 8).length ((gAn g' y (grade (menA τ y) y) 0 (g'.2.2.1 0 y - grade (menA τ y) y)).1 8) = addS (lstN τ 8).length (g'.1 8) := (by rw [upL_s]; rfl); omega) hS ls (lv_sub hl [0, 2, 3, 4] rfl)
        · refine lv_iinc (v := nI (((menF σ ((anL σ ex).take i)).1) + 1)) (lv' := [(2, .int (nI (((menF σ ((anL σ ex).take i)).1) + 1))), (4, .ref (ad' (7, y))), (3, .int (nI i)), (0, .ref (ad' (0, 0))), (1, .ref (ad' (6, ex)))]) X.ex X.co dX9_gradeAllAnew_48 hl (k := 2) rfl (n_inc _) (by decide) rfl (fun ls hl => ?_)
          refine lv_aload_n X.ex X.co dX9_gradeAllAnew_51 rfl (lv_at hl 3 rfl) ?_
          refine f_get X hK (show va_at G.1 vwCl (ad' (0, 0), eBe ad' (dayV (menA τ y))) H from by have h9 := (cw_be F); exact h9) okX9 rfl 8 (by decide) m_114 (fun _ h => h) (v := .ref (ad' (1, 8))) rfl dX9_gradeAllAnew_52 ?_
          refine lv_aload_n X.ex X.co dX9_gradeAllAnew_55 rfl (lv_at hl 3 rfl) ?_
          refine lv_aload X.ex X.co dX9_gradeAllAnew_56 (lv_at hl 1 rfl) ?_
          refine f_get X hK (show va_at G.1 vwCl (ad' (7, y), eAn (gAn g' y (grade (menA τ y) y) 0 (g'.2.2.1 0 y - grade (menA τ y) y)) ad' (menA τ y) y) H from by have h9 := (cw_an F (i := y) (show y < nAn (menA τ y) by omega)); exact h9) okX0 rfl 9 (by decide) m_735 (fun _ h => h) (v := .int fl9) (by rw [hfl9]; exact congrArg (fun z => some (Value.int z)) gAn_f) dX9_gradeAllAnew_58 ?_
          refine q_rV X ce_X9_placeAmongHarmed m_905 (c_X9_placeAmongHarmed l G A (gAn g' y (grade (menA τ y) y) 0 (g'.2.2.1 0 y - grade (menA τ y) y)) ad' (menA τ y) (hNA.mi hI0) (upL L 8 (lstN τ 8)) hC8 (by rw [upL_s, lst8_A]) (by omega) (fun j hj => by rw [(menA_H τ y).2, hnn2]; exact hMn _ (gaW.h W0 h0H (by rw [← (menA_H τ y).1]; exact hj))) fl9) (g0.step hS hAg) F (cw_be F) rfl (by decide) rfl hl.1 rfl (Nat.le_of_ble_eq_true rfl) dX9_gradeAllAnew_61 (by omega) (by omega) ?_
          obtain ⟨pl9, hpl9⟩ : ∃ z, z = (harD (menA τ y) y (nHa (menA τ y))).1 := ⟨_, rfl⟩
          refine top_eq (y := nI pl9) (by rw [hpl9, hfl9, ga_p W0 hI0 h0H h31 hMn hy1 hyM hyg]) ?_
          refine lv_aload X.ex X.co dX9_gradeAllAnew_64 (lv_at hl 1 rfl) ?_
          have hs9 := addS_le (n := ((upL L 8 (lstN τ 8)) 8).length) (hC8 8 (Or.inl (show 8 < 9 + nLe (menA τ y) by omega))).2
          have hle9 : ((upL L 8 (lstN τ 8)) 8).length = i := by rw [upL_s]; exact h68
          have hpi : pl9 ≤ i := by rw [hpl9, ← hH9]; exact harD_le _ _ _
          refine q_vV X ce_Jx4a65c_add_7a177 m_909 (c_insL l G A hAg (gAn g' y (grade (menA τ y) y) 0 (g'.2.2.1 0 y - grade (menA τ y) y)) ad' (menA τ y) (upL L 8 (lstN τ 8)) hC8 hLo8 8 (Or.inl (show 8 < 9 + nLe (menA τ y) by omega)) (7, y) (show y < nAn (menA τ y) by omega) (Nat.le_of_ble_eq_true rfl) (Nat.le_of_ble_eq_true rfl) (by omega) pl9 (by omega) _ _ rfl rfl) (g0.step hS hAg) ⟨F, (fun q hq => hfr q (Nat.le_trans hS.1 hq))⟩ (cw_ls F (k := 8) (Or.inl (show 8 < 9 + nLe (menA τ y) by omega))) rfl (by decide) rfl hl.1 rfl (Nat.le_of_ble_eq_true rfl) dX9_gradeAllAnew_66 (by show _ ≤ 100; omega) (by show _ ≤ 1200; omega) hS (fun _ h => h) (fun H locs F hz hk9 hS => ?_)
          obtain ⟨q9, F⟩ := F
          have F : cwL G (gls (gAn g' y (grade (menA τ y) y) 0 (g'.2.2.1 0 y - grade (menA τ y) y)) 8 (ncap (lstN τ 8).length (g'.1 8)) ((gAn g' y (grade (menA τ y) y) 0 (g'.2.2.1 0 y - grade (menA τ y) y)).2.1 8 + 1)) A (iup ad' (2, 8) q9) (menA τ y) (upL (upL L 8 (lstN τ 8)) 8 ((lstN τ 8).insertIdx pl9 (7, y))) H := by have h9 := F; rw [upL_s] at h9; exact h9
          rw [hpl9] at F
          have W1 := ga_step W0 hI0 hy1 hyM hyg (by omega) F
          refine lv_iinc (v := nI (i + 1)) (lv' := [(3, .int (nI (i + 1))), (2, .int (nI (((menF σ ((anL σ ex).take i)).1) + 1))), (4, .ref (ad' (7, y))), (0, .ref (ad' (0, 0))), (1, .ref (ad' (6, ex)))]) X.ex X.co dX9_gradeAllAnew_69 hl (k := 2) rfl (n_inc _) (by decide) rfl (fun ls hl => ?_)
          refine lv_goto (tgt := 11) X.ex X.co dX9_gradeAllAnew_72 (by decide) ?_
          rw [w8 (0, 0) (show (0 : Nat) ≠ 2 by decide), w8 (6, ex) (show (6 : Nat) ≠ 2 by decide)] at hl
          rw [← take_s hy] at W1
          have hc9 : (menF σ ((anL σ ex).take (i + 1))).1 = (menF σ ((anL σ ex).take i)).1 + 1 := by rw [menF_s hy]; show (menF σ ((anL σ ex).take i)).1 + (decide (¬ grade (menA (menF σ ((anL σ ex).take i)).2 y) y = (menA (menF σ ((anL σ ex).take i)).2 y).2 31 y)).toNat = _; rw [← w1, show decide (¬ grade (menA τ y) y = (menA τ y).2 31 y) = true from decide_eq_true (fun z => c_7 (hfz.mpr z))]; rfl
          rw [← hc9] at hl
          exact ih_3 (i + 1) (by omega) (by omega) _ _ _ _ _ _ _ W1 (by omega) (by rw [gls_1]; have h9 := addS_nc (n := (lstN τ 8).length) (q := g'.1 8); have h8 : addS ((upL L 8 (lstN τ 8)) 8).length ((gAn g' y (grade (menA τ y) y) 0 (g'.2.2.1 0 y - grade (menA τ y) y)).1 8) = addS (lstN τ 8).length (g'.1 8) := (by rw [upL_s]; rfl); omega) hS ls (lv_sub hl [0, 1, 3, 4] rfl)
  exact loop_2 ((anL σ ex).length + 1) 0 (by omega) (by omega) _ _ _ _ _ _ _ W (by omega) (by omega) hS ls (lv_sub hl [0, 1, 2, 3] rfl)
