theorem ce_X0_meetMend : ceV yX0_meetMend cX0_meetMend 2 ((Option.none : Option FieldType)) 0 := ⟨m_901, m_902, m_30, m_903, ⟨by decide, by decide, by decide +kernel⟩, by decide⟩
theorem ce_X9_placeAmongHarmed : ceV yX9_placeAmongHarmed cX9_placeAmongHarmed 3 ((Option.some FieldType.int)) 1 := ⟨m_907, mp_19, m_1, m_908, ⟨by decide, by decide, by decide +kernel⟩, by decide⟩
theorem ce_X9_gradeAllAnew : ceV yX9_gradeAllAnew cX9_gradeAllAnew 5 ((Option.some FieldType.int)) 1 := ⟨m_894, mp_18, m_1, m_895, ⟨by decide, by decide, by decide +kernel⟩, by decide⟩
set_option maxHeartbeats 4000000 in
set_option maxRecDepth 100000 in
theorem c_X0_meetMend (l : Launch) (G : GT) (A : Nat → Prop) (hAg : ∀ q, A q → gA G q) (g : CG) (ad : I2 → Nat) (σ : Sg) (hI0 : MI0 σ) (L : Nat → List I2) (j : Nat) (hj : j < nAn σ) : cM l yX0_meetMend cX0_meetMend 2 ((Option.none : Option FieldType)) 3 0 0 G [.ref (ad (7, j))] (fun H => cwL G g A ad σ L H) (eB none (cwL G (gAn g j (grade (menA σ j) j) 0 (g.2.2.1 0 j - grade (menA σ j) j)) A ad (menA σ j) L)) A := by
  refine mk_m (by decide) (Nat.le_of_ble_eq_true rfl) ?_
  intro p e s m args below meth c X ls hl g0 F hnm
  have hK := g0.1
  have hS : va_S A s.heap s.heap [] := va_S.rf
  obtain ⟨b1, b2, b3, b4, b5, b6, b7⟩ := hI0.1
  have hl : lv_has ls 2 [(0, .ref (ad (7, j)))] := hl
  show Wc p l e 3 0 0 s m args below meth c (eB none (cwL G (gAn g j (grade (menA σ j) j) 0 (g.2.2.1 0 j - grade (menA σ j) j)) A ad (menA σ j) L)) A s.heap [] 0 0 0 ls []
  refine lv_aload_n X.ex X.co dX0_meetMend_0 rfl (lv_at hl 0 rfl) ?_
  refine lv_iconst (v := 0) X.ex X.co dX0_meetMend_1 (by decide) ?_
  refine f_put X hK F hS (show (cLv g σ) (7, j) from (show j < nAn σ by omega)) rfl (ci := 5) (fs := [.int (nI j), .ref (ad (4, stu σ j)), .ref (ad (6, exe σ j)), .ref (ad (12, j)), .int (σ.2 24 j), .int (g.2.2.1 0 j), .int (σ.2 25 j), .int (g.2.2.1 1 j), .int (σ.2 26 j), .int (g.2.2.1 2 j)]) rfl okX0 rfl 7 (by decide) m_730 (fun _ h => h) rfl (v := .int 0) rfl rfl rfl (Nat.le_of_ble_eq_true rfl) dX0_meetMend_2 (fun H locs F hS => ?_)
  have F : fw G.1 (cLv g σ) ad (iup (cEnL G g ad σ L) (7, j) (.inr (5, [.int (nI j), .ref (ad (4, stu σ j)), .ref (ad (6, exe σ j)), .ref (ad (12, j)), .int (σ.2 24 j), .int (g.2.2.1 0 j), .int (σ.2 25 j), .int 0, .int (σ.2 26 j), .int (g.2.2.1 2 j)]))) A H := F
  refine lv_aload_n X.ex X.co dX0_meetMend_5 rfl (lv_at hl 0 rfl) ?_
  refine lv_iconst (v := 0) X.ex X.co dX0_meetMend_6 (by decide) ?_
  refine f_put X hK F hS (show (cLv g σ) (7, j) from (show j < nAn σ by omega)) rfl (ci := 5) (fs := [.int (nI j), .ref (ad (4, stu σ j)), .ref (ad (6, exe σ j)), .ref (ad (12, j)), .int (σ.2 24 j), .int (g.2.2.1 0 j), .int (σ.2 25 j), .int 0, .int (σ.2 26 j), .int (g.2.2.1 2 j)]) (iup_s _ _ _) okX0 rfl 8 (by decide) m_732 (fun _ h => h) rfl (v := .int 0) rfl rfl rfl (Nat.le_of_ble_eq_true rfl) dX0_meetMend_7 (fun H locs F hS => ?_)
  rw [iup_iup] at F
  have F : fw G.1 (cLv g σ) ad (iup (cEnL G g ad σ L) (7, j) (.inr (5, [.int (nI j), .ref (ad (4, stu σ j)), .ref (ad (6, exe σ j)), .ref (ad (12, j)), .int (σ.2 24 j), .int (g.2.2.1 0 j), .int (σ.2 25 j), .int 0, .int 0, .int (g.2.2.1 2 j)]))) A H := F
  refine lv_aload_n X.ex X.co dX0_meetMend_10 rfl (lv_at hl 0 rfl) ?_
  refine lv_iconst (v := 0) X.ex X.co dX0_meetMend_11 (by decide) ?_
  refine f_put X hK F hS (show (cLv g σ) (7, j) from (show j < nAn σ by omega)) rfl (ci := 5) (fs := [.int (nI j), .ref (ad (4, stu σ j)), .ref (ad (6, exe σ j)), .ref (ad (12, j)), .int (σ.2 24 j), .int (g.2.2.1 0 j), .int (σ.2 25 j), .int 0, .int 0, .int (g.2.2.1 2 j)]) (iup_s _ _ _) okX0 rfl 6 (by decide) m_728 (fun _ h => h) rfl (v := .int 0) rfl rfl rfl (Nat.le_of_ble_eq_true rfl) dX0_meetMend_12 (fun H locs F hS => ?_)
  rw [iup_iup] at F
  have F : fw G.1 (cLv g σ) ad (iup (cEnL G g ad σ L) (7, j) (.inr (5, [.int (nI j), .ref (ad (4, stu σ j)), .ref (ad (6, exe σ j)), .ref (ad (12, j)), .int (σ.2 24 j), .int (g.2.2.1 0 j), .int 0, .int 0, .int 0, .int (g.2.2.1 2 j)]))) A H := F
  refine lv_aload_n X.ex X.co dX0_meetMend_15 rfl (lv_at hl 0 rfl) ?_
  refine f_get X hK (fw.get F (show (cLv g σ) (7, j) from (show j < nAn σ by omega)) rfl (iup_s _ _ _)) okX0 rfl 5 (by decide) m_725 (fun _ h => h) (v := .int (g.2.2.1 0 j)) rfl dX0_meetMend_16 ?_
  refine lv_istore_n (lv' := [(1, .int (g.2.2.1 0 j)), (0, .ref (ad (7, j)))]) X.ex X.co dX0_meetMend_19 rfl hl (by decide) rfl (fun ls hl => ?_)
  refine lv_aload_n X.ex X.co dX0_meetMend_20 rfl (lv_at hl 1 rfl) ?_
  refine lv_aload_n X.ex X.co dX0_meetMend_21 rfl (lv_at hl 1 rfl) ?_
  have han9 := hI0.an hj; have hf9 := hI0.ex han9.2.1; have hg9 := allS_b hI0 (e := exe σ j) han9.2.1 _ (Nat.le_refl _)
  refine q_rV X ce_X0_gradeByRule m_904 (c_X0_gradeByRule l G ad σ (ad (7, j)) (ad (12, j)) (exe σ j) (σ.2 22 j) (σ.2 23 j) 0 (by omega) (by omega)) (g0.step hS hAg) ⟨⟨(fw.get F (show (cLv g σ) (6, exe σ j) from (show exe σ j < nEx σ by omega)) rfl ((iup_n _ _ (kne (by decide))).trans rfl)), (fw.get F (show (cLv g σ) (11, exe σ j) from (show exe σ j < nEx σ by omega)) rfl ((iup_n _ _ (kne (by decide))).trans rfl)), (fw.get F (show (cLv g σ) (13, exe σ j) from (show exe σ j < nEx σ by omega)) rfl ((iup_n _ _ (kne (by decide))).trans rfl)), (fw.get F (show (cLv g σ) (14, exe σ j) from (show exe σ j < nEx σ by omega)) rfl ((iup_n _ _ (kne (by decide))).trans rfl))⟩, (fw.get F (show (cLv g σ) (7, j) from (show j < nAn σ by omega)) rfl (iup_s _ _ _)), (fw.get F (show (cLv g σ) (12, j) from (show j < nAn σ by omega)) rfl ((iup_n _ _ (kne (by decide))).trans rfl))⟩ (fw.get F (show (cLv g σ) (7, j) from (show j < nAn σ by omega)) rfl (iup_s _ _ _)) rfl (by decide) rfl hl.1 rfl (Nat.le_of_ble_eq_true rfl) dX0_meetMend_22 (by omega) (by omega) ?_
  refine top_eq (y := (grade (menA σ j) j)) (dec_gr hI0 hj 0 0) ?_
  refine f_put X hK F hS (show (cLv g σ) (7, j) from (show j < nAn σ by omega)) rfl (ci := 5) (fs := [.int (nI j), .ref (ad (4, stu σ j)), .ref (ad (6, exe σ j)), .ref (ad (12, j)), .int (σ.2 24 j), .int (g.2.2.1 0 j), .int 0, .int 0, .int 0, .int (g.2.2.1 2 j)]) (iup_s _ _ _) okX0 rfl 5 (by decide) m_725 (fun _ h => h) rfl (v := .int (grade (menA σ j) j)) rfl rfl rfl (Nat.le_of_ble_eq_true rfl) dX0_meetMend_25 (fun H locs F hS => ?_)
  rw [iup_iup] at F
  have F : fw G.1 (cLv g σ) ad (iup (cEnL G g ad σ L) (7, j) (.inr (5, [.int (nI j), .ref (ad (4, stu σ j)), .ref (ad (6, exe σ j)), .ref (ad (12, j)), .int (σ.2 24 j), .int (grade (menA σ j) j), .int 0, .int 0, .int 0, .int (g.2.2.1 2 j)]))) A H := F
  refine lv_aload_n X.ex X.co dX0_meetMend_28 rfl (lv_at hl 1 rfl) ?_
  refine lv_iload_n X.ex X.co dX0_meetMend_29 rfl (lv_at hl 0 rfl) ?_
  refine lv_aload_n X.ex X.co dX0_meetMend_30 rfl (lv_at hl 1 rfl) ?_
  refine f_get X hK (fw.get F (show (cLv g σ) (7, j) from (show j < nAn σ by omega)) rfl (iup_s _ _ _)) okX0 rfl 5 (by decide) m_725 (fun _ h => h) (v := .int (grade (menA σ j) j)) rfl dX0_meetMend_31 ?_
  refine lv_isub X.ex X.co dX0_meetMend_34 ?_
  refine f_put X hK F hS (show (cLv g σ) (7, j) from (show j < nAn σ by omega)) rfl (ci := 5) (fs := [.int (nI j), .ref (ad (4, stu σ j)), .ref (ad (6, exe σ j)), .ref (ad (12, j)), .int (σ.2 24 j), .int (grade (menA σ j) j), .int 0, .int 0, .int 0, .int (g.2.2.1 2 j)]) (iup_s _ _ _) okX0 rfl 9 (by decide) m_734 (fun _ h => h) rfl (v := .int ((g.2.2.1 0 j) - (grade (menA σ j) j))) rfl rfl rfl (Nat.le_of_ble_eq_true rfl) dX0_meetMend_35 (fun H locs F hS => ?_)
  rw [iup_iup] at F
  have F : fw G.1 (cLv g σ) ad (iup (cEnL G g ad σ L) (7, j) (.inr (5, [.int (nI j), .ref (ad (4, stu σ j)), .ref (ad (6, exe σ j)), .ref (ad (12, j)), .int (σ.2 24 j), .int (grade (menA σ j) j), .int 0, .int 0, .int 0, .int ((g.2.2.1 0 j) - (grade (menA σ j) j))]))) A H := F
  exact c_v X hS rfl ⟨rfl, cwL_sg (sameC_dec σ j 0 0) (upA F)⟩ (by omega) (by omega) dX0_meetMend_38
set_option maxHeartbeats 4000000 in
set_option maxRecDepth 100000 in
theorem c_X9_placeAmongHarmed (l : Launch) (G : GT) (A : Nat → Prop) (g : CG) (ad : I2 → Nat) (σ : Sg) (hI0 : MI0 σ) (L : Nat → List I2) (hC : CLL g σ L) (h8 : L 8 = lstN σ 8) (hn : nHa σ ≤ 100) (hh : ∀ j, j < nHa σ → har σ j < nAn σ) (c9 : Int32) : rM l yX9_placeAmongHarmed cX9_placeAmongHarmed 3 ((Option.some FieldType.int)) 3 G [.ref (ad (0, 0)), .int c9] (fun H => cwL G g A ad σ L H) (some (.int (nI (plc (fun j => g.2.2.1 2 (har σ j)) c9 (nHa σ))))) := by
  refine mk_m (by decide) (Nat.le_of_ble_eq_true rfl) ?_
  intro p e s m args below meth c X ls hl g0 F hnm
  have hK := g0.1
  obtain ⟨b1, b2, b3, b4, b5, b6, b7⟩ := hI0.1
  have hl : lv_has ls 3 [(0, .ref (ad (0, 0))), (1, .int c9)] := hl
  show Wr p l e 3 s m args below meth c (some (.int (nI (plc (fun j => g.2.2.1 2 (har σ j)) c9 (nHa σ))))) 0 ls []
  refine lv_aload_n X.ex X.co dX9_placeAmongHarmed_0 rfl (lv_at hl 0 rfl) ?_
  refine f_get X hK (cw_be F) okX9 rfl 8 (by decide) m_114 (fun _ h => h) (v := .ref (ad (1, 8))) rfl dX9_placeAmongHarmed_1 ?_
  refine q_rV X ce_Jx4a65c_size_8abf5 m_144 (c_Jx4a65c_size_8abf5 l G (ad (1, 8)) (g.2.1 (8)) (lrow G g ad (8)) (nHa σ)) g0 (cw_lsn F (k := 8) (n := nHa σ) (Or.inl (show 8 < 9 + nLe σ by omega)) (by rw [h8]; exact rng_len)) (cw_lsn F (k := 8) (n := nHa σ) (Or.inl (show 8 < 9 + nLe σ by omega)) (by rw [h8]; exact rng_len)) rfl (by decide) rfl hl.1 rfl (Nat.le_of_ble_eq_true rfl) dX9_placeAmongHarmed_4 (by omega) (by omega) ?_
  refine lv_istore_n (lv' := [(2, .int (nI (nHa σ))), (0, .ref (ad (0, 0))), (1, .int c9)]) X.ex X.co dX9_placeAmongHarmed_7 rfl hl (by decide) rfl (fun ls hl => ?_)
  have loop_2 : ∀ (fu_1 u : Nat), u ≤ nHa σ ∧ plc (fun j => g.2.2.1 2 (har σ j)) c9 (nHa σ) = plc (fun j => g.2.2.1 2 (har σ j)) c9 (nHa σ - u) → nHa σ < u + fu_1 → ∀ ls : Array Slot, lv_has ls 3 [(2, .int (nI (nHa σ - u))), (0, .ref (ad (0, 0))), (1, .int c9)] → Wr p l e 3 s m args below meth c (some (.int (nI (plc (fun j => g.2.2.1 2 (har σ j)) c9 (nHa σ))))) 8 ls [] := by
    intro fu_1
    induction fu_1 with
    | zero => intro u h_4 h_5; exact absurd h_5 (by omega)
    | succ fu_1 ih_3 =>
      intro u h_4 h_5 ls hl
      refine lv_iload_n X.ex X.co dX9_placeAmongHarmed_8 rfl (lv_at hl 0 rfl) ?_
      refine n_if_le X (x := nHa σ - u) (tgt := 38) (by omega) dX9_placeAmongHarmed_9 (by decide) (fun c_6 => ?_) (fun c_6 => ?_)
      · refine lv_iload_n X.ex X.co dX9_placeAmongHarmed_38 rfl (lv_at hl 0 rfl) ?_
        exact r_i X rfl rfl (by rw [h_4.2, plc_z c_6]) dX9_placeAmongHarmed_39
      · refine lv_aload_n X.ex X.co dX9_placeAmongHarmed_12 rfl (lv_at hl 1 rfl) ?_
        refine f_get X hK (cw_be F) okX9 rfl 8 (by decide) m_114 (fun _ h => h) (v := .ref (ad (1, 8))) rfl dX9_placeAmongHarmed_13 ?_
        refine lv_iload_n X.ex X.co dX9_placeAmongHarmed_16 rfl (lv_at hl 0 rfl) ?_
        refine lv_iconst (v := 1) X.ex X.co dX9_placeAmongHarmed_17 (by decide) ?_
        refine n_sub X (x := nHa σ - u) (y := 1) (by omega) dX9_placeAmongHarmed_18 ?_
        refine q_rV X ce_Jx4a65c_get_915e3 m_164 (c_getR l G (ad (1, 8)) (g.2.1 8) (lrow G g ad 8) (nHa σ) (g.1 8) (cont (L 8) ad) ((nHa σ - u) - 1) (by omega) (cl_n hC (Or.inl (show 8 < 9 + nLe σ by omega)) (by rw [h8]; exact rng_len)) (cl_q hC (Or.inl (show 8 < 9 + nLe σ by omega))) (cont_get (j := (7, har σ ((nHa σ - u) - 1))) (by rw [h8]; exact har_get (by omega)))) g0 (cw_get F hC (k := 8) (x := ((nHa σ - u) - 1)) (n := nHa σ) (Or.inl (show 8 < 9 + nLe σ by omega)) (by rw [h8]; exact rng_len) (by omega)) (cw_get F hC (k := 8) (x := ((nHa σ - u) - 1)) (n := nHa σ) (Or.inl (show 8 < 9 + nLe σ by omega)) (by rw [h8]; exact rng_len) (by omega)).1 rfl (by decide) rfl hl.1 rfl (Nat.le_of_ble_eq_true rfl) dX9_placeAmongHarmed_19 (by omega) (by omega) ?_
        have hh9 := hh ((nHa σ - u) - 1) (by omega)
        refine f_castS X hK (cw_an F (i := har σ ((nHa σ - u) - 1)) (by omega)) rfl m_187 dX9_placeAmongHarmed_22 ?_
        refine f_get X hK (cw_an F (i := har σ ((nHa σ - u) - 1)) (by omega)) okX0 rfl 9 (by decide) m_735 (fun _ h => h) (v := .int (g.2.2.1 2 (har σ ((nHa σ - u) - 1)))) rfl dX9_placeAmongHarmed_25 ?_
        refine lv_iload_n X.ex X.co dX9_placeAmongHarmed_28 rfl (lv_at hl 2 rfl) ?_
        refine lv_icmp_ge (tgt := 38) X.ex X.co dX9_placeAmongHarmed_29 (by decide) (fun c_7 => ?_) (fun c_7 => ?_)
        · refine lv_iload_n X.ex X.co dX9_placeAmongHarmed_38 rfl (lv_at hl 0 rfl) ?_
          exact r_i X rfl rfl (by rw [h_4.2, plc_stop c_6 (nlt_of_le c_7)]) dX9_placeAmongHarmed_39
        · refine lv_iinc (v := nI ((nHa σ - u) - 1)) (lv' := [(2, .int (nI ((nHa σ - u) - 1))), (0, .ref (ad (0, 0))), (1, .int c9)]) X.ex X.co dX9_placeAmongHarmed_32 hl (k := 0) rfl (n_dec (by omega)) (by decide) rfl (fun ls hl => ?_)
          refine lv_goto (tgt := 8) X.ex X.co dX9_placeAmongHarmed_35 (by decide) ?_
          have hp9 : plc (fun j => g.2.2.1 2 (har σ j)) c9 (nHa σ - u) = plc (fun j => g.2.2.1 2 (har σ j)) c9 (nHa σ - u - 1) := plc_go c_6 (lt_of_nle c_7)
          rw [show nHa σ - u - 1 = nHa σ - (u + 1) by omega] at hp9 hl
          exact ih_3 (u + 1) ⟨by omega, by rw [← hp9]; exact h_4.2⟩ (by omega) ls (lv_sub hl [0, 1, 2] rfl)
  exact loop_2 (nHa σ + 1) 0 ⟨by omega, rfl⟩ (by omega) ls (lv_sub hl [0, 1, 2] rfl)
