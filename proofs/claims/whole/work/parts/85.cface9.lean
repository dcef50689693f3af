theorem ce_X9_revokeUnearned : ceV yX9_revokeUnearned cX9_revokeUnearned 4 ((Option.none : Option FieldType)) 0 := ⟨m_1122, mp_22, m_1, m_1123, ⟨by decide, by decide, by decide +kernel⟩, by decide⟩
set_option maxHeartbeats 4000000 in
set_option maxRecDepth 100000 in
theorem c_X9_revokeUnearned (l : Launch) (G : GT) (A : Nat → Prop) (hAg : ∀ q, A q → gA G q) (g : CG) (ad : I2 → Nat) (σ : Sg) (hI0 : MI0 σ) (hC : CL g σ) (hgr : ∀ a, a < nAn σ → g.2.2.1 0 a = grade σ a) (h33 : ∀ c, c < nCr σ → ∃ q, q < 2 ^ 31 ∧ σ.2 33 c = nI q) : cM l yX9_revokeUnearned cX9_revokeUnearned 4 ((Option.none : Option FieldType)) 6 0 0 G [.ref (ad (0, 0))] (fun H => cw G g A ad σ H) (eB none (fun H => cw G g A ad (revL σ (nCe σ)) H)) A := by
  refine mk_m (by decide) (Nat.le_of_ble_eq_true rfl) ?_
  intro p e s m args below meth c X ls hl g0 F hnm
  have hK := g0.1
  have hS : va_S A s.heap s.heap [] := va_S.rf
  obtain ⟨b1, b2, b3, b4, b5, b6, b7⟩ := hI0.1
  have hl : lv_has ls 4 [(0, .ref (ad (0, 0)))] := hl
  show Wc p l e 6 0 0 s m args below meth c (eB none (fun H => cw G g A ad (revL σ (nCe σ)) H)) A s.heap [] 0 0 0 ls []
  refine lv_iconst (v := 0) X.ex X.co dX9_revokeUnearned_0 (by decide) ?_
  refine lv_istore_n (lv' := [(1, .int 0), (0, .ref (ad (0, 0)))]) X.ex X.co dX9_revokeUnearned_1 rfl hl (by decide) rfl (fun ls hl => ?_)
  have loop_2 : ∀ (fu_1 i : Nat), i ≤ nCe σ → nCe σ < i + fu_1 → ∀ (H : Heap) (locs : List Loc) (ρ : Sg), ρ = revL σ i → cw G g A ad ρ H → va_S A s.heap H locs → ∀ ls : Array Slot, lv_has ls 4 [(1, .int (nI i)), (0, .ref (ad (0, 0)))] → Wc p l e 6 0 0 s m args below meth c (eB none (fun H => cw G g A ad (revL σ (nCe σ)) H)) A H locs 0 0 2 ls [] := by
    intro fu_1
    induction fu_1 with
    | zero => intro i h_4 h_5; exact absurd h_5 (by omega)
    | succ fu_1 ih_3 =>
      intro i h_4 h_5 H locs ρ hρ F hS ls hl
      have hN : eqN ρ σ := by rw [hρ]; exact revL_N σ i
      have h1 : ρ.1 = σ.1 := by rw [hρ]; exact revL_1 σ i
      have hnc : nCe ρ = nCe σ := congrFun (congrFun h1 35) 0
      have hnr : nCr ρ = nCr σ := congrFun (congrFun h1 32) 0
      have hns : nSt ρ = nSt σ := congrFun (congrFun h1 5) 0
      have hnl : nLe ρ = nLe σ := congrFun (congrFun h1 7) 0
      have hnx : nEx ρ = nEx σ := congrFun (congrFun h1 11) 0
      have hna : nAn ρ = nAn σ := congrFun (congrFun h1 19) 0
      have hI0 : MI0 ρ := hN.mi hI0
      have hC : CL g ρ := by intro k hk; rw [lstN_1 h1]; exact hC k ((lsB_N hN).mp hk)
      have hgr : ∀ a, a < nAn ρ → g.2.2.1 0 a = grade ρ a := fun a ha => by rw [hρ, gr_revL]; exact hgr a (by omega)
      refine lv_iload_n X.ex X.co dX9_revokeUnearned_2 rfl (lv_at hl 0 rfl) ?_
      refine lv_aload_n X.ex X.co dX9_revokeUnearned_3 rfl (lv_at hl 1 rfl) ?_
      refine f_get X hK (cw_be F) okX9 rfl 6 (by decide) m_112 (fun _ h => h) (v := .ref (ad (1, 6))) rfl dX9_revokeUnearned_4 ?_
      refine q_rV X ce_Jx4a65c_size_8abf5 m_144 (c_Jx4a65c_size_8abf5 l G (ad (1, 6)) (g.2.1 (6)) (lrow G g ad (6)) (nCe ρ)) (g0.step hS hAg) (cw_lsn F (k := 6) (n := nCe ρ) (Or.inl (by omega)) rng_len) (cw_lsn F (k := 6) (n := nCe ρ) (Or.inl (by omega)) rng_len) rfl (by decide) rfl hl.1 rfl (Nat.le_of_ble_eq_true rfl) dX9_revokeUnearned_7 (by omega) (by omega) ?_
      refine n_cmp_ge X (x := i) (y := nCe ρ) (tgt := 64) (by omega) (by omega) dX9_revokeUnearned_10 (by decide) (fun c_6 => ?_) (fun c_6 => ?_)
      · exact c_v X hS rfl ⟨rfl, by rw [show nCe σ = i by omega, ← hρ]; exact F⟩ (by omega) (by omega) dX9_revokeUnearned_64
      · refine lv_aload_n X.ex X.co dX9_revokeUnearned_13 rfl (lv_at hl 1 rfl) ?_
        refine f_get X hK (cw_be F) okX9 rfl 6 (by decide) m_112 (fun _ h => h) (v := .ref (ad (1, 6))) rfl dX9_revokeUnearned_14 ?_
        refine lv_iload_n X.ex X.co dX9_revokeUnearned_17 rfl (lv_at hl 0 rfl) ?_
        refine q_rV X ce_Jx4a65c_get_915e3 m_164 (c_getR l G (ad (1, 6)) (g.2.1 (6)) (lrow G g ad (6)) (nCe ρ) (g.1 (6)) (cont (lstN ρ (6)) ad) i (by omega) (cl_n hC (Or.inl (by omega)) rng_len) (cl_q hC (Or.inl (by omega))) (cont_get (j := (9, i)) (rng_get (k := 9) (show i < nCe ρ by omega)))) (g0.step hS hAg) (cw_get F hC (k := 6) (x := i) (n := nCe ρ) (Or.inl (by omega)) rng_len (by omega)) (cw_get F hC (k := 6) (x := i) (n := nCe ρ) (Or.inl (by omega)) rng_len (by omega)).1 rfl (by decide) rfl hl.1 rfl (Nat.le_of_ble_eq_true rfl) dX9_revokeUnearned_18 (by omega) (by omega) ?_
        refine f_castS X hK (cw_ce F (i := i) (show i < nCe ρ by omega)) rfl m_178 dX9_revokeUnearned_21 ?_
        refine lv_astore_n (lv' := [(2, .ref (ad (9, i))), (1, .int (nI i)), (0, .ref (ad (0, 0)))]) X.ex X.co dX9_revokeUnearned_24 rfl hl (by decide) rfl (fun ls hl => ?_)
        refine lv_aload_n X.ex X.co dX9_revokeUnearned_25 rfl (lv_at hl 0 rfl) ?_
        refine f_get X hK (cw_ce F (i := i) (show i < nCe ρ by omega)) okX1 rfl 2 (by decide) m_1184 (fun _ h => h) (v := .ref (ad (8, cou ρ i))) rfl dX9_revokeUnearned_26 ?_
        have hf_f_7 := hI0.ce (i := i) (by omega)
        refine lv_astore_n (lv' := [(3, .ref (ad (8, cou ρ i))), (2, .ref (ad (9, i))), (1, .int (nI i)), (0, .ref (ad (0, 0)))]) X.ex X.co dX9_revokeUnearned_29 rfl hl (by decide) rfl (fun ls hl => ?_)
        refine lv_aload_n X.ex X.co dX9_revokeUnearned_30 rfl (lv_at hl 3 rfl) ?_
        refine lv_aload_n X.ex X.co dX9_revokeUnearned_31 rfl (lv_at hl 1 rfl) ?_
        refine f_get X hK (cw_ce F (i := i) (show i < nCe ρ by omega)) okX1 rfl 1 (by decide) m_1182 (fun _ h => h) (v := .ref (ad (4, hol ρ i))) rfl dX9_revokeUnearned_32 ?_
        have hf_f_8 := hI0.ce (i := i) (by omega)
        refine lv_aload_n X.ex X.co dX9_revokeUnearned_35 rfl (lv_at hl 0 rfl) ?_
        refine f_get X hK (cw_cr F (i := cou ρ i) (show cou ρ i < nCr ρ by omega)) okX3 rfl 0 (by decide) m_1148 (fun _ h => h) (v := .int (ρ.2 33 (cou ρ i))) rfl dX9_revokeUnearned_36 ?_
        refine lv_aload_n X.ex X.co dX9_revokeUnearned_39 rfl (lv_at hl 0 rfl) ?_
        refine f_get X hK (cw_cr F (i := cou ρ i) (show cou ρ i < nCr ρ by omega)) okX3 rfl 1 (by decide) m_1150 (fun _ h => h) (v := .int (ρ.2 34 (cou ρ i))) rfl dX9_revokeUnearned_40 ?_
        refine lv_aload_n X.ex X.co dX9_revokeUnearned_43 rfl (lv_at hl 1 rfl) ?_
        refine f_get X hK (cw_ce F (i := i) (show i < nCe ρ by omega)) okX1 rfl 3 (by decide) m_1186 (fun _ h => h) (v := .ref (ad (10, i))) rfl dX9_revokeUnearned_44 ?_
        refine q_rV X ce_X9_hasMastery m_664 (c_X9_hasMastery l G A g ad ρ hI0 hC hgr (hol ρ i) (ad (10, i)) (eTh ρ i) (aTh ρ i) (ρ.2 33 (cou ρ i)) (ρ.2 34 (cou ρ i)) (ρ.2 38 i) (by omega) (by omega) (by omega)) (g0.step hS hAg) ⟨F, (cw_mo F (i := i) (show i < nCe ρ by omega))⟩ (cw_be F) rfl (by decide) rfl hl.1 rfl (Nat.le_of_ble_eq_true rfl) dX9_revokeUnearned_47 (by omega) (by omega) ?_
        obtain ⟨qn9, hq9, he9⟩ := h33 (cou ρ i) (by omega)
        have he8 : ρ.2 33 (cou ρ i) = nI qn9 := by rw [hρ, revL_V σ (by decide), ← hρ]; exact he9
        have hen9 : hasS ρ (hol ρ i) (ρ.2 33 (cou ρ i)) (ρ.2 34 (cou ρ i)) (ρ.2 38 i) (eTh ρ i) (aTh ρ i) (nLe ρ) = enoS ρ i (nLe ρ) := enough_n (σ := ρ) (c := i) hq9 he8 rfl rfl rfl rfl rfl (nLe ρ) (by omega)
        rw [hen9]
        refine b_if_ne X (x := enoS ρ i (nLe ρ)) (tgt := 58) dX9_revokeUnearned_50 (by decide) (fun c_9 => ?_) (fun c_9 => ?_)
        · refine lv_iinc (v := nI (i + 1)) (lv' := [(1, .int (nI (i + 1))), (3, .ref (ad (8, cou ρ i))), (2, .ref (ad (9, i))), (0, .ref (ad (0, 0)))]) X.ex X.co dX9_revokeUnearned_58 hl (k := 2) rfl (n_inc _) (by decide) rfl (fun ls hl => ?_)
          refine lv_goto (tgt := 2) X.ex X.co dX9_revokeUnearned_61 (by decide) ?_
          have F : cw G g A ad (sV ρ 41 i (bI (!(decide (ρ.2 41 i = 0)) || !(enoS ρ i (nLe ρ))))) H := cwL_eq (fun k hk => rfl) (cwL_S (by rw [c_9]; cases h9 : decide (ρ.2 41 i = 0) <;> simp [bI]) F)
          have hρ2 : sV ρ 41 i (bI (!(decide (ρ.2 41 i = 0)) || !(enoS ρ i (nLe ρ)))) = revL σ (i + 1) := by rw [hρ]; rfl
          exact ih_3 (i + 1) (by omega) (by omega) _ _ _ hρ2 F hS ls (lv_sub hl [0, 3] rfl)
        · refine lv_aload_n X.ex X.co dX9_revokeUnearned_53 rfl (lv_at hl 1 rfl) ?_
          refine lv_iconst (v := 0) X.ex X.co dX9_revokeUnearned_54 (by decide) ?_
          refine f_put X hK F hS (show (cLv g ρ) (9, i) from (show i < nCe ρ by omega)) rfl (ci := 6) (fs := [.int (nI i), .ref (ad (4, hol ρ i)), .ref (ad (8, cou ρ i)), .ref (ad (10, i)), .int (bI (decide (ρ.2 41 i = 0)))]) rfl okX1 rfl 4 (by decide) m_1188 (fun _ h => h) rfl (v := .int 0) rfl rfl rfl (Nat.le_of_ble_eq_true rfl) dX9_revokeUnearned_55 (fun H locs F hS => ?_)
          have F : fw G.1 (cLv g ρ) ad (iup (cEnL G g ad ρ (lstN ρ)) (9, i) (.inr (6, [.int (nI i), .ref (ad (4, hol ρ i)), .ref (ad (8, cou ρ i)), .ref (ad (10, i)), .int 0]))) A H := F
          refine lv_iinc (v := nI (i + 1)) (lv' := [(1, .int (nI (i + 1))), (3, .ref (ad (8, cou ρ i))), (2, .ref (ad (9, i))), (0, .ref (ad (0, 0)))]) X.ex X.co dX9_revokeUnearned_58 hl (k := 2) rfl (n_inc _) (by decide) rfl (fun ls hl => ?_)
          refine lv_goto (tgt := 2) X.ex X.co dX9_revokeUnearned_61 (by decide) ?_
          have F : cw G g A ad (sV ρ 41 i (bI (!(decide (ρ.2 41 i = 0)) || !(enoS ρ i (nLe ρ))))) H := by rw [c_9, show (!(decide (ρ.2 41 i = 0)) || !false) = true by cases decide (ρ.2 41 i = 0) <;> rfl]; exact cwL_eq (fun k hk => rfl) (upS F)
          have hρ2 : sV ρ 41 i (bI (!(decide (ρ.2 41 i = 0)) || !(enoS ρ i (nLe ρ)))) = revL σ (i + 1) := by rw [hρ]; rfl
          exact ih_3 (i + 1) (by omega) (by omega) _ _ _ hρ2 F hS ls (lv_sub hl [0, 3] rfl)
  exact loop_2 (nCe σ + 1) 0 (by omega) (by omega) _ _ _ rfl F hS ls (lv_sub hl [0, 1] rfl)
