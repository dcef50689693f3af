theorem ce_X9_dropSettledAppeals : ceV yX9_dropSettledAppeals cX9_dropSettledAppeals 2 ((Option.none : Option FieldType)) 0 := ⟨m_856, mp_16, m_1, m_857, ⟨by decide, by decide, by decide +kernel⟩, by decide⟩
set_option maxHeartbeats 4000000 in
set_option maxRecDepth 100000 in
theorem c_X9_dropSettledAppeals (l : Launch) (G : GT) (A : Nat → Prop) (hAg : ∀ q, A q → gA G q) (g : CG) (ad : I2 → Nat) (σ : Sg) (hI0 : MI0 σ) (L : Nat → List I2) (hC : CLL g σ L) (hLo : okL g σ L) (wf : I2 → Bool) (hM : ∀ i ∈ L 7, i.1 = 7 ∧ i.2 < nAn σ ∧ g.2.2.1 1 i.2 = bI (wf i)) (hn : (L 7).length ≤ 100) : cM l yX9_dropSettledAppeals cX9_dropSettledAppeals 2 ((Option.none : Option FieldType)) 3 0 0 G [.ref (ad (0, 0))] (fun H => cwL G g A ad σ L H) (eB none (fun H => ∃ x, cwL G (gls g 7 (g.1 7) x) A ad σ (upL L 7 ((L 7).filter wf)) H)) A := by
  refine mk_m (by decide) (Nat.le_of_ble_eq_true rfl) ?_
  intro p e s m args below meth c X ls hl g0 F hnm
  have hK := g0.1
  have hS : va_S A s.heap s.heap [] := va_S.rf
  obtain ⟨b1, b2, b3, b4, b5, b6, b7⟩ := hI0.1
  obtain ⟨n, hn9⟩ : ∃ n, n = (L 7).length := ⟨_, rfl⟩
  have hl : lv_has ls 2 [(0, .ref (ad (0, 0)))] := hl
  show Wc p l e 3 0 0 s m args below meth c (eB none (fun H => ∃ x, cwL G (gls g 7 (g.1 7) x) A ad σ (upL L 7 ((L 7).filter wf)) H)) A s.heap [] 0 0 0 ls []
  refine lv_aload_n X.ex X.co dX9_dropSettledAppeals_0 rfl (lv_at hl 0 rfl) ?_
  refine f_get X hK (cw_be F) okX9 rfl 7 (by decide) m_113 (fun _ h => h) (v := .ref (ad (1, 7))) rfl dX9_dropSettledAppeals_1 ?_
  refine q_rV X ce_Jx4a65c_size_8abf5 m_144 (c_Jx4a65c_size_8abf5 l G (ad (1, 7)) (g.2.1 (7)) (lrow G g ad (7)) (n)) (g0.step hS hAg) (cw_lsn F (k := 7) (n := n) (Or.inl (show 7 < 9 + nLe σ by omega)) hn9.symm) (cw_lsn F (k := 7) (n := n) (Or.inl (show 7 < 9 + nLe σ by omega)) hn9.symm) rfl (by decide) rfl hl.1 rfl (Nat.le_of_ble_eq_true rfl) dX9_dropSettledAppeals_4 (by omega) (by omega) ?_
  refine lv_iconst (v := 1) X.ex X.co dX9_dropSettledAppeals_7 (by decide) ?_
  refine lv_isub X.ex X.co dX9_dropSettledAppeals_8 ?_
  refine lv_istore_n (lv' := [(1, .int (nI n - 1)), (0, .ref (ad (0, 0)))]) X.ex X.co dX9_dropSettledAppeals_9 rfl hl (by decide) rfl (fun ls hl => ?_)
  have loop_2 : ∀ (fu_1 u : Nat), u ≤ n → n < u + fu_1 → ∀ (H : Heap) (locs : List Loc) (x : Int32), cwL G (gls g 7 (g.1 7) x) A ad σ (upL L 7 (dpL (L 7) wf (n - u))) H → va_S A s.heap H locs → ∀ ls : Array Slot, lv_has ls 2 [(1, .int (nI (n - u) - 1)), (0, .ref (ad (0, 0)))] → Wc p l e 3 0 0 s m args below meth c (eB none (fun H => ∃ x, cwL G (gls g 7 (g.1 7) x) A ad σ (upL L 7 ((L 7).filter wf)) H)) A H locs 0 0 10 ls [] := by
    intro fu_1
    induction fu_1 with
    | zero => intro u h_4 h_5; exact absurd h_5 (by omega)
    | succ fu_1 ih_3 =>
      intro u h_4 h_5 H locs x F hS ls hl
      refine lv_iload_n X.ex X.co dX9_dropSettledAppeals_10 rfl (lv_at hl 0 rfl) ?_
      rcases Nat.eq_zero_or_pos (n - u) with hz | hz
      · refine top_eq (y := -1) (by rw [hz]; rfl) ?_
        refine lv_if_lt (tgt := 46) X.ex X.co dX9_dropSettledAppeals_11 (by decide) (fun c_6 => ?_) (fun c_6 => ?_)
        · exact c_v X hS rfl ⟨rfl, x, by have h9 := F; rw [hz, dpL_0] at h9; exact h9⟩ (by omega) (by omega) dX9_dropSettledAppeals_46
        · exact absurd (by decide) c_6
      · obtain ⟨t, ht⟩ : ∃ t, n - u = t + 1 := ⟨n - u - 1, by omega⟩
        have hti : nI (n - u) - 1 = nI t := by rw [ht]; exact pk_sub (a := t + 1) (b := 1) (by omega)
        rw [hti] at hl
        refine top_eq (y := nI t) hti ?_
        rw [ht] at F
        obtain ⟨i, hi⟩ : ∃ i, (L 7)[t]? = some i := ⟨_, List.getElem?_eq_getElem (by omega)⟩
        obtain ⟨k, a⟩ := i
        obtain ⟨hk, ha, hw⟩ := hM (k, a) (List.mem_of_getElem? hi)
        have hk : k = 7 := hk
        subst hk
        have ha : a < nAn σ := ha
        have hw : g.2.2.1 1 a = bI (wf (7, a)) := hw
        have hg9 : ((upL L 7 (dpL (L 7) wf (t + 1))) 7)[t]? = some (7, a) := by rw [upL_s]; exact dpL_get hi
        have hlt9 := lt_get hg9
        have hC9 : CLL (gls g 7 (g.1 7) x) σ (upL L 7 (dpL (L 7) wf (t + 1))) := CLL_up hC ⟨Nat.le_trans (dpL_l _ _ _) (hC 7 (Or.inl (show 7 < 9 + nLe σ by omega))).1, (hC 7 (Or.inl (show 7 < 9 + nLe σ by omega))).2⟩
        have hLo9 : okL (gls g 7 (g.1 7) x) σ (upL L 7 (dpL (L 7) wf (t + 1))) := okL_up hLo (fun i hi => hLo 7 (Or.inl (show 7 < 9 + nLe σ by omega)) i (dpL_b _ _ _ i hi))
        refine n_if_lt X (x := t) (tgt := 46) (by omega) dX9_dropSettledAppeals_11 (by decide) (fun c_7 => ?_) (fun c_7 => ?_)
        · exact c_7.elim
        · refine lv_aload_n X.ex X.co dX9_dropSettledAppeals_14 rfl (lv_at hl 1 rfl) ?_
          refine f_get X hK (cw_be F) okX9 rfl 7 (by decide) m_113 (fun _ h => h) (v := .ref (ad (1, 7))) rfl dX9_dropSettledAppeals_15 ?_
          refine lv_iload_n X.ex X.co dX9_dropSettledAppeals_18 rfl (lv_at hl 0 rfl) ?_
          refine q_rV X ce_Jx4a65c_get_915e3 m_164 (c_getR l G (ad (1, 7)) ((gls g 7 (g.1 7) x).2.1 7) (lrow G (gls g 7 (g.1 7) x) ad 7) ((upL L 7 (dpL (L 7) wf (t + 1))) 7).length ((gls g 7 (g.1 7) x).1 7) (cont ((upL L 7 (dpL (L 7) wf (t + 1))) 7) ad) t hlt9 (cl_n hC9 (Or.inl (show 7 < 9 + nLe σ by omega)) rfl) (cl_q hC9 (Or.inl (show 7 < 9 + nLe σ by omega))) (cont_get (j := (7, a)) hg9)) (g0.step hS hAg) (cw_get F hC9 (k := 7) (x := t) (n := ((upL L 7 (dpL (L 7) wf (t + 1))) 7).length) (Or.inl (show 7 < 9 + nLe σ by omega)) rfl hlt9) (cw_get F hC9 (k := 7) (x := t) (n := ((upL L 7 (dpL (L 7) wf (t + 1))) 7).length) (Or.inl (show 7 < 9 + nLe σ by omega)) rfl hlt9).1 rfl (by decide) rfl hl.1 rfl (Nat.le_of_ble_eq_true rfl) dX9_dropSettledAppeals_19 (by omega) (by omega) ?_
          refine f_castS X hK (cw_an F (i := a) (by omega)) rfl m_187 dX9_dropSettledAppeals_22 ?_
          refine f_get X hK (cw_an F (i := a) (by omega)) okX0 rfl 7 (by decide) m_731 (fun _ h => h) (v := .int (bI (wf (7, a)))) (by rw [← hw]; rfl) dX9_dropSettledAppeals_25 ?_
          refine b_if_ne X (x := wf (7, a)) (tgt := 40) dX9_dropSettledAppeals_28 (by decide) (fun c_8 => ?_) (fun c_8 => ?_)
          · refine lv_iinc (v := (nI t + Int32.ofInt (-1))) (lv' := [(1, .int (nI t + Int32.ofInt (-1))), (0, .ref (ad (0, 0)))]) X.ex X.co dX9_dropSettledAppeals_40 hl (k := 0) rfl rfl (by decide) rfl (fun ls hl => ?_)
            refine lv_goto (tgt := 10) X.ex X.co dX9_dropSettledAppeals_43 (by decide) ?_
            have F : cwL G (gls g 7 (g.1 7) x) A ad σ (upL L 7 (dpL (L 7) wf (t))) H := by have h9 := F; rw [dpL_k hi c_8] at h9; exact h9
            rw [show t = n - (u + 1) by omega] at F
            have hq9 : nI (n - (u + 1)) - 1 = nI t + Int32.ofInt (-1) := by rw [show n - (u + 1) = t by omega]; exact Int32.sub_eq_add_neg _ _
            rw [← hq9] at hl
            exact ih_3 (u + 1) (by omega) (by omega) _ _ _ F hS ls (lv_sub hl [0, 1] rfl)
          · refine lv_aload_n X.ex X.co dX9_dropSettledAppeals_31 rfl (lv_at hl 1 rfl) ?_
            refine f_get X hK (cw_be F) okX9 rfl 7 (by decide) m_113 (fun _ h => h) (v := .ref (ad (1, 7))) rfl dX9_dropSettledAppeals_32 ?_
            refine lv_iload_n X.ex X.co dX9_dropSettledAppeals_35 rfl (lv_at hl 0 rfl) ?_
            refine q_eV X ce_Jx4a65c_remove_915e3 m_858 (c_rmL l G A hAg (gls g 7 (g.1 7) x) ad σ (upL L 7 (dpL (L 7) wf (t + 1))) hC9 hLo9 7 (Or.inl (show 7 < 9 + nLe σ by omega)) t (7, a) hg9 _ _ rfl rfl) (g0.step hS hAg) F (cw_ls F (k := 7) (Or.inl (show 7 < 9 + nLe σ by omega))) rfl (by decide) rfl hl.1 rfl (Nat.le_of_ble_eq_true rfl) dX9_dropSettledAppeals_36 (by show _ ≤ 0; omega) (by show _ ≤ 0; omega) hS (fun _ h => h) (fun H locs F hz hk9 hS => ?_)
            have F : cwL G (gls g 7 (g.1 7) ((gls g 7 (g.1 7) x).2.1 7 + 1)) A ad σ (upL L 7 (dpL (L 7) wf (t))) H := by have h9 := F; rw [upL_s, upL_upL, gls_gls, gls_1, dpL_r hi c_8] at h9; exact h9
            refine lv_pop X.ex X.co dX9_dropSettledAppeals_39 rfl ?_
            refine lv_iinc (v := (nI t + Int32.ofInt (-1))) (lv' := [(1, .int (nI t + Int32.ofInt (-1))), (0, .ref (ad (0, 0)))]) X.ex X.co dX9_dropSettledAppeals_40 hl (k := 0) rfl rfl (by decide) rfl (fun ls hl => ?_)
            refine lv_goto (tgt := 10) X.ex X.co dX9_dropSettledAppeals_43 (by decide) ?_
            rw [show t = n - (u + 1) by omega] at F
            have hq9 : nI (n - (u + 1)) - 1 = nI t + Int32.ofInt (-1) := by rw [show n - (u + 1) = t by omega]; exact Int32.sub_eq_add_neg _ _
            rw [← hq9] at hl
            exact ih_3 (u + 1) (by omega) (by omega) _ _ _ F hS ls (lv_sub hl [0, 1] rfl)
  exact loop_2 (n + 1) 0 (by omega) (by omega) _ _ _ (by rw [Nat.sub_zero, dpL_n _ _ (by omega), upL_id, gls_id]; exact F) hS ls (lv_sub hl [0, 1] rfl)
