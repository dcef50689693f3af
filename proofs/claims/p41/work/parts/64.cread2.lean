set_option maxHeartbeats 4000000 in
set_option maxRecDepth 100000 in
theorem c_X4_bestOf (l : Launch) (G : GT) (A : Nat → Prop) (g : CG) (ad : I2 → Nat) (σ : Sg) (hI0 : MI0 σ) (hC : CL g σ) (hgr : ∀ a, a < nAn σ → g.2.2.1 0 a = grade σ a) (st ex mo mE mA : Nat) (dM : Int32) (hst : st < nSt σ) (hx : ex < nEx σ) (hmA : mA ≤ nAn σ) : rM l yX4_bestOf cX4_bestOf 8 ((Option.some (FieldType.object "CourseForge$Answer"))) 3 G [.ref (ad (6, ex)), .ref (ad (4, st)), .ref mo] (fun H => cw G g A ad σ H ∧ va_at G.1 vwCl (mo, eMo dM mE mA) H) (some (va_rf ((bestS σ st ex dM mA).map (fun b => ad (7, b))))) := by
  refine mk_m (by decide) (Nat.le_of_ble_eq_true rfl) ?_
  intro p e s m args below meth c X ls hl g0 F hnm
  have hK := g0.1
  obtain ⟨F, hmo⟩ := F
  obtain ⟨b1, b2, b3, b4, b5, b6, b7⟩ := hI0.1
  have hLn := anL_len σ ex
  have hl : lv_has ls 8 [(0, .ref (ad (6, ex))), (1, .ref (ad (4, st))), (2, .ref mo)] := hl
  show Wr p l e 3 s m args below meth c (some (va_rf ((bestS σ st ex dM mA).map (fun b => ad (7, b))))) 0 ls []
  refine lv_null X.ex X.co dX4_bestOf_0 ?_
  refine lv_astore_nN (lv' := [(3, .null), (0, .ref (ad (6, ex))), (1, .ref (ad (4, st))), (2, .ref mo)]) X.ex X.co dX4_bestOf_1 rfl hl (by decide) rfl (fun ls hl => ?_)
  refine lv_iconst (v := (-1)) X.ex X.co dX4_bestOf_2 (by decide) ?_
  refine lv_istore (lv' := [(4, .int (-1)), (3, .null), (0, .ref (ad (6, ex))), (1, .ref (ad (4, st))), (2, .ref mo)]) X.ex X.co dX4_bestOf_3 hl (by decide) rfl (fun ls hl => ?_)
  refine lv_iconst (v := 0) X.ex X.co dX4_bestOf_5 (by decide) ?_
  refine lv_istore (lv' := [(5, .int 0), (4, .int (-1)), (3, .null), (0, .ref (ad (6, ex))), (1, .ref (ad (4, st))), (2, .ref mo)]) X.ex X.co dX4_bestOf_6 hl (by decide) rfl (fun ls hl => ?_)
  have loop_2 : ∀ (fu_1 i : Nat), i ≤ (anL σ ex).length → (anL σ ex).length < i + fu_1 → ∀ ls : Array Slot, lv_has ls 8 [(5, .int (nI i)), (4, .int (oM σ dM (bestL σ st dM mA ((anL σ ex).take i)))), (3, va_rf ((bestL σ st dM mA ((anL σ ex).take i)).map (fun b => ad (7, b)))), (0, .ref (ad (6, ex))), (1, .ref (ad (4, st))), (2, .ref mo)] → Wr p l e 3 s m args below meth c (some (va_rf ((bestS σ st ex dM mA).map (fun b => ad (7, b))))) 8 ls [] := by
    intro fu_1
    induction fu_1 with
    | zero => intro i h_4 h_5; exact absurd h_5 (by omega)
    | succ fu_1 ih_3 =>
      intro i h_4 h_5 ls hl
      refine lv_iload X.ex X.co dX4_bestOf_8 (lv_at hl 0 rfl) ?_
      refine lv_aload_n X.ex X.co dX4_bestOf_10 rfl (lv_at hl 3 rfl) ?_
      refine f_get X hK (cw_ex F (i := ex) (by omega)) okX4 rfl 5 (by decide) m_590 (fun _ h => h) (v := .ref (ad (1, 17 + ex))) rfl dX4_bestOf_11 ?_
      refine q_rV X ce_Jx4a65c_size_8abf5 m_243 (c_Jx4a65c_size_8abf5 l G (ad (1, 17 + ex)) (g.2.1 (17 + ex)) (lrow G g ad (17 + ex)) ((anL σ ex).length)) g0 (cw_lsn F (k := 17 + ex) (n := (anL σ ex).length) (Or.inr ⟨by omega, by omega⟩) anL_n) (cw_lsn F (k := 17 + ex) (n := (anL σ ex).length) (Or.inr ⟨by omega, by omega⟩) anL_n) rfl (by decide) rfl hl.1 rfl (Nat.le_of_ble_eq_true rfl) dX4_bestOf_14 (by omega) (by omega) ?_
      refine n_cmp_ge X (x := i) (y := (anL σ ex).length) (tgt := 91) (by omega) (by omega) dX4_bestOf_17 (by decide) (fun c_6 => ?_) (fun c_6 => ?_)
      · have hq_7 : i = (anL σ ex).length := by omega
        rw [hq_7, List.take_length, bestL_S hmA] at hl
        rcases hb_8 : bestS σ st ex dM mA with _ | b_9
        · rw [hb_8] at hl
          have hl : lv_has ls 8 [(3, .null), (0, .ref (ad (6, ex))), (1, .ref (ad (4, st))), (2, .ref mo)] := lv_sub hl [2, 3, 4, 5] rfl
          refine lv_aload_nN X.ex X.co dX4_bestOf_91 rfl (lv_at hl 0 rfl) ?_
          exact r_a X rfl (Or.inl ⟨_, rfl⟩) (Or.inl rfl) rfl dX4_bestOf_92
        · rw [hb_8] at hl
          have hl : lv_has ls 8 [(3, .ref (ad (7, b_9))), (0, .ref (ad (6, ex))), (1, .ref (ad (4, st))), (2, .ref mo)] := lv_sub hl [2, 3, 4, 5] rfl
          refine lv_aload_n X.ex X.co dX4_bestOf_91 rfl (lv_at hl 0 rfl) ?_
          exact r_a X rfl (Or.inl ⟨_, rfl⟩) (Or.inr ⟨_, rfl⟩) rfl dX4_bestOf_92
      · rcases ho_10 : bestL σ st dM mA ((anL σ ex).take i) with _ | b_11
        · rw [ho_10] at hl
          have hl : lv_has ls 8 [(5, .int (nI i)), (4, .int (-1)), (3, .null), (0, .ref (ad (6, ex))), (1, .ref (ad (4, st))), (2, .ref mo)] := hl
          refine lv_aload_n X.ex X.co dX4_bestOf_20 rfl (lv_at hl 3 rfl) ?_
          refine f_get X hK (cw_ex F (i := ex) (by omega)) okX4 rfl 5 (by decide) m_590 (fun _ h => h) (v := .ref (ad (1, 17 + ex))) rfl dX4_bestOf_21 ?_
          refine lv_iload X.ex X.co dX4_bestOf_24 (lv_at hl 0 rfl) ?_
          obtain ⟨y_12, hy_13, hy_13_1, hy_13_2⟩ := anL_at (σ := σ) (e := ex) (i := i) (by omega)
          refine q_rV X ce_Jx4a65c_get_915e3 m_244 (c_getR l G (ad (1, 17 + ex)) (g.2.1 (17 + ex)) (lrow G g ad (17 + ex)) ((anL σ ex).length) (g.1 (17 + ex)) (cont (lstN σ (17 + ex)) ad) i (by omega) (cl_n hC (Or.inr ⟨by omega, by omega⟩) anL_n) (cl_q hC (Or.inr ⟨by omega, by omega⟩)) (cont_get (j := (7, y_12)) (anL_get hy_13))) g0 (cw_get F hC (k := 17 + ex) (x := i) (n := (anL σ ex).length) (Or.inr ⟨by omega, by omega⟩) anL_n (by omega)) (cw_get F hC (k := 17 + ex) (x := i) (n := (anL σ ex).length) (Or.inr ⟨by omega, by omega⟩) anL_n (by omega)).1 rfl (by decide) rfl hl.1 rfl (Nat.le_of_ble_eq_true rfl) dX4_bestOf_26 (by omega) (by omega) ?_
          refine f_castS X hK (cw_an F (i := y_12) (by omega)) rfl m_245 dX4_bestOf_29 ?_
          refine lv_astore (lv' := [(6, .ref (ad (7, y_12))), (5, .int (nI i)), (4, .int (-1)), (3, .null), (0, .ref (ad (6, ex))), (1, .ref (ad (4, st))), (2, .ref mo)]) X.ex X.co dX4_bestOf_32 hl (by decide) rfl (fun ls hl => ?_)
          refine lv_aload X.ex X.co dX4_bestOf_34 (lv_at hl 0 rfl) ?_
          refine lv_aload X.ex X.co dX4_bestOf_36 (lv_at hl 0 rfl) ?_
          refine f_get X hK (cw_an F (i := y_12) (by omega)) okX0 rfl 5 (by decide) m_726 (fun _ h => h) (v := .int (grade σ y_12)) (by rw [← hgr y_12 (by omega)]; rfl) dX4_bestOf_38 ?_
          refine lv_aload_n X.ex X.co dX4_bestOf_41 rfl (lv_at hl 6 rfl) ?_
          refine f_get X hK hmo okX6 rfl 0 (by decide) m_218 (fun _ h => h) (v := .int dM) rfl dX4_bestOf_42 ?_
          have g_14_1 := hI0.an (i := y_12) (by omega); have g_14_2 := hI0.ex (i := exe σ y_12) (by omega)
          refine q_rV X ce_X0_worth m_246 (c_X0_worth l G ad σ (ad (7, y_12)) (exe σ y_12) (grade σ y_12) dM (σ.2 24 y_12)) g0 ⟨cw_an F (i := y_12) (by omega), cw_ex F (i := exe σ y_12) (by omega), cw_le F (i := les σ (exe σ y_12)) (by omega)⟩ (cw_an F (i := y_12) (by omega)) rfl (by decide) rfl hl.1 rfl (Nat.le_of_ble_eq_true rfl) dX4_bestOf_45 (by omega) (by omega) ?_
          refine top_eq (y := worth σ y_12 dM) (worth_V σ y_12 dM) ?_
          refine lv_istore (lv' := [(7, .int (worth σ y_12 dM)), (6, .ref (ad (7, y_12))), (5, .int (nI i)), (4, .int (-1)), (3, .null), (0, .ref (ad (6, ex))), (1, .ref (ad (4, st))), (2, .ref mo)]) X.ex X.co dX4_bestOf_48 hl (by decide) rfl (fun ls hl => ?_)
          refine lv_aload X.ex X.co dX4_bestOf_50 (lv_at hl 1 rfl) ?_
          refine f_get X hK (cw_an F (i := y_12) (by omega)) okX0 rfl 1 (by decide) m_716 (fun _ h => h) (v := .ref (ad (4, stu σ y_12))) rfl dX4_bestOf_52 ?_
          have hf_f_15 := hI0.an (i := y_12) (by omega)
          refine lv_aload_n X.ex X.co dX4_bestOf_55 rfl (lv_at hl 6 rfl) ?_
          refine lv_acmp_ne (rx := some (ad (4, stu σ y_12))) (ry := some (ad (4, st))) (tgt := 85) X.ex X.co dX4_bestOf_56 (by decide) (fun c_16 => ?_) (fun c_16 => ?_)
          · have hq_17 : ¬ stu σ y_12 = st := fun z => c_16 (by rw [z])
            refine lv_iinc (v := nI (i + 1)) (lv' := [(5, .int (nI (i + 1))), (7, .int (worth σ y_12 dM)), (6, .ref (ad (7, y_12))), (4, .int (-1)), (3, .null), (0, .ref (ad (6, ex))), (1, .ref (ad (4, st))), (2, .ref mo)]) X.ex X.co dX4_bestOf_85 hl (k := 2) rfl (n_inc _) (by decide) rfl (fun ls hl => ?_)
            refine lv_goto (tgt := 8) X.ex X.co dX4_bestOf_88 (by decide) ?_
            have q_18 : (oM σ dM (bestL σ st dM mA ((anL σ ex).take (i + 1)))) = (-1) := by first | rfl | (rw [bestL_s hy_13, ho_10]; unfold bstep; first | (rw [if_pos ⟨by assumption, by omega⟩]; simp [oM, va_rf, *]; done) | (rw [if_neg (fun z => by first | exact absurd z.1 (by assumption) | exact absurd z.2 (by omega))]; rfl))
            have q_19 : va_rf ((bestL σ st dM mA ((anL σ ex).take (i + 1))).map (fun b => ad (7, b))) = .null := by first | rfl | (rw [bestL_s hy_13, ho_10]; unfold bstep; first | (rw [if_pos ⟨by assumption, by omega⟩]; simp [oM, va_rf, *]; done) | (rw [if_neg (fun z => by first | exact absurd z.1 (by assumption) | exact absurd z.2 (by omega))]; rfl))
            exact ih_3 (i + 1) (by omega) (by omega) ls (lv_sub hl [0, 3, 4, 5, 6, 7] (by first | rfl | (rw [q_18, q_19] <;> rfl)))
          · have hq_17 : stu σ y_12 = st := cw_inj F (k := 4) (show _ < _ by omega) (show _ < _ by omega) c_16
            refine lv_aload X.ex X.co dX4_bestOf_59 (lv_at hl 1 rfl) ?_
            refine f_get X hK (cw_an F (i := y_12) (by omega)) okX0 rfl 0 (by decide) m_713 (fun _ h => h) (v := .int (nI y_12)) rfl dX4_bestOf_61 ?_
            refine lv_aload_n X.ex X.co dX4_bestOf_64 rfl (lv_at hl 7 rfl) ?_
            refine f_get X hK hmo okX6 rfl 2 (by decide) m_222 (fun _ h => h) (v := .int (nI mA)) rfl dX4_bestOf_65 ?_
            refine n_cmp_ge X (x := y_12) (y := mA) (tgt := 85) (by omega) (by omega) dX4_bestOf_68 (by decide) (fun c_20 => ?_) (fun c_20 => ?_)
            · refine lv_iinc (v := nI (i + 1)) (lv' := [(5, .int (nI (i + 1))), (7, .int (worth σ y_12 dM)), (6, .ref (ad (7, y_12))), (4, .int (-1)), (3, .null), (0, .ref (ad (6, ex))), (1, .ref (ad (4, st))), (2, .ref mo)]) X.ex X.co dX4_bestOf_85 hl (k := 2) rfl (n_inc _) (by decide) rfl (fun ls hl => ?_)
              refine lv_goto (tgt := 8) X.ex X.co dX4_bestOf_88 (by decide) ?_
              have q_21 : (oM σ dM (bestL σ st dM mA ((anL σ ex).take (i + 1)))) = (-1) := by first | rfl | (rw [bestL_s hy_13, ho_10]; unfold bstep; first | (rw [if_pos ⟨by assumption, by omega⟩]; simp [oM, va_rf, *]; done) | (rw [if_neg (fun z => by first | exact absurd z.1 (by assumption) | exact absurd z.2 (by omega))]; rfl))
              have q_22 : va_rf ((bestL σ st dM mA ((anL σ ex).take (i + 1))).map (fun b => ad (7, b))) = .null := by first | rfl | (rw [bestL_s hy_13, ho_10]; unfold bstep; first | (rw [if_pos ⟨by assumption, by omega⟩]; simp [oM, va_rf, *]; done) | (rw [if_neg (fun z => by first | exact absurd z.1 (by assumption) | exact absurd z.2 (by omega))]; rfl))
              exact ih_3 (i + 1) (by omega) (by omega) ls (lv_sub hl [0, 3, 4, 5, 6, 7] (by first | rfl | (rw [q_21, q_22] <;> rfl)))
            · refine lv_iload X.ex X.co dX4_bestOf_71 (lv_at hl 0 rfl) ?_
              refine lv_iload X.ex X.co dX4_bestOf_73 (lv_at hl 3 rfl) ?_
              refine lv_icmp_le (tgt := 85) X.ex X.co dX4_bestOf_75 (by decide) (fun c_23 => ?_) (fun c_23 => ?_)
              · exact absurd c_23 worth_m1
              · refine lv_aload X.ex X.co dX4_bestOf_78 (lv_at hl 1 rfl) ?_
                refine lv_astore_n (lv' := [(3, .ref (ad (7, y_12))), (7, .int (worth σ y_12 dM)), (6, .ref (ad (7, y_12))), (5, .int (nI i)), (4, .int (-1)), (0, .ref (ad (6, ex))), (1, .ref (ad (4, st))), (2, .ref mo)]) X.ex X.co dX4_bestOf_80 rfl hl (by decide) rfl (fun ls hl => ?_)
                refine lv_iload X.ex X.co dX4_bestOf_81 (lv_at hl 1 rfl) ?_
                refine lv_istore (lv' := [(4, .int (worth σ y_12 dM)), (3, .ref (ad (7, y_12))), (7, .int (worth σ y_12 dM)), (6, .ref (ad (7, y_12))), (5, .int (nI i)), (0, .ref (ad (6, ex))), (1, .ref (ad (4, st))), (2, .ref mo)]) X.ex X.co dX4_bestOf_83 hl (by decide) rfl (fun ls hl => ?_)
                refine lv_iinc (v := nI (i + 1)) (lv' := [(5, .int (nI (i + 1))), (4, .int (worth σ y_12 dM)), (3, .ref (ad (7, y_12))), (7, .int (worth σ y_12 dM)), (6, .ref (ad (7, y_12))), (0, .ref (ad (6, ex))), (1, .ref (ad (4, st))), (2, .ref mo)]) X.ex X.co dX4_bestOf_85 hl (k := 4) rfl (n_inc _) (by decide) rfl (fun ls hl => ?_)
                refine lv_goto (tgt := 8) X.ex X.co dX4_bestOf_88 (by decide) ?_
                have q_24 : (oM σ dM (bestL σ st dM mA ((anL σ ex).take (i + 1)))) = (worth σ y_12 dM) := by first | rfl | (rw [bestL_s hy_13, ho_10]; unfold bstep; first | (rw [if_pos ⟨by assumption, by omega⟩]; simp [oM, va_rf, *]; done) | (rw [if_neg (fun z => by first | exact absurd z.1 (by assumption) | exact absurd z.2 (by omega))]; rfl))
                have q_25 : va_rf ((bestL σ st dM mA ((anL σ ex).take (i + 1))).map (fun b => ad (7, b))) = .ref (ad (7, y_12)) := by first | rfl | (rw [bestL_s hy_13, ho_10]; unfold bstep; first | (rw [if_pos ⟨by assumption, by omega⟩]; simp [oM, va_rf, *]; done) | (rw [if_neg (fun z => by first | exact absurd z.1 (by assumption) | exact absurd z.2 (by omega))]; rfl))
                exact ih_3 (i + 1) (by omega) (by omega) ls (lv_sub hl [0, 1, 2, 5, 6, 7] (by first | rfl | (rw [q_24, q_25] <;> rfl)))
        · rw [ho_10] at hl
          have hl : lv_has ls 8 [(5, .int (nI i)), (4, .int (worth σ b_11 dM)), (3, .ref (ad (7, b_11))), (0, .ref (ad (6, ex))), (1, .ref (ad (4, st))), (2, .ref mo)] := hl
          refine lv_aload_n X.ex X.co dX4_bestOf_20 rfl (lv_at hl 3 rfl) ?_
          refine f_get X hK (cw_ex F (i := ex) (by omega)) okX4 rfl 5 (by decide) m_590 (fun _ h => h) (v := .ref (ad (1, 17 + ex))) rfl dX4_bestOf_21 ?_
          refine lv_iload X.ex X.co dX4_bestOf_24 (lv_at hl 0 rfl) ?_
          obtain ⟨y_26, hy_27, hy_27_1, hy_27_2⟩ := anL_at (σ := σ) (e := ex) (i := i) (by omega)
          refine q_rV X ce_Jx4a65c_get_915e3 m_244 (c_getR l G (ad (1, 17 + ex)) (g.2.1 (17 + ex)) (lrow G g ad (17 + ex)) ((anL σ ex).length) (g.1 (17 + ex)) (cont (lstN σ (17 + ex)) ad) i (by omega) (cl_n hC (Or.inr ⟨by omega, by omega⟩) anL_n) (cl_q hC (Or.inr ⟨by omega, by omega⟩)) (cont_get (j := (7, y_26)) (anL_get hy_27))) g0 (cw_get F hC (k := 17 + ex) (x := i) (n := (anL σ ex).length) (Or.inr ⟨by omega, by omega⟩) anL_n (by omega)) (cw_get F hC (k := 17 + ex) (x := i) (n := (anL σ ex).length) (Or.inr ⟨by omega, by omega⟩) anL_n (by omega)).1 rfl (by decide) rfl hl.1 rfl (Nat.le_of_ble_eq_true rfl) dX4_bestOf_26 (by omega) (by omega) ?_
          refine f_castS X hK (cw_an F (i := y_26) (by omega)) rfl m_245 dX4_bestOf_29 ?_
          refine lv_astore (lv' := [(6, .ref (ad (7, y_26))), (5, .int (nI i)), (4, .int (worth σ b_11 dM)), (3, .ref (ad (7, b_11))), (0, .ref (ad (6, ex))), (1, .ref (ad (4, st))), (2, .ref mo)]) X.ex X.co dX4_bestOf_32 hl (by decide) rfl (fun ls hl => ?_)
          refine lv_aload X.ex X.co dX4_bestOf_34 (lv_at hl 0 rfl) ?_
          refine lv_aload X.ex X.co dX4_bestOf_36 (lv_at hl 0 rfl) ?_
          refine f_get X hK (cw_an F (i := y_26) (by omega)) okX0 rfl 5 (by decide) m_726 (fun _ h => h) (v := .int (grade σ y_26)) (by rw [← hgr y_26 (by omega)]; rfl) dX4_bestOf_38 ?_
          refine lv_aload_n X.ex X.co dX4_bestOf_41 rfl (lv_at hl 6 rfl) ?_
          refine f_get X hK hmo okX6 rfl 0 (by decide) m_218 (fun _ h => h) (v := .int dM) rfl dX4_bestOf_42 ?_
          have g_28_1 := hI0.an (i := y_26) (by omega); have g_28_2 := hI0.ex (i := exe σ y_26) (by omega)
          refine q_rV X ce_X0_worth m_246 (c_X0_worth l G ad σ (ad (7, y_26)) (exe σ y_26) (grade σ y_26) dM (σ.2 24 y_26)) g0 ⟨cw_an F (i := y_26) (by omega), cw_ex F (i := exe σ y_26) (by omega), cw_le F (i := les σ (exe σ y_26)) (by omega)⟩ (cw_an F (i := y_26) (by omega)) rfl (by decide) rfl hl.1 rfl (Nat.le_of_ble_eq_true rfl) dX4_bestOf_45 (by omega) (by omega) ?_
          refine top_eq (y := worth σ y_26 dM) (worth_V σ y_26 dM) ?_
          refine lv_istore (lv' := [(7, .int (worth σ y_26 dM)), (6, .ref (ad (7, y_26))), (5, .int (nI i)), (4, .int (worth σ b_11 dM)), (3, .ref (ad (7, b_11))), (0, .ref (ad (6, ex))), (1, .ref (ad (4, st))), (2, .ref mo)]) X.ex X.co dX4_bestOf_48 hl (by decide) rfl (fun ls hl => ?_)
          refine lv_aload X.ex X.co dX4_bestOf_50 (lv_at hl 1 rfl) ?_
          refine f_get X hK (cw_an F (i := y_26) (by omega)) okX0 rfl 1 (by decide) m_716 (fun _ h => h) (v := .ref (ad (4, stu σ y_26))) rfl dX4_bestOf_52 ?_
          have hf_f_29 := hI0.an (i := y_26) (by omega)
          refine lv_aload_n X.ex X.co dX4_bestOf_55 rfl (lv_at hl 6 rfl) ?_
          refine lv_acmp_ne (rx := some (ad (4, stu σ y_26))) (ry := some (ad (4, st))) (tgt := 85) X.ex X.co dX4_bestOf_56 (by decide) (fun c_30 => ?_) (fun c_30 => ?_)
          · have hq_31 : ¬ stu σ y_26 = st := fun z => c_30 (by rw [z])
            refine lv_iinc (v := nI (i + 1)) (lv' := [(5, .int (nI (i + 1))), (7, .int (worth σ y_26 dM)), (6, .ref (ad (7, y_26))), (4, .int (worth σ b_11 dM)), (3, .ref (ad (7, b_11))), (0, .ref (ad (6, ex))), (1, .ref (ad (4, st))), (2, .ref mo)]) X.ex X.co dX4_bestOf_85 hl (k := 2) rfl (n_inc _) (by decide) rfl (fun ls hl => ?_)
            refine lv_goto (tgt := 8) X.ex X.co dX4_bestOf_88 (by decide) ?_
            have q_32 : (oM σ dM (bestL σ st dM mA ((anL σ ex).take (i + 1)))) = (worth σ b_11 dM) := by first | rfl | (rw [bestL_s hy_27, ho_10]; unfold bstep; first | (rw [if_pos ⟨by assumption, by omega⟩]; simp [oM, va_rf, *]; done) | (rw [if_neg (fun z => by first | exact absurd z.1 (by assumption) | exact absurd z.2 (by omega))]; rfl))
            have q_33 : va_rf ((bestL σ st dM mA ((anL σ ex).take (i + 1))).map (fun b => ad (7, b))) = .ref (ad (7, b_11)) := by first | rfl | (rw [bestL_s hy_27, ho_10]; unfold bstep; first | (rw [if_pos ⟨by assumption, by omega⟩]; simp [oM, va_rf, *]; done) | (rw [if_neg (fun z => by first | exact absurd z.1 (by assumption) | exact absurd z.2 (by omega))]; rfl))
            exact ih_3 (i + 1) (by omega) (by omega) ls (lv_sub hl [0, 3, 4, 5, 6, 7] (by first | rfl | (rw [q_32, q_33] <;> rfl)))
          · have hq_31 : stu σ y_26 = st := cw_inj F (k := 4) (show _ < _ by omega) (show _ < _ by omega) c_30
            refine lv_aload X.ex X.co dX4_bestOf_59 (lv_at hl 1 rfl) ?_
            refine f_get X hK (cw_an F (i := y_26) (by omega)) okX0 rfl 0 (by decide) m_713 (fun _ h => h) (v := .int (nI y_26)) rfl dX4_bestOf_61 ?_
            refine lv_aload_n X.ex X.co dX4_bestOf_64 rfl (lv_at hl 7 rfl) ?_
            refine f_get X hK hmo okX6 rfl 2 (by decide) m_222 (fun _ h => h) (v := .int (nI mA)) rfl dX4_bestOf_65 ?_
            refine n_cmp_ge X (x := y_26) (y := mA) (tgt := 85) (by omega) (by omega) dX4_bestOf_68 (by decide) (fun c_34 => ?_) (fun c_34 => ?_)
            · refine lv_iinc (v := nI (i + 1)) (lv' := [(5, .int (nI (i + 1))), (7, .int (worth σ y_26 dM)), (6, .ref (ad (7, y_26))), (4, .int (worth σ b_11 dM)), (3, .ref (ad (7, b_11))), (0, .ref (ad (6, ex))), (1, .ref (ad (4, st))), (2, .ref mo)]) X.ex X.co dX4_bestOf_85 hl (k := 2) rfl (n_inc _) (by decide) rfl (fun ls hl => ?_)
              refine lv_goto (tgt := 8) X.ex X.co dX4_bestOf_88 (by decide) ?_
              have q_35 : (oM σ dM (bestL σ st dM mA ((anL σ ex).take (i + 1)))) = (worth σ b_11 dM) := by first | rfl | (rw [bestL_s hy_27, ho_10]; unfold bstep; first | (rw [if_pos ⟨by assumption, by omega⟩]; simp [oM, va_rf, *]; done) | (rw [if_neg (fun z => by first | exact absurd z.1 (by assumption) | exact absurd z.2 (by omega))]; rfl))
              have q_36 : va_rf ((bestL σ st dM mA ((anL σ ex).take (i + 1))).map (fun b => ad (7, b))) = .ref (ad (7, b_11)) := by first | rfl | (rw [bestL_s hy_27, ho_10]; unfold bstep; first | (rw [if_pos ⟨by assumption, by omega⟩]; simp [oM, va_rf, *]; done) | (rw [if_neg (fun z => by first | exact absurd z.1 (by assumption) | exact absurd z.2 (by omega))]; rfl))
              exact ih_3 (i + 1) (by omega) (by omega) ls (lv_sub hl [0, 3, 4, 5, 6, 7] (by first | rfl | (rw [q_35, q_36] <;> rfl)))
            · refine lv_iload X.ex X.co dX4_bestOf_71 (lv_at hl 0 rfl) ?_
              refine lv_iload X.ex X.co dX4_bestOf_73 (lv_at hl 3 rfl) ?_
              refine lv_icmp_le (tgt := 85) X.ex X.co dX4_bestOf_75 (by decide) (fun c_37 => ?_) (fun c_37 => ?_)
              · refine lv_iinc (v := nI (i + 1)) (lv' := [(5, .int (nI (i + 1))), (7, .int (worth σ y_26 dM)), (6, .ref (ad (7, y_26))), (4, .int (worth σ b_11 dM)), (3, .ref (ad (7, b_11))), (0, .ref (ad (6, ex))), (1, .ref (ad (4, st))), (2, .ref mo)]) X.ex X.co dX4_bestOf_85 hl (k := 2) rfl (n_inc _) (by decide) rfl (fun ls hl => ?_)
                refine lv_goto (tgt := 8) X.ex X.co dX4_bestOf_88 (by decide) ?_
                have q_38 : (oM σ dM (bestL σ st dM mA ((anL σ ex).take (i + 1)))) = (worth σ b_11 dM) := by first | rfl | (rw [bestL_s hy_27, ho_10]; unfold bstep; first | (rw [if_pos ⟨by assumption, by omega⟩]; simp [oM, va_rf, *]; done) | (rw [if_neg (fun z => by first | exact absurd z.1 (by assumption) | exact absurd z.2 (by omega))]; rfl))
                have q_39 : va_rf ((bestL σ st dM mA ((anL σ ex).take (i + 1))).map (fun b => ad (7, b))) = .ref (ad (7, b_11)) := by first | rfl | (rw [bestL_s hy_27, ho_10]; unfold bstep; first | (rw [if_pos ⟨by assumption, by omega⟩]; simp [oM, va_rf, *]; done) | (rw [if_neg (fun z => by first | exact absurd z.1 (by assumption) | exact absurd z.2 (by omega))]; rfl))
                exact ih_3 (i + 1) (by omega) (by omega) ls (lv_sub hl [0, 3, 4, 5, 6, 7] (by first | rfl | (rw [q_38, q_39] <;> rfl)))
              · refine lv_aload X.ex X.co dX4_bestOf_78 (lv_at hl 1 rfl) ?_
                refine lv_astore_n (lv' := [(3, .ref (ad (7, y_26))), (7, .int (worth σ y_26 dM)), (6, .ref (ad (7, y_26))), (5, .int (nI i)), (4, .int (worth σ b_11 dM)), (0, .ref (ad (6, ex))), (1, .ref (ad (4, st))), (2, .ref mo)]) X.ex X.co dX4_bestOf_80 rfl hl (by decide) rfl (fun ls hl => ?_)
                refine lv_iload X.ex X.co dX4_bestOf_81 (lv_at hl 1 rfl) ?_
                refine lv_istore (lv' := [(4, .int (worth σ y_26 dM)), (3, .ref (ad (7, y_26))), (7, .int (worth σ y_26 dM)), (6, .ref (ad (7, y_26))), (5, .int (nI i)), (0, .ref (ad (6, ex))), (1, .ref (ad (4, st))), (2, .ref mo)]) X.ex X.co dX4_bestOf_83 hl (by decide) rfl (fun ls hl => ?_)
                refine lv_iinc (v := nI (i + 1)) (lv' := [(5, .int (nI (i + 1))), (4, .int (worth σ y_26 dM)), (3, .ref (ad (7, y_26))), (7, .int (worth σ y_26 dM)), (6, .ref (ad (7, y_26))), (0, .ref (ad (6, ex))), (1, .ref (ad (4, st))), (2, .ref mo)]) X.ex X.co dX4_bestOf_85 hl (k := 4) rfl (n_inc _) (by decide) rfl (fun ls hl => ?_)
                refine lv_goto (tgt := 8) X.ex X.co dX4_bestOf_88 (by decide) ?_
                have q_40 : (oM σ dM (bestL σ st dM mA ((anL σ ex).take (i + 1)))) = (worth σ y_26 dM) := by first | rfl | (rw [bestL_s hy_27, ho_10]; unfold bstep; first | (rw [if_pos ⟨by assumption, by omega⟩]; simp [oM, va_rf, *]; done) | (rw [if_neg (fun z => by first | exact absurd z.1 (by assumption) | exact absurd z.2 (by omega))]; rfl))
                have q_41 : va_rf ((bestL σ st dM mA ((anL σ ex).take (i + 1))).map (fun b => ad (7, b))) = .ref (ad (7, y_26)) := by first | rfl | (rw [bestL_s hy_27, ho_10]; unfold bstep; first | (rw [if_pos ⟨by assumption, by omega⟩]; simp [oM, va_rf, *]; done) | (rw [if_neg (fun z => by first | exact absurd z.1 (by assumption) | exact absurd z.2 (by omega))]; rfl))
                exact ih_3 (i + 1) (by omega) (by omega) ls (lv_sub hl [0, 1, 2, 5, 6, 7] (by first | rfl | (rw [q_40, q_41] <;> rfl)))
  exact loop_2 ((anL σ ex).length + 1) 0 (by omega) (by omega) ls (lv_sub hl [0, 1, 2, 3, 4, 5] (by first | rfl | (rw [List.take_zero] <;> rfl)))
set_option maxHeartbeats 4000000 in
set_option maxRecDepth 100000 in
theorem c_X5_masteryAt (l : Launch) (G : GT) (A : Nat → Prop) (g : CG) (ad : I2 → Nat) (σ : Sg) (hI0 : MI0 σ) (hC : CL g σ) (hgr : ∀ a, a < nAn σ → g.2.2.1 0 a = grade σ a) (st le mo mE mA : Nat) (dM : Int32) (hst : st < nSt σ) (hle : le < nLe σ) (hmE : mE ≤ nEx σ) (hmA : mA ≤ nAn σ) : rM l yX5_masteryAt cX5_masteryAt 8 ((Option.some FieldType.int)) 4 G [.ref (ad (5, le)), .ref (ad (4, st)), .ref mo] (fun H => cw G g A ad σ H ∧ va_at G.1 vwCl (mo, eMo dM mE mA) H) (some (.int (masBy σ st le dM mE mA))) := by
  refine mk_m (by decide) (Nat.le_of_ble_eq_true rfl) ?_
  intro p e s m args below meth c X ls hl g0 F hnm
  have hK := g0.1
  obtain ⟨F, hmo⟩ := F
  obtain ⟨b1, b2, b3, b4, b5, b6, b7⟩ := hI0.1
  have hLn := exL_len σ le
  have hl : lv_has ls 8 [(0, .ref (ad (5, le))), (1, .ref (ad (4, st))), (2, .ref mo)] := hl
  show Wr p l e 4 s m args below meth c (some (.int (masBy σ st le dM mE mA))) 0 ls []
  refine lv_iconst (v := 0) X.ex X.co dX5_masteryAt_0 (by decide) ?_
  refine lv_istore_n (lv' := [(3, .int 0), (0, .ref (ad (5, le))), (1, .ref (ad (4, st))), (2, .ref mo)]) X.ex X.co dX5_masteryAt_1 rfl hl (by decide) rfl (fun ls hl => ?_)
  refine lv_iconst (v := 0) X.ex X.co dX5_masteryAt_2 (by decide) ?_
  refine lv_istore (lv' := [(4, .int 0), (3, .int 0), (0, .ref (ad (5, le))), (1, .ref (ad (4, st))), (2, .ref mo)]) X.ex X.co dX5_masteryAt_3 hl (by decide) rfl (fun ls hl => ?_)
  refine lv_iconst (v := 0) X.ex X.co dX5_masteryAt_5 (by decide) ?_
  refine lv_istore (lv' := [(5, .int 0), (4, .int 0), (3, .int 0), (0, .ref (ad (5, le))), (1, .ref (ad (4, st))), (2, .ref mo)]) X.ex X.co dX5_masteryAt_6 hl (by decide) rfl (fun ls hl => ?_)
  have loop_2 : ∀ (fu_1 i : Nat), i ≤ (exL σ le).length → (exL σ le).length < i + fu_1 → ∀ ls : Array Slot, lv_has ls 8 [(5, .int (nI i)), (4, .int (nI ((masL σ st dM mE mA ((exL σ le).take i)).2))), (3, .int ((masL σ st dM mE mA ((exL σ le).take i)).1)), (0, .ref (ad (5, le))), (1, .ref (ad (4, st))), (2, .ref mo)] → Wr p l e 4 s m args below meth c (some (.int (masBy σ st le dM mE mA))) 8 ls [] := by
    intro fu_1
    induction fu_1 with
    | zero => intro i h_4 h_5; exact absurd h_5 (by omega)
    | succ fu_1 ih_3 =>
      intro i h_4 h_5 ls hl
      have hmb := masL_bt σ st dM mE mA (exL σ le) i
      refine lv_iload X.ex X.co dX5_masteryAt_8 (lv_at hl 0 rfl) ?_
      refine lv_aload_n X.ex X.co dX5_masteryAt_10 rfl (lv_at hl 3 rfl) ?_
      refine f_get X hK (cw_le F (i := le) (by omega)) okX5 rfl 2 (by decide) m_529 (fun _ h => h) (v := .ref (ad (1, 9 + le))) rfl dX5_masteryAt_11 ?_
      refine q_rV X ce_Jx4a65c_size_8abf5 m_236 (c_Jx4a65c_size_8abf5 l G (ad (1, 9 + le)) (g.2.1 (9 + le)) (lrow G g ad (9 + le)) ((exL σ le).length)) g0 (cw_lsn F (k := 9 + le) (n := (exL σ le).length) (Or.inl (by omega)) (exL_n (by omega))) (cw_lsn F (k := 9 + le) (n := (exL σ le).length) (Or.inl (by omega)) (exL_n (by omega))) rfl (by decide) rfl hl.1 rfl (Nat.le_of_ble_eq_true rfl) dX5_masteryAt_14 (by omega) (by omega) ?_
      refine n_cmp_ge X (x := i) (y := (exL σ le).length) (tgt := 90) (by omega) (by omega) dX5_masteryAt_17 (by decide) (fun c_6 => ?_) (fun c_6 => ?_)
      · have hq_7 : i = (exL σ le).length := by omega
        rw [hq_7, List.take_length, masL_S hmE] at hl
        have hmn := masN_b σ le mE
        have hl : lv_has ls 8 [(4, .int (nI (masN σ le mE))), (3, .int (masT σ st le dM mA mE)), (0, .ref (ad (5, le))), (1, .ref (ad (4, st))), (2, .ref mo)] := lv_sub hl [1, 2, 3, 4, 5] rfl
        refine lv_iload X.ex X.co dX5_masteryAt_90 (lv_at hl 0 rfl) ?_
        refine n_if_ne X (x := masN σ le mE) (tgt := 100) (by omega) dX5_masteryAt_92 (by decide) (fun c_8 => ?_) (fun c_8 => ?_)
        · refine lv_iload_n X.ex X.co dX5_masteryAt_100 rfl (lv_at hl 1 rfl) ?_
          refine lv_iload X.ex X.co dX5_masteryAt_101 (lv_at hl 0 rfl) ?_
          refine lv_idiv X.ex X.co dX5_masteryAt_103 (nI_nz (by omega) (by omega)) ?_
          exact r_i X rfl rfl (by simp only [masBy]; rw [if_neg (by omega)]) dX5_masteryAt_104
        · refine lv_bipush (v := 100) X.ex X.co dX5_masteryAt_95 (by decide) ?_
          refine lv_goto (tgt := 104) X.ex X.co dX5_masteryAt_97 (by decide) ?_
          exact r_i X rfl rfl (by simp only [masBy]; rw [if_pos (by assumption)]) dX5_masteryAt_104
      · refine lv_aload_n X.ex X.co dX5_masteryAt_20 rfl (lv_at hl 3 rfl) ?_
        refine f_get X hK (cw_le F (i := le) (by omega)) okX5 rfl 2 (by decide) m_529 (fun _ h => h) (v := .ref (ad (1, 9 + le))) rfl dX5_masteryAt_21 ?_
        refine lv_iload X.ex X.co dX5_masteryAt_24 (lv_at hl 0 rfl) ?_
        obtain ⟨y_9, hy_10, hy_10_1, hy_10_2⟩ := exL_at (σ := σ) (l := le) (i := i) (by omega)
        refine q_rV X ce_Jx4a65c_get_915e3 m_237 (c_getR l G (ad (1, 9 + le)) (g.2.1 (9 + le)) (lrow G g ad (9 + le)) ((exL σ le).length) (g.1 (9 + le)) (cont (lstN σ (9 + le)) ad) i (by omega) (cl_n hC (Or.inl (by omega)) (exL_n (by omega))) (cl_q hC (Or.inl (by omega))) (cont_get (j := (6, y_9)) (exL_get (by omega) hy_10))) g0 (cw_get F hC (k := 9 + le) (x := i) (n := (exL σ le).length) (Or.inl (by omega)) (exL_n (by omega)) (by omega)) (cw_get F hC (k := 9 + le) (x := i) (n := (exL σ le).length) (Or.inl (by omega)) (exL_n (by omega)) (by omega)).1 rfl (by decide) rfl hl.1 rfl (Nat.le_of_ble_eq_true rfl) dX5_masteryAt_26 (by omega) (by omega) ?_
        refine f_castS X hK (cw_ex F (i := y_9) (by omega)) rfl m_238 dX5_masteryAt_29 ?_
        refine lv_astore (lv' := [(6, .ref (ad (6, y_9))), (5, .int (nI i)), (4, .int (nI ((masL σ st dM mE mA ((exL σ le).take i)).2))), (3, .int ((masL σ st dM mE mA ((exL σ le).take i)).1)), (0, .ref (ad (5, le))), (1, .ref (ad (4, st))), (2, .ref mo)]) X.ex X.co dX5_masteryAt_32 hl (by decide) rfl (fun ls hl => ?_)
        refine lv_aload X.ex X.co dX5_masteryAt_34 (lv_at hl 0 rfl) ?_
        refine f_get X hK (cw_ex F (i := y_9) (by omega)) okX4 rfl 0 (by decide) m_582 (fun _ h => h) (v := .int (nI y_9)) rfl dX5_masteryAt_36 ?_
        refine lv_aload_n X.ex X.co dX5_masteryAt_39 rfl (lv_at hl 6 rfl) ?_
        refine f_get X hK hmo okX6 rfl 1 (by decide) m_220 (fun _ h => h) (v := .int (nI mE)) rfl dX5_masteryAt_40 ?_
        refine n_cmp_ge X (x := y_9) (y := mE) (tgt := 84) (by omega) (by omega) dX5_masteryAt_43 (by decide) (fun c_11 => ?_) (fun c_11 => ?_)
        · refine lv_iinc (v := nI (i + 1)) (lv' := [(5, .int (nI (i + 1))), (6, .ref (ad (6, y_9))), (4, .int (nI ((masL σ st dM mE mA ((exL σ le).take i)).2))), (3, .int ((masL σ st dM mE mA ((exL σ le).take i)).1)), (0, .ref (ad (5, le))), (1, .ref (ad (4, st))), (2, .ref mo)]) X.ex X.co dX5_masteryAt_84 hl (k := 1) rfl (n_inc _) (by decide) rfl (fun ls hl => ?_)
          refine lv_goto (tgt := 8) X.ex X.co dX5_masteryAt_87 (by decide) ?_
          have q_12 : nI ((masL σ st dM mE mA ((exL σ le).take (i + 1))).2) = nI ((masL σ st dM mE mA ((exL σ le).take i)).2) := by first | rfl | (rw [masL_s hy_10]; unfold mstep; first | (rw [if_pos (by omega)]; simp [oW, *]; done) | (rw [if_pos (by omega)]) | (rw [if_neg (by omega)]))
          have q_13 : (masL σ st dM mE mA ((exL σ le).take (i + 1))).1 = (masL σ st dM mE mA ((exL σ le).take i)).1 := by first | rfl | (rw [masL_s hy_10]; unfold mstep; first | (rw [if_pos (by omega)]; simp [oW, *]; done) | (rw [if_pos (by omega)]) | (rw [if_neg (by omega)]))
          exact ih_3 (i + 1) (by omega) (by omega) ls (lv_sub hl [0, 2, 3, 4, 5, 6] (by first | rfl | (rw [q_12, q_13] <;> rfl)))
        · refine lv_aload X.ex X.co dX5_masteryAt_46 (lv_at hl 0 rfl) ?_
          refine lv_aload_n X.ex X.co dX5_masteryAt_48 rfl (lv_at hl 5 rfl) ?_
          refine lv_aload_n X.ex X.co dX5_masteryAt_49 rfl (lv_at hl 6 rfl) ?_
          refine q_rV X ce_X4_bestOf m_239 (c_X4_bestOf l G A g ad σ hI0 hC hgr st y_9 mo mE mA dM (by omega) (by omega) (by omega)) g0 ⟨F, hmo⟩ (cw_ex F (i := y_9) (by omega)) rfl (by decide) rfl hl.1 rfl (Nat.le_of_ble_eq_true rfl) dX5_masteryAt_50 (by omega) (by omega) ?_
          rcases hb_14 : bestS σ st y_9 dM mA with _ | b_15
          · refine lv_astoreN (lv' := [(7, .null), (6, .ref (ad (6, y_9))), (5, .int (nI i)), (4, .int (nI ((masL σ st dM mE mA ((exL σ le).take i)).2))), (3, .int ((masL σ st dM mE mA ((exL σ le).take i)).1)), (0, .ref (ad (5, le))), (1, .ref (ad (4, st))), (2, .ref mo)]) X.ex X.co dX5_masteryAt_53 hl (by decide) rfl (fun ls hl => ?_)
            refine lv_iload_n X.ex X.co dX5_masteryAt_55 rfl (lv_at hl 4 rfl) ?_
            refine lv_aloadN X.ex X.co dX5_masteryAt_56 (lv_at hl 0 rfl) ?_
            refine lv_ifnonnullN X.ex X.co dX5_masteryAt_58 ?_
            refine lv_iconst (v := 0) X.ex X.co dX5_masteryAt_61 (by decide) ?_
            refine lv_goto (tgt := 79) X.ex X.co dX5_masteryAt_62 (by decide) ?_
            refine lv_iadd X.ex X.co dX5_masteryAt_79 ?_
            refine lv_istore_n (lv' := [(3, .int ((masL σ st dM mE mA ((exL σ le).take i)).1 + 0)), (7, .null), (6, .ref (ad (6, y_9))), (5, .int (nI i)), (4, .int (nI ((masL σ st dM mE mA ((exL σ le).take i)).2))), (0, .ref (ad (5, le))), (1, .ref (ad (4, st))), (2, .ref mo)]) X.ex X.co dX5_masteryAt_80 rfl hl (by decide) rfl (fun ls hl => ?_)
            refine lv_iinc (v := nI (((masL σ st dM mE mA ((exL σ le).take i)).2) + 1)) (lv' := [(4, .int (nI (((masL σ st dM mE mA ((exL σ le).take i)).2) + 1))), (3, .int ((masL σ st dM mE mA ((exL σ le).take i)).1 + 0)), (7, .null), (6, .ref (ad (6, y_9))), (5, .int (nI i)), (0, .ref (ad (5, le))), (1, .ref (ad (4, st))), (2, .ref mo)]) X.ex X.co dX5_masteryAt_81 hl (k := 4) rfl (n_inc _) (by decide) rfl (fun ls hl => ?_)
            refine lv_iinc (v := nI (i + 1)) (lv' := [(5, .int (nI (i + 1))), (4, .int (nI (((masL σ st dM mE mA ((exL σ le).take i)).2) + 1))), (3, .int ((masL σ st dM mE mA ((exL σ le).take i)).1 + 0)), (7, .null), (6, .ref (ad (6, y_9))), (0, .ref (ad (5, le))), (1, .ref (ad (4, st))), (2, .ref mo)]) X.ex X.co dX5_masteryAt_84 hl (k := 4) rfl (n_inc _) (by decide) rfl (fun ls hl => ?_)
            refine lv_goto (tgt := 8) X.ex X.co dX5_masteryAt_87 (by decide) ?_
            have q_16 : nI ((masL σ st dM mE mA ((exL σ le).take (i + 1))).2) = nI (((masL σ st dM mE mA ((exL σ le).take i)).2) + 1) := by first | rfl | (rw [masL_s hy_10]; unfold mstep; first | (rw [if_pos (by omega)]; simp [oW, *]; done) | (rw [if_pos (by omega)]) | (rw [if_neg (by omega)]))
            have q_17 : (masL σ st dM mE mA ((exL σ le).take (i + 1))).1 = ((masL σ st dM mE mA ((exL σ le).take i)).1 + 0) := by first | rfl | (rw [masL_s hy_10]; unfold mstep; first | (rw [if_pos (by omega)]; simp [oW, *]; done) | (rw [if_pos (by omega)]) | (rw [if_neg (by omega)]))
            exact ih_3 (i + 1) (by omega) (by omega) ls (lv_sub hl [0, 1, 2, 5, 6, 7] (by first | rfl | (rw [q_16, q_17] <;> rfl)))
          · refine lv_astore (lv' := [(7, .ref (ad (7, b_15))), (6, .ref (ad (6, y_9))), (5, .int (nI i)), (4, .int (nI ((masL σ st dM mE mA ((exL σ le).take i)).2))), (3, .int ((masL σ st dM mE mA ((exL σ le).take i)).1)), (0, .ref (ad (5, le))), (1, .ref (ad (4, st))), (2, .ref mo)]) X.ex X.co dX5_masteryAt_53 hl (by decide) rfl (fun ls hl => ?_)
            refine lv_iload_n X.ex X.co dX5_masteryAt_55 rfl (lv_at hl 4 rfl) ?_
            refine lv_aload X.ex X.co dX5_masteryAt_56 (lv_at hl 0 rfl) ?_
            refine lv_ifnonnull (tgt := 65) X.ex X.co dX5_masteryAt_58 (by decide) ?_
            have hbb := bestS_b hb_14
            refine lv_aload X.ex X.co dX5_masteryAt_65 (lv_at hl 0 rfl) ?_
            refine lv_aload X.ex X.co dX5_masteryAt_67 (lv_at hl 0 rfl) ?_
            refine f_get X hK (cw_an F (i := b_15) (by omega)) okX0 rfl 5 (by decide) m_724 (fun _ h => h) (v := .int (grade σ b_15)) (by rw [← hgr b_15 (by omega)]; rfl) dX5_masteryAt_69 ?_
            refine lv_aload_n X.ex X.co dX5_masteryAt_72 rfl (lv_at hl 7 rfl) ?_
            refine f_get X hK hmo okX6 rfl 0 (by decide) m_217 (fun _ h => h) (v := .int dM) rfl dX5_masteryAt_73 ?_
            have g_18_1 := hI0.an (i := b_15) (by omega); have g_18_2 := hI0.ex (i := exe σ b_15) (by omega)
            refine q_rV X ce_X0_worth m_253 (c_X0_worth l G ad σ (ad (7, b_15)) (exe σ b_15) (grade σ b_15) dM (σ.2 24 b_15)) g0 ⟨cw_an F (i := b_15) (by omega), cw_ex F (i := exe σ b_15) (by omega), cw_le F (i := les σ (exe σ b_15)) (by omega)⟩ (cw_an F (i := b_15) (by omega)) rfl (by decide) rfl hl.1 rfl (Nat.le_of_ble_eq_true rfl) dX5_masteryAt_76 (by omega) (by omega) ?_
            refine top_eq (y := worth σ b_15 dM) (worth_V σ b_15 dM) ?_
            refine lv_iadd X.ex X.co dX5_masteryAt_79 ?_
            refine lv_istore_n (lv' := [(3, .int ((masL σ st dM mE mA ((exL σ le).take i)).1 + (worth σ b_15 dM))), (7, .ref (ad (7, b_15))), (6, .ref (ad (6, y_9))), (5, .int (nI i)), (4, .int (nI ((masL σ st dM mE mA ((exL σ le).take i)).2))), (0, .ref (ad (5, le))), (1, .ref (ad (4, st))), (2, .ref mo)]) X.ex X.co dX5_masteryAt_80 rfl hl (by decide) rfl (fun ls hl => ?_)
            refine lv_iinc (v := nI (((masL σ st dM mE mA ((exL σ le).take i)).2) + 1)) (lv' := [(4, .int (nI (((masL σ st dM mE mA ((exL σ le).take i)).2) + 1))), (3, .int ((masL σ st dM mE mA ((exL σ le).take i)).1 + (worth σ b_15 dM))), (7, .ref (ad (7, b_15))), (6, .ref (ad (6, y_9))), (5, .int (nI i)), (0, .ref (ad (5, le))), (1, .ref (ad (4, st))), (2, .ref mo)]) X.ex X.co dX5_masteryAt_81 hl (k := 4) rfl (n_inc _) (by decide) rfl (fun ls hl => ?_)
            refine lv_iinc (v := nI (i + 1)) (lv' := [(5, .int (nI (i + 1))), (4, .int (nI (((masL σ st dM mE mA ((exL σ le).take i)).2) + 1))), (3, .int ((masL σ st dM mE mA ((exL σ le).take i)).1 + (worth σ b_15 dM))), (7, .ref (ad (7, b_15))), (6, .ref (ad (6, y_9))), (0, .ref (ad (5, le))), (1, .ref (ad (4, st))), (2, .ref mo)]) X.ex X.co dX5_masteryAt_84 hl (k := 4) rfl (n_inc _) (by decide) rfl (fun ls hl => ?_)
            refine lv_goto (tgt := 8) X.ex X.co dX5_masteryAt_87 (by decide) ?_
            have q_19 : nI ((masL σ st dM mE mA ((exL σ le).take (i + 1))).2) = nI (((masL σ st dM mE mA ((exL σ le).take i)).2) + 1) := by first | rfl | (rw [masL_s hy_10]; unfold mstep; first | (rw [if_pos (by omega)]; simp [oW, *]; done) | (rw [if_pos (by omega)]) | (rw [if_neg (by omega)]))
            have q_20 : (masL σ st dM mE mA ((exL σ le).take (i + 1))).1 = ((masL σ st dM mE mA ((exL σ le).take i)).1 + (worth σ b_15 dM)) := by first | rfl | (rw [masL_s hy_10]; unfold mstep; first | (rw [if_pos (by omega)]; simp [oW, *]; done) | (rw [if_pos (by omega)]) | (rw [if_neg (by omega)]))
            exact ih_3 (i + 1) (by omega) (by omega) ls (lv_sub hl [0, 1, 2, 5, 6, 7] (by first | rfl | (rw [q_19, q_20] <;> rfl)))
  exact loop_2 ((exL σ le).length + 1) 0 (by omega) (by omega) ls (lv_sub hl [0, 1, 2, 3, 4, 5] (by first | rfl | (rw [List.take_zero] <;> rfl)))
set_option maxHeartbeats 4000000 in
set_option maxRecDepth 100000 in
theorem c_X9_isWithin (l : Launch) (G : GT) (v lo hi : Int32) : rM l yX9_isWithin cX9_isWithin 3 ((Option.some FieldType.boolean)) 0 G [.int v, .int lo, .int hi] (fun H => True) (some (.int (bI (inB v lo hi)))) := by
  refine mk_m (by decide) (Nat.le_of_ble_eq_true rfl) ?_
  intro p e s m args below meth c X ls hl g0 F hnm
  have hK := g0.1
  have hl : lv_has ls 3 [(0, .int v), (1, .int lo), (2, .int hi)] := hl
  show Wr p l e 0 s m args below meth c (some (.int (bI (inB v lo hi)))) 0 ls []
  refine lv_iload_n X.ex X.co dX9_isWithin_0 rfl (lv_at hl 0 rfl) ?_
  refine lv_iload_n X.ex X.co dX9_isWithin_1 rfl (lv_at hl 1 rfl) ?_
  refine lv_icmp_lt (tgt := 14) X.ex X.co dX9_isWithin_2 (by decide) (fun c_1 => ?_) (fun c_1 => ?_)
  · refine lv_iconst (v := 0) X.ex X.co dX9_isWithin_14 (by decide) ?_
    exact r_i X rfl (by decide) (by simp [inB, bI, *]) dX9_isWithin_15
  · refine lv_iload_n X.ex X.co dX9_isWithin_5 rfl (lv_at hl 0 rfl) ?_
    refine lv_iload_n X.ex X.co dX9_isWithin_6 rfl (lv_at hl 2 rfl) ?_
    refine lv_icmp_gt (tgt := 14) X.ex X.co dX9_isWithin_7 (by decide) (fun c_2 => ?_) (fun c_2 => ?_)
    · refine lv_iconst (v := 0) X.ex X.co dX9_isWithin_14 (by decide) ?_
      exact r_i X rfl (by decide) (by simp [inB, bI, *]) dX9_isWithin_15
    · refine lv_iconst (v := 1) X.ex X.co dX9_isWithin_10 (by decide) ?_
      refine lv_goto (tgt := 15) X.ex X.co dX9_isWithin_11 (by decide) ?_
      exact r_i X rfl (by decide) (by simp [inB, bI, *]) dX9_isWithin_15
set_option maxHeartbeats 4000000 in
set_option maxRecDepth 100000 in
theorem c_X9_hasLesson (l : Launch) (G : GT) (sm : Int32) (i : Nat) : rM l yX9_hasLesson cX9_hasLesson 2 ((Option.some FieldType.boolean)) 0 G [.int sm, .int (nI i)] (fun H => True) (some (.int (bI (bitU sm i)))) := by
  refine mk_m (by decide) (Nat.le_of_ble_eq_true rfl) ?_
  intro p e s m args below meth c X ls hl g0 F hnm
  have hK := g0.1
  have hl : lv_has ls 2 [(0, .int sm), (1, .int (nI i))] := hl
  show Wr p l e 0 s m args below meth c (some (.int (bI (bitU sm i)))) 0 ls []
  refine lv_iload_n X.ex X.co dX9_hasLesson_0 rfl (lv_at hl 0 rfl) ?_
  refine lv_iload_n X.ex X.co dX9_hasLesson_1 rfl (lv_at hl 1 rfl) ?_
  refine lv_iushr X.ex X.co dX9_hasLesson_2 rfl ?_
  refine lv_iconst (v := 1) X.ex X.co dX9_hasLesson_3 (by decide) ?_
  refine lv_iand X.ex X.co dX9_hasLesson_4 ?_
  refine lv_iconst (v := 1) X.ex X.co dX9_hasLesson_5 (by decide) ?_
  refine lv_icmp_ne (tgt := 13) X.ex X.co dX9_hasLesson_6 (by decide) (fun c_1 => ?_) (fun c_1 => ?_)
  · refine lv_iconst (v := 0) X.ex X.co dX9_hasLesson_13 (by decide) ?_
    exact r_i X rfl (by decide) (by simp [bitU, bI, *]) dX9_hasLesson_14
  · refine lv_iconst (v := 1) X.ex X.co dX9_hasLesson_9 (by decide) ?_
    refine lv_goto (tgt := 14) X.ex X.co dX9_hasLesson_10 (by decide) ?_
    exact r_i X rfl (by decide) (by simp [bitU, bI, *]) dX9_hasLesson_14
set_option maxHeartbeats 4000000 in
set_option maxRecDepth 100000 in
theorem c_X9_areLessons (l : Launch) (G : GT) (A : Nat → Prop) (g : CG) (ad : I2 → Nat) (σ : Sg) (hI0 : MI0 σ) (hC : CL g σ) (v : Int32) : rM l yX9_areLessons cX9_areLessons 2 ((Option.some FieldType.boolean)) 1 G [.ref (ad (0, 0)), .int v] (fun H => cw G g A ad σ H) (some (.int (bI (areU v (nLe σ))))) := by
  refine mk_m (by decide) (Nat.le_of_ble_eq_true rfl) ?_
  intro p e s m args below meth c X ls hl g0 F hnm
  have hK := g0.1
  obtain ⟨b1, b2, b3, b4, b5, b6, b7⟩ := hI0.1
  have hl : lv_has ls 2 [(0, .ref (ad (0, 0))), (1, .int v)] := hl
  show Wr p l e 1 s m args below meth c (some (.int (bI (areU v (nLe σ))))) 0 ls []
  refine lv_iload_n X.ex X.co dX9_areLessons_0 rfl (lv_at hl 1 rfl) ?_
  refine lv_aload_n X.ex X.co dX9_areLessons_1 rfl (lv_at hl 0 rfl) ?_
  refine f_get X hK (cw_be F) okX9 rfl 2 (by decide) m_108 (fun _ h => h) (v := .ref (ad (1, 2))) rfl dX9_areLessons_2 ?_
  refine q_rV X ce_Jx4a65c_size_8abf5 m_144 (c_Jx4a65c_size_8abf5 l G (ad (1, 2)) (g.2.1 (2)) (lrow G g ad (2)) (nLe σ)) g0 (cw_lsn F (k := 2) (n := nLe σ) (Or.inl (by omega)) rng_len) (cw_lsn F (k := 2) (n := nLe σ) (Or.inl (by omega)) rng_len) rfl (by decide) rfl hl.1 rfl (Nat.le_of_ble_eq_true rfl) dX9_areLessons_5 (by omega) (by omega) ?_
  refine lv_iushr X.ex X.co dX9_areLessons_8 rfl ?_
  refine lv_if_ne (tgt := 16) X.ex X.co dX9_areLessons_9 (by decide) (fun c_1 => ?_) (fun c_1 => ?_)
  · refine lv_iconst (v := 0) X.ex X.co dX9_areLessons_16 (by decide) ?_
    exact r_i X rfl (by decide) (by simp [areU, bI, *]) dX9_areLessons_17
  · refine lv_iconst (v := 1) X.ex X.co dX9_areLessons_12 (by decide) ?_
    refine lv_goto (tgt := 17) X.ex X.co dX9_areLessons_13 (by decide) ?_
    exact r_i X rfl (by decide) (by simp [areU, bI, *]) dX9_areLessons_17
set_option maxHeartbeats 4000000 in
set_option maxRecDepth 100000 in
theorem c_X9_hasMastery (l : Launch) (G : GT) (A : Nat → Prop) (g : CG) (ad : I2 → Nat) (σ : Sg) (hI0 : MI0 σ) (hC : CL g σ) (hgr : ∀ a, a < nAn σ → g.2.2.1 0 a = grade σ a) (st mo mE mA : Nat) (sm lst dM : Int32) (hst : st < nSt σ) (hmE : mE ≤ nEx σ) (hmA : mA ≤ nAn σ) : rM l yX9_hasMastery cX9_hasMastery 6 ((Option.some FieldType.boolean)) 5 G [.ref (ad (0, 0)), .ref (ad (4, st)), .int sm, .int lst, .ref mo] (fun H => cw G g A ad σ H ∧ va_at G.1 vwCl (mo, eMo dM mE mA) H) (some (.int (bI (hasS σ st sm lst dM mE mA (nLe σ))))) := by
  refine mk_m (by decide) (Nat.le_of_ble_eq_true rfl) ?_
  intro p e s m args below meth c X ls hl g0 F hnm
  have hK := g0.1
  obtain ⟨F, hmo⟩ := F
  obtain ⟨b1, b2, b3, b4, b5, b6, b7⟩ := hI0.1
  have hl : lv_has ls 6 [(0, .ref (ad (0, 0))), (1, .ref (ad (4, st))), (2, .int sm), (3, .int lst), (4, .ref mo)] := hl
  show Wr p l e 5 s m args below meth c (some (.int (bI (hasS σ st sm lst dM mE mA (nLe σ))))) 0 ls []
  refine lv_iconst (v := 0) X.ex X.co dX9_hasMastery_0 (by decide) ?_
  refine lv_istore (lv' := [(5, .int 0), (0, .ref (ad (0, 0))), (1, .ref (ad (4, st))), (2, .int sm), (3, .int lst), (4, .ref mo)]) X.ex X.co dX9_hasMastery_1 hl (by decide) rfl (fun ls hl => ?_)
  have loop_2 : ∀ (fu_1 i : Nat), i ≤ nLe σ ∧ hasS σ st sm lst dM mE mA i = true → nLe σ < i + fu_1 → ∀ ls : Array Slot, lv_has ls 6 [(5, .int (nI i)), (0, .ref (ad (0, 0))), (1, .ref (ad (4, st))), (2, .int sm), (3, .int lst), (4, .ref mo)] → Wr p l e 5 s m args below meth c (some (.int (bI (hasS σ st sm lst dM mE mA (nLe σ))))) 3 ls [] := by
    intro fu_1
    induction fu_1 with
    | zero => intro i h_4 h_5; exact absurd h_5 (by omega)
    | succ fu_1 ih_3 =>
      intro i h_4 h_5 ls hl
      refine lv_iload X.ex X.co dX9_hasMastery_3 (lv_at hl 0 rfl) ?_
      refine lv_aload_n X.ex X.co dX9_hasMastery_5 rfl (lv_at hl 1 rfl) ?_
      refine f_get X hK (cw_be F) okX9 rfl 2 (by decide) m_108 (fun _ h => h) (v := .ref (ad (1, 2))) rfl dX9_hasMastery_6 ?_
      refine q_rV X ce_Jx4a65c_size_8abf5 m_144 (c_Jx4a65c_size_8abf5 l G (ad (1, 2)) (g.2.1 (2)) (lrow G g ad (2)) (nLe σ)) g0 (cw_lsn F (k := 2) (n := nLe σ) (Or.inl (by omega)) rng_len) (cw_lsn F (k := 2) (n := nLe σ) (Or.inl (by omega)) rng_len) rfl (by decide) rfl hl.1 rfl (Nat.le_of_ble_eq_true rfl) dX9_hasMastery_9 (by omega) (by omega) ?_
      refine n_cmp_ge X (x := i) (y := nLe σ) (tgt := 54) (by omega) (by omega) dX9_hasMastery_12 (by decide) (fun c_6 => ?_) (fun c_6 => ?_)
      · have hz9 : hasS σ st sm lst dM mE mA (nLe σ) = true := by rw [show nLe σ = i by omega]; exact h_4.2
        refine lv_iconst (v := 1) X.ex X.co dX9_hasMastery_54 (by decide) ?_
        exact r_i X rfl (by decide) (by rw [hz9]; rfl) dX9_hasMastery_55
      · refine lv_iload_n X.ex X.co dX9_hasMastery_15 rfl (lv_at hl 3 rfl) ?_
        refine lv_iload X.ex X.co dX9_hasMastery_16 (lv_at hl 0 rfl) ?_
        refine q_rS X ce_X9_hasLesson m_668 (c_X9_hasLesson l G sm i) g0 trivial (by decide) rfl hl.1 rfl (Nat.le_of_ble_eq_true rfl) dX9_hasMastery_18 (by omega) (by omega) ?_
        refine b_if_eq X (x := bitU sm i) (tgt := 48) dX9_hasMastery_21 (by decide) (fun c_7 => ?_) (fun c_7 => ?_)
        · refine lv_iinc (v := nI (i + 1)) (lv' := [(5, .int (nI (i + 1))), (0, .ref (ad (0, 0))), (1, .ref (ad (4, st))), (2, .int sm), (3, .int lst), (4, .ref mo)]) X.ex X.co dX9_hasMastery_48 hl (k := 0) rfl (n_inc _) (by decide) rfl (fun ls hl => ?_)
          refine lv_goto (tgt := 3) X.ex X.co dX9_hasMastery_51 (by decide) ?_
          exact ih_3 (i + 1) ⟨by omega, by simp [hasS, *]⟩ (by omega) ls (lv_sub hl [0, 1, 2, 3, 4, 5] rfl)
        · refine lv_aload_n X.ex X.co dX9_hasMastery_24 rfl (lv_at hl 1 rfl) ?_
          refine f_get X hK (cw_be F) okX9 rfl 2 (by decide) m_108 (fun _ h => h) (v := .ref (ad (1, 2))) rfl dX9_hasMastery_25 ?_
          refine lv_iload X.ex X.co dX9_hasMastery_28 (lv_at hl 0 rfl) ?_
          refine q_rV X ce_Jx4a65c_get_915e3 m_164 (c_getR l G (ad (1, 2)) (g.2.1 (2)) (lrow G g ad (2)) (nLe σ) (g.1 (2)) (cont (lstN σ (2)) ad) i (by omega) (cl_n hC (Or.inl (by omega)) rng_len) (cl_q hC (Or.inl (by omega))) (cont_get (j := (5, i)) (rng_get (k := 5) (show i < nLe σ by omega)))) g0 (cw_get F hC (k := 2) (x := i) (n := nLe σ) (Or.inl (by omega)) rng_len (by omega)) (cw_get F hC (k := 2) (x := i) (n := nLe σ) (Or.inl (by omega)) rng_len (by omega)).1 rfl (by decide) rfl hl.1 rfl (Nat.le_of_ble_eq_true rfl) dX9_hasMastery_30 (by omega) (by omega) ?_
          refine f_castS X hK (cw_le F (i := i) (by omega)) rfl m_231 dX9_hasMastery_33 ?_
          refine lv_aload_n X.ex X.co dX9_hasMastery_36 rfl (lv_at hl 2 rfl) ?_
          refine lv_aload X.ex X.co dX9_hasMastery_37 (lv_at hl 5 rfl) ?_
          refine q_rV X ce_X5_masteryAt m_232 (c_X5_masteryAt l G A g ad σ hI0 hC hgr st i mo mE mA dM (by omega) (by omega) (by omega) (by omega)) g0 ⟨F, hmo⟩ (cw_le F (i := i) (by omega)) rfl (by decide) rfl hl.1 rfl (Nat.le_of_ble_eq_true rfl) dX9_hasMastery_39 (by omega) (by omega) ?_
          refine lv_iload_n X.ex X.co dX9_hasMastery_42 rfl (lv_at hl 4 rfl) ?_
          refine lv_icmp_ge (tgt := 48) X.ex X.co dX9_hasMastery_43 (by decide) (fun c_8 => ?_) (fun c_8 => ?_)
          · refine lv_iinc (v := nI (i + 1)) (lv' := [(5, .int (nI (i + 1))), (0, .ref (ad (0, 0))), (1, .ref (ad (4, st))), (2, .int sm), (3, .int lst), (4, .ref mo)]) X.ex X.co dX9_hasMastery_48 hl (k := 0) rfl (n_inc _) (by decide) rfl (fun ls hl => ?_)
            refine lv_goto (tgt := 3) X.ex X.co dX9_hasMastery_51 (by decide) ?_
            exact ih_3 (i + 1) ⟨by omega, by simp [hasS, *]⟩ (by omega) ls (lv_sub hl [0, 1, 2, 3, 4, 5] rfl)
          · refine lv_iconst (v := 0) X.ex X.co dX9_hasMastery_46 (by decide) ?_
            exact r_i X rfl (by decide) (by rw [hasS_m (show i < nLe σ by omega) (by assumption) (lt_of_nle (by assumption))]; rfl) dX9_hasMastery_47
  exact loop_2 (nLe σ + 1) 0 ⟨by omega, rfl⟩ (by omega) ls (lv_sub hl [0, 1, 2, 3, 4, 5] rfl)
set_option maxHeartbeats 4000000 in
set_option maxRecDepth 100000 in
theorem c_X9_isOpen (l : Launch) (G : GT) (A : Nat → Prop) (g : CG) (ad : I2 → Nat) (σ : Sg) (hI0 : MI0 σ) (hC : CL g σ) (hgr : ∀ a, a < nAn σ → g.2.2.1 0 a = grade σ a) (le st mo mE mA : Nat) (dM : Int32) (hle : le < nLe σ) (hst : st < nSt σ) (hmE : mE ≤ nEx σ) (hmA : mA ≤ nAn σ) : rM l yX9_isOpen cX9_isOpen 4 ((Option.some FieldType.boolean)) 6 G [.ref (ad (0, 0)), .ref (ad (5, le)), .ref (ad (4, st)), .ref mo] (fun H => cw G g A ad σ H ∧ va_at G.1 vwCl (mo, eMo dM mE mA) H) (some (.int (bI (hasS σ st (σ.2 8 le) 50 dM mE mA (nLe σ))))) := by
  refine mk_m (by decide) (Nat.le_of_ble_eq_true rfl) ?_
  intro p e s m args below meth c X ls hl g0 F hnm
  have hK := g0.1
  obtain ⟨F, hmo⟩ := F
  obtain ⟨b1, b2, b3, b4, b5, b6, b7⟩ := hI0.1
  have hl : lv_has ls 4 [(0, .ref (ad (0, 0))), (1, .ref (ad (5, le))), (2, .ref (ad (4, st))), (3, .ref mo)] := hl
  show Wr p l e 6 s m args below meth c (some (.int (bI (hasS σ st (σ.2 8 le) 50 dM mE mA (nLe σ))))) 0 ls []
  refine lv_aload_n X.ex X.co dX9_isOpen_0 rfl (lv_at hl 0 rfl) ?_
  refine lv_aload_n X.ex X.co dX9_isOpen_1 rfl (lv_at hl 2 rfl) ?_
  refine lv_aload_n X.ex X.co dX9_isOpen_2 rfl (lv_at hl 1 rfl) ?_
  refine f_get X hK (cw_le F (i := le) (by omega)) okX5 rfl 0 (by decide) m_526 (fun _ h => h) (v := .int (σ.2 8 le)) rfl dX9_isOpen_3 ?_
  refine lv_bipush (v := 50) X.ex X.co dX9_isOpen_6 (by decide) ?_
  refine lv_aload_n X.ex X.co dX9_isOpen_8 rfl (lv_at hl 3 rfl) ?_
  refine q_rV X ce_X9_hasMastery m_664 (c_X9_hasMastery l G A g ad σ hI0 hC hgr st mo mE mA (σ.2 8 le) 50 dM (by omega) (by omega) (by omega)) g0 ⟨F, hmo⟩ (cw_be F) rfl (by decide) rfl hl.1 rfl (Nat.le_of_ble_eq_true rfl) dX9_isOpen_9 (by omega) (by omega) ?_
  exact r_i X rfl (bI_nar _) rfl dX9_isOpen_12
set_option maxHeartbeats 4000000 in
set_option maxRecDepth 100000 in
theorem c_X9_bestWorthByRules (l : Launch) (G : GT) (A : Nat → Prop) (g : CG) (ad : I2 → Nat) (σ : Sg) (hI0 : MI0 σ) (hC : CL g σ) (st ex : Nat) (hst : st < nSt σ) (hx : ex < nEx σ) : rM l yX9_bestWorthByRules cX9_bestWorthByRules 6 ((Option.some FieldType.int)) 3 G [.ref (ad (0, 0)), .ref (ad (4, st)), .ref (ad (6, ex))] (fun H => cw G g A ad σ H) (some (.int (oW σ (dayV σ) (bestS σ st ex (dayV σ) (nAn σ))))) := by
  refine mk_m (by decide) (Nat.le_of_ble_eq_true rfl) ?_
  intro p e s m args below meth c X ls hl g0 F hnm
  have hK := g0.1
  obtain ⟨b1, b2, b3, b4, b5, b6, b7⟩ := hI0.1
  have hl : lv_has ls 6 [(0, .ref (ad (0, 0))), (1, .ref (ad (4, st))), (2, .ref (ad (6, ex)))] := hl
  show Wr p l e 3 s m args below meth c (some (.int (oW σ (dayV σ) (bestS σ st ex (dayV σ) (nAn σ))))) 0 ls []
  refine lv_iconst (v := 0) X.ex X.co dX9_bestWorthByRules_0 (by decide) ?_
  refine lv_istore_n (lv' := [(3, .int 0), (0, .ref (ad (0, 0))), (1, .ref (ad (4, st))), (2, .ref (ad (6, ex)))]) X.ex X.co dX9_bestWorthByRules_1 rfl hl (by decide) rfl (fun ls hl => ?_)
  refine lv_iconst (v := 0) X.ex X.co dX9_bestWorthByRules_2 (by decide) ?_
  refine lv_istore (lv' := [(4, .int 0), (3, .int 0), (0, .ref (ad (0, 0))), (1, .ref (ad (4, st))), (2, .ref (ad (6, ex)))]) X.ex X.co dX9_bestWorthByRules_3 hl (by decide) rfl (fun ls hl => ?_)
  have loop_2 : ∀ (fu_1 i : Nat), i ≤ nAn σ → nAn σ < i + fu_1 → ∀ ls : Array Slot, lv_has ls 6 [(4, .int (nI i)), (3, .int (oW σ (dayV σ) (bestS σ st ex (dayV σ) i))), (0, .ref (ad (0, 0))), (1, .ref (ad (4, st))), (2, .ref (ad (6, ex)))] → Wr p l e 3 s m args below meth c (some (.int (oW σ (dayV σ) (bestS σ st ex (dayV σ) (nAn σ))))) 5 ls [] := by
    intro fu_1
    induction fu_1 with
    | zero => intro i h_4 h_5; exact absurd h_5 (by omega)
    | succ fu_1 ih_3 =>
      intro i h_4 h_5 ls hl
      refine lv_iload X.ex X.co dX9_bestWorthByRules_5 (lv_at hl 0 rfl) ?_
      refine lv_aload_n X.ex X.co dX9_bestWorthByRules_7 rfl (lv_at hl 2 rfl) ?_
      refine f_get X hK (cw_be F) okX9 rfl 4 (by decide) m_110 (fun _ h => h) (v := .ref (ad (1, 4))) rfl dX9_bestWorthByRules_8 ?_
      refine q_rV X ce_Jx4a65c_size_8abf5 m_144 (c_Jx4a65c_size_8abf5 l G (ad (1, 4)) (g.2.1 (4)) (lrow G g ad (4)) (nAn σ)) g0 (cw_lsn F (k := 4) (n := nAn σ) (Or.inl (by omega)) rng_len) (cw_lsn F (k := 4) (n := nAn σ) (Or.inl (by omega)) rng_len) rfl (by decide) rfl hl.1 rfl (Nat.le_of_ble_eq_true rfl) dX9_bestWorthByRules_11 (by omega) (by omega) ?_
      refine n_cmp_ge X (x := i) (y := nAn σ) (tgt := 74) (by omega) (by omega) dX9_bestWorthByRules_14 (by decide) (fun c_6 => ?_) (fun c_6 => ?_)
      · have hq_7 : i = nAn σ := by omega
        rw [hq_7] at hl
        refine lv_iload_n X.ex X.co dX9_bestWorthByRules_74 rfl (lv_at hl 1 rfl) ?_
        exact r_i X rfl rfl rfl dX9_bestWorthByRules_75
      · refine lv_aload_n X.ex X.co dX9_bestWorthByRules_17 rfl (lv_at hl 2 rfl) ?_
        refine f_get X hK (cw_be F) okX9 rfl 4 (by decide) m_110 (fun _ h => h) (v := .ref (ad (1, 4))) rfl dX9_bestWorthByRules_18 ?_
        refine lv_iload X.ex X.co dX9_bestWorthByRules_21 (lv_at hl 0 rfl) ?_
        refine q_rV X ce_Jx4a65c_get_915e3 m_164 (c_getR l G (ad (1, 4)) (g.2.1 (4)) (lrow G g ad (4)) (nAn σ) (g.1 (4)) (cont (lstN σ (4)) ad) i (by omega) (cl_n hC (Or.inl (by omega)) rng_len) (cl_q hC (Or.inl (by omega))) (cont_get (j := (7, i)) (rng_get (k := 7) (show i < nAn σ by omega)))) g0 (cw_get F hC (k := 4) (x := i) (n := nAn σ) (Or.inl (by omega)) rng_len (by omega)) (cw_get F hC (k := 4) (x := i) (n := nAn σ) (Or.inl (by omega)) rng_len (by omega)).1 rfl (by decide) rfl hl.1 rfl (Nat.le_of_ble_eq_true rfl) dX9_bestWorthByRules_23 (by omega) (by omega) ?_
        refine f_castS X hK (cw_an F (i := i) (by omega)) rfl m_187 dX9_bestWorthByRules_26 ?_
        refine lv_astore (lv' := [(5, .ref (ad (7, i))), (4, .int (nI i)), (3, .int (oW σ (dayV σ) (bestS σ st ex (dayV σ) i))), (0, .ref (ad (0, 0))), (1, .ref (ad (4, st))), (2, .ref (ad (6, ex)))]) X.ex X.co dX9_bestWorthByRules_29 hl (by decide) rfl (fun ls hl => ?_)
        refine lv_aload X.ex X.co dX9_bestWorthByRules_31 (lv_at hl 0 rfl) ?_
        refine f_get X hK (cw_an F (i := i) (by omega)) okX0 rfl 1 (by decide) m_717 (fun _ h => h) (v := .ref (ad (4, stu σ i))) rfl dX9_bestWorthByRules_33 ?_
        have hf_f_8 := hI0.an (i := i) (by omega)
        refine lv_aload_n X.ex X.co dX9_bestWorthByRules_36 rfl (lv_at hl 4 rfl) ?_
        refine lv_acmp_ne (rx := some (ad (4, stu σ i))) (ry := some (ad (4, st))) (tgt := 68) X.ex X.co dX9_bestWorthByRules_37 (by decide) (fun c_9 => ?_) (fun c_9 => ?_)
        · have hq_10 : ¬ stu σ i = st := fun z => c_9 (by rw [z])
          refine lv_iinc (v := nI (i + 1)) (lv' := [(4, .int (nI (i + 1))), (5, .ref (ad (7, i))), (3, .int (oW σ (dayV σ) (bestS σ st ex (dayV σ) i))), (0, .ref (ad (0, 0))), (1, .ref (ad (4, st))), (2, .ref (ad (6, ex)))]) X.ex X.co dX9_bestWorthByRules_68 hl (k := 1) rfl (n_inc _) (by decide) rfl (fun ls hl => ?_)
          refine lv_goto (tgt := 5) X.ex X.co dX9_bestWorthByRules_71 (by decide) ?_
          have q_11 : (oW σ (dayV σ) (bestS σ st ex (dayV σ) (i + 1))) = (oW σ (dayV σ) (bestS σ st ex (dayV σ) i)) := by first | rfl | exact bw_s ⟨by assumption, by assumption⟩ | (rw [bw_n (fun z => by first | exact absurd z.1 (by assumption) | exact absurd z.2 (by assumption))])
          exact ih_3 (i + 1) (by omega) (by omega) ls (lv_sub hl [0, 2, 3, 4, 5] (by first | rfl | (rw [q_11] <;> rfl)))
        · have hq_10 : stu σ i = st := cw_inj F (k := 4) (show _ < _ by omega) (show _ < _ by omega) c_9
          refine lv_aload X.ex X.co dX9_bestWorthByRules_40 (lv_at hl 0 rfl) ?_
          refine f_get X hK (cw_an F (i := i) (by omega)) okX0 rfl 2 (by decide) m_719 (fun _ h => h) (v := .ref (ad (6, exe σ i))) rfl dX9_bestWorthByRules_42 ?_
          have hf_f_12 := hI0.an (i := i) (by omega); have hg_f_12 := hI0.ex (i := exe σ i) (by omega)
          refine lv_aload_n X.ex X.co dX9_bestWorthByRules_45 rfl (lv_at hl 5 rfl) ?_
          refine lv_acmp_ne (rx := some (ad (6, exe σ i))) (ry := some (ad (6, ex))) (tgt := 68) X.ex X.co dX9_bestWorthByRules_46 (by decide) (fun c_13 => ?_) (fun c_13 => ?_)
          · have hq_14 : ¬ exe σ i = ex := fun z => c_13 (by rw [z])
            refine lv_iinc (v := nI (i + 1)) (lv' := [(4, .int (nI (i + 1))), (5, .ref (ad (7, i))), (3, .int (oW σ (dayV σ) (bestS σ st ex (dayV σ) i))), (0, .ref (ad (0, 0))), (1, .ref (ad (4, st))), (2, .ref (ad (6, ex)))]) X.ex X.co dX9_bestWorthByRules_68 hl (k := 1) rfl (n_inc _) (by decide) rfl (fun ls hl => ?_)
            refine lv_goto (tgt := 5) X.ex X.co dX9_bestWorthByRules_71 (by decide) ?_
            have q_15 : (oW σ (dayV σ) (bestS σ st ex (dayV σ) (i + 1))) = (oW σ (dayV σ) (bestS σ st ex (dayV σ) i)) := by first | rfl | exact bw_s ⟨by assumption, by assumption⟩ | (rw [bw_n (fun z => by first | exact absurd z.1 (by assumption) | exact absurd z.2 (by assumption))])
            exact ih_3 (i + 1) (by omega) (by omega) ls (lv_sub hl [0, 2, 3, 4, 5] (by first | rfl | (rw [q_15] <;> rfl)))
          · have hq_14 : exe σ i = ex := cw_inj F (k := 6) (show _ < _ by omega) (show _ < _ by omega) c_13
            refine lv_iload_n X.ex X.co dX9_bestWorthByRules_49 rfl (lv_at hl 2 rfl) ?_
            refine lv_aload X.ex X.co dX9_bestWorthByRules_50 (lv_at hl 0 rfl) ?_
            refine lv_aload X.ex X.co dX9_bestWorthByRules_52 (lv_at hl 0 rfl) ?_
            have g_16_1 := hI0.an (i := i) (by omega); have g_16_2 := hI0.ex (i := exe σ i) (by omega); have g_16_3 := allS_b hI0 (e := exe σ i) (by omega) _ (Nat.le_refl _)
            refine q_rV X ce_X0_gradeByRule m_188 (c_X0_gradeByRule l G ad σ (ad (7, i)) (ad (12, i)) (exe σ i) (σ.2 22 i) (σ.2 23 i) (σ.2 25 i) (by omega) (by omega)) g0 ⟨cw_exC F (i := exe σ i) (by omega), cw_an F (i := i) (by omega), cw_ra F (i := i) (by omega)⟩ (cw_an F (i := i) (by omega)) rfl (by decide) rfl hl.1 rfl (Nat.le_of_ble_eq_true rfl) dX9_bestWorthByRules_54 (by omega) (by omega) ?_
            refine top_eq (y := grade σ i) (grade_R hI0 (by omega)) ?_
            refine lv_aload_n X.ex X.co dX9_bestWorthByRules_57 rfl (lv_at hl 3 rfl) ?_
            refine f_get X hK (cw_be F) okX9 rfl 10 (by decide) m_116 (fun _ h => h) (v := .int (dayV σ)) rfl dX9_bestWorthByRules_58 ?_
            have g_17_1 := hI0.an (i := i) (by omega); have g_17_2 := hI0.ex (i := exe σ i) (by omega)
            refine q_rV X ce_X0_worth m_263 (c_X0_worth l G ad σ (ad (7, i)) (exe σ i) (grade σ i) (dayV σ) (σ.2 24 i)) g0 ⟨cw_an F (i := i) (by omega), cw_ex F (i := exe σ i) (by omega), cw_le F (i := les σ (exe σ i)) (by omega)⟩ (cw_an F (i := i) (by omega)) rfl (by decide) rfl hl.1 rfl (Nat.le_of_ble_eq_true rfl) dX9_bestWorthByRules_61 (by omega) (by omega) ?_
            refine top_eq (y := worth σ i (dayV σ)) (worth_V σ i (dayV σ)) ?_
            refine f_max X hl.1 m_264 (Nat.le_of_ble_eq_true rfl) (Nat.le_of_ble_eq_true rfl) (by show _ ≤ 0; omega) (by show _ ≤ 0; omega) dX9_bestWorthByRules_64 ?_
            refine lv_istore_n (lv' := [(3, .int (if (oW σ (dayV σ) (bestS σ st ex (dayV σ) i)) < (worth σ i (dayV σ)) then (worth σ i (dayV σ)) else (oW σ (dayV σ) (bestS σ st ex (dayV σ) i)))), (5, .ref (ad (7, i))), (4, .int (nI i)), (0, .ref (ad (0, 0))), (1, .ref (ad (4, st))), (2, .ref (ad (6, ex)))]) X.ex X.co dX9_bestWorthByRules_67 rfl hl (by decide) rfl (fun ls hl => ?_)
            refine lv_iinc (v := nI (i + 1)) (lv' := [(4, .int (nI (i + 1))), (3, .int (if (oW σ (dayV σ) (bestS σ st ex (dayV σ) i)) < (worth σ i (dayV σ)) then (worth σ i (dayV σ)) else (oW σ (dayV σ) (bestS σ st ex (dayV σ) i)))), (5, .ref (ad (7, i))), (0, .ref (ad (0, 0))), (1, .ref (ad (4, st))), (2, .ref (ad (6, ex)))]) X.ex X.co dX9_bestWorthByRules_68 hl (k := 2) rfl (n_inc _) (by decide) rfl (fun ls hl => ?_)
            refine lv_goto (tgt := 5) X.ex X.co dX9_bestWorthByRules_71 (by decide) ?_
            have q_18 : (oW σ (dayV σ) (bestS σ st ex (dayV σ) (i + 1))) = (if (oW σ (dayV σ) (bestS σ st ex (dayV σ) i)) < (worth σ i (dayV σ)) then (worth σ i (dayV σ)) else (oW σ (dayV σ) (bestS σ st ex (dayV σ) i))) := by first | rfl | exact bw_s ⟨by assumption, by assumption⟩ | (rw [bw_n (fun z => by first | exact absurd z.1 (by assumption) | exact absurd z.2 (by assumption))])
            exact ih_3 (i + 1) (by omega) (by omega) ls (lv_sub hl [0, 1, 3, 4, 5] (by first | rfl | (rw [q_18] <;> rfl)))
  exact loop_2 (nAn σ + 1) 0 (by omega) (by omega) ls (lv_sub hl [0, 1, 2, 3, 4] rfl)
set_option maxHeartbeats 4000000 in
set_option maxRecDepth 100000 in
theorem c_X9_masteryByRules (l : Launch) (G : GT) (A : Nat → Prop) (g : CG) (ad : I2 → Nat) (σ : Sg) (hI0 : MI0 σ) (hC : CL g σ) (st le : Nat) (hst : st < nSt σ) (hle : le < nLe σ) : rM l yX9_masteryByRules cX9_masteryByRules 6 ((Option.some FieldType.int)) 4 G [.ref (ad (0, 0)), .ref (ad (4, st)), .ref (ad (5, le))] (fun H => cw G g A ad σ H) (some (.int (masNow σ st le))) := by
  refine mk_m (by decide) (Nat.le_of_ble_eq_true rfl) ?_
  intro p e s m args below meth c X ls hl g0 F hnm
  have hK := g0.1
  obtain ⟨b1, b2, b3, b4, b5, b6, b7⟩ := hI0.1
  have hl : lv_has ls 6 [(0, .ref (ad (0, 0))), (1, .ref (ad (4, st))), (2, .ref (ad (5, le)))] := hl
  show Wr p l e 4 s m args below meth c (some (.int (masNow σ st le))) 0 ls []
  refine lv_iconst (v := 0) X.ex X.co dX9_masteryByRules_0 (by decide) ?_
  refine lv_istore_n (lv' := [(3, .int 0), (0, .ref (ad (0, 0))), (1, .ref (ad (4, st))), (2, .ref (ad (5, le)))]) X.ex X.co dX9_masteryByRules_1 rfl hl (by decide) rfl (fun ls hl => ?_)
  refine lv_iconst (v := 0) X.ex X.co dX9_masteryByRules_2 (by decide) ?_
  refine lv_istore (lv' := [(4, .int 0), (3, .int 0), (0, .ref (ad (0, 0))), (1, .ref (ad (4, st))), (2, .ref (ad (5, le)))]) X.ex X.co dX9_masteryByRules_3 hl (by decide) rfl (fun ls hl => ?_)
  refine lv_iconst (v := 0) X.ex X.co dX9_masteryByRules_5 (by decide) ?_
  refine lv_istore (lv' := [(5, .int 0), (4, .int 0), (3, .int 0), (0, .ref (ad (0, 0))), (1, .ref (ad (4, st))), (2, .ref (ad (5, le)))]) X.ex X.co dX9_masteryByRules_6 hl (by decide) rfl (fun ls hl => ?_)
  have loop_2 : ∀ (fu_1 i : Nat), i ≤ nEx σ → nEx σ < i + fu_1 → ∀ ls : Array Slot, lv_has ls 6 [(5, .int (nI i)), (4, .int (nI (masN σ le i))), (3, .int (masT σ st le (dayV σ) (nAn σ) i)), (0, .ref (ad (0, 0))), (1, .ref (ad (4, st))), (2, .ref (ad (5, le)))] → Wr p l e 4 s m args below meth c (some (.int (masNow σ st le))) 8 ls [] := by
    intro fu_1
    induction fu_1 with
    | zero => intro i h_4 h_5; exact absurd h_5 (by omega)
    | succ fu_1 ih_3 =>
      intro i h_4 h_5 ls hl
      have hmn := masN_b σ le i
      refine lv_iload X.ex X.co dX9_masteryByRules_8 (lv_at hl 0 rfl) ?_
      refine lv_aload_n X.ex X.co dX9_masteryByRules_10 rfl (lv_at hl 3 rfl) ?_
      refine f_get X hK (cw_be F) okX9 rfl 3 (by decide) m_109 (fun _ h => h) (v := .ref (ad (1, 3))) rfl dX9_masteryByRules_11 ?_
      refine q_rV X ce_Jx4a65c_size_8abf5 m_144 (c_Jx4a65c_size_8abf5 l G (ad (1, 3)) (g.2.1 (3)) (lrow G g ad (3)) (nEx σ)) g0 (cw_lsn F (k := 3) (n := nEx σ) (Or.inl (by omega)) rng_len) (cw_lsn F (k := 3) (n := nEx σ) (Or.inl (by omega)) rng_len) rfl (by decide) rfl hl.1 rfl (Nat.le_of_ble_eq_true rfl) dX9_masteryByRules_14 (by omega) (by omega) ?_
      refine n_cmp_ge X (x := i) (y := nEx σ) (tgt := 68) (by omega) (by omega) dX9_masteryByRules_17 (by decide) (fun c_6 => ?_) (fun c_6 => ?_)
      · have hq_7 : i = nEx σ := by omega
        rw [hq_7] at hl
        have hmn2 := masN_b σ le (nEx σ)
        refine lv_iload X.ex X.co dX9_masteryByRules_68 (lv_at hl 1 rfl) ?_
        refine n_if_ne X (x := masN σ le (nEx σ)) (tgt := 78) (by omega) dX9_masteryByRules_70 (by decide) (fun c_8 => ?_) (fun c_8 => ?_)
        · refine lv_iload_n X.ex X.co dX9_masteryByRules_78 rfl (lv_at hl 2 rfl) ?_
          refine lv_iload X.ex X.co dX9_masteryByRules_79 (lv_at hl 1 rfl) ?_
          refine lv_idiv X.ex X.co dX9_masteryByRules_81 (nI_nz (by omega) (by omega)) ?_
          exact r_i X rfl rfl (by unfold masNow masBy; rw [if_neg (by omega)]) dX9_masteryByRules_82
        · refine lv_bipush (v := 100) X.ex X.co dX9_masteryByRules_73 (by decide) ?_
          refine lv_goto (tgt := 82) X.ex X.co dX9_masteryByRules_75 (by decide) ?_
          exact r_i X rfl rfl (by unfold masNow masBy; rw [if_pos (by assumption)]) dX9_masteryByRules_82
      · refine lv_aload_n X.ex X.co dX9_masteryByRules_20 rfl (lv_at hl 3 rfl) ?_
        refine f_get X hK (cw_be F) okX9 rfl 3 (by decide) m_109 (fun _ h => h) (v := .ref (ad (1, 3))) rfl dX9_masteryByRules_21 ?_
        refine lv_iload X.ex X.co dX9_masteryByRules_24 (lv_at hl 0 rfl) ?_
        refine q_rV X ce_Jx4a65c_get_915e3 m_164 (c_getR l G (ad (1, 3)) (g.2.1 (3)) (lrow G g ad (3)) (nEx σ) (g.1 (3)) (cont (lstN σ (3)) ad) i (by omega) (cl_n hC (Or.inl (by omega)) rng_len) (cl_q hC (Or.inl (by omega))) (cont_get (j := (6, i)) (rng_get (k := 6) (show i < nEx σ by omega)))) g0 (cw_get F hC (k := 3) (x := i) (n := nEx σ) (Or.inl (by omega)) rng_len (by omega)) (cw_get F hC (k := 3) (x := i) (n := nEx σ) (Or.inl (by omega)) rng_len (by omega)).1 rfl (by decide) rfl hl.1 rfl (Nat.le_of_ble_eq_true rfl) dX9_masteryByRules_26 (by omega) (by omega) ?_
        refine f_castS X hK (cw_ex F (i := i) (by omega)) rfl m_258 dX9_masteryByRules_29 ?_
        refine f_get X hK (cw_ex F (i := i) (by omega)) okX4 rfl 1 (by decide) m_586 (fun _ h => h) (v := .ref (ad (5, les σ i))) rfl dX9_masteryByRules_32 ?_
        have hf_f_9 := hI0.ex (i := i) (by omega)
        refine lv_aload_n X.ex X.co dX9_masteryByRules_35 rfl (lv_at hl 5 rfl) ?_
        refine lv_acmp_ne (rx := some (ad (5, les σ i))) (ry := some (ad (5, le))) (tgt := 62) X.ex X.co dX9_masteryByRules_36 (by decide) (fun c_10 => ?_) (fun c_10 => ?_)
        · have hq_11 : ¬ les σ i = le := fun z => c_10 (by rw [z])
          refine lv_iinc (v := nI (i + 1)) (lv' := [(5, .int (nI (i + 1))), (4, .int (nI (masN σ le i))), (3, .int (masT σ st le (dayV σ) (nAn σ) i)), (0, .ref (ad (0, 0))), (1, .ref (ad (4, st))), (2, .ref (ad (5, le)))]) X.ex X.co dX9_masteryByRules_62 hl (k := 0) rfl (n_inc _) (by decide) rfl (fun ls hl => ?_)
          refine lv_goto (tgt := 8) X.ex X.co dX9_masteryByRules_65 (by decide) ?_
          have q_12 : nI (masN σ le (i + 1)) = nI (masN σ le i) := by first | rfl | simp [masT, masN, *]
          have q_13 : (masT σ st le (dayV σ) (nAn σ) (i + 1)) = (masT σ st le (dayV σ) (nAn σ) i) := by first | rfl | simp [masT, masN, *]
          exact ih_3 (i + 1) (by omega) (by omega) ls (lv_sub hl [0, 1, 2, 3, 4, 5] (by first | rfl | (rw [q_12, q_13] <;> rfl)))
        · have hq_11 : les σ i = le := cw_inj F (k := 5) (show _ < _ by omega) (show _ < _ by omega) c_10
          refine lv_iload_n X.ex X.co dX9_masteryByRules_39 rfl (lv_at hl 2 rfl) ?_
          refine lv_aload_n X.ex X.co dX9_masteryByRules_40 rfl (lv_at hl 3 rfl) ?_
          refine lv_aload_n X.ex X.co dX9_masteryByRules_41 rfl (lv_at hl 4 rfl) ?_
          refine lv_aload_n X.ex X.co dX9_masteryByRules_42 rfl (lv_at hl 3 rfl) ?_
          refine f_get X hK (cw_be F) okX9 rfl 3 (by decide) m_109 (fun _ h => h) (v := .ref (ad (1, 3))) rfl dX9_masteryByRules_43 ?_
          refine lv_iload X.ex X.co dX9_masteryByRules_46 (lv_at hl 0 rfl) ?_
          refine q_rV X ce_Jx4a65c_get_915e3 m_164 (c_getR l G (ad (1, 3)) (g.2.1 (3)) (lrow G g ad (3)) (nEx σ) (g.1 (3)) (cont (lstN σ (3)) ad) i (by omega) (cl_n hC (Or.inl (by omega)) rng_len) (cl_q hC (Or.inl (by omega))) (cont_get (j := (6, i)) (rng_get (k := 6) (show i < nEx σ by omega)))) g0 (cw_get F hC (k := 3) (x := i) (n := nEx σ) (Or.inl (by omega)) rng_len (by omega)) (cw_get F hC (k := 3) (x := i) (n := nEx σ) (Or.inl (by omega)) rng_len (by omega)).1 rfl (by decide) rfl hl.1 rfl (Nat.le_of_ble_eq_true rfl) dX9_masteryByRules_48 (by omega) (by omega) ?_
          refine f_castS X hK (cw_ex F (i := i) (by omega)) rfl m_258 dX9_masteryByRules_51 ?_
          refine q_rV X ce_X9_bestWorthByRules m_259 (c_X9_bestWorthByRules l G A g ad σ hI0 hC st i (by omega) (by omega)) g0 F (cw_be F) rfl (by decide) rfl hl.1 rfl (Nat.le_of_ble_eq_true rfl) dX9_masteryByRules_54 (by omega) (by omega) ?_
          refine lv_iadd X.ex X.co dX9_masteryByRules_57 ?_
          refine lv_istore_n (lv' := [(3, .int ((masT σ st le (dayV σ) (nAn σ) i) + (oW σ (dayV σ) (bestS σ st i (dayV σ) (nAn σ))))), (5, .int (nI i)), (4, .int (nI (masN σ le i))), (0, .ref (ad (0, 0))), (1, .ref (ad (4, st))), (2, .ref (ad (5, le)))]) X.ex X.co dX9_masteryByRules_58 rfl hl (by decide) rfl (fun ls hl => ?_)
          refine lv_iinc (v := nI ((masN σ le i) + 1)) (lv' := [(4, .int (nI ((masN σ le i) + 1))), (3, .int ((masT σ st le (dayV σ) (nAn σ) i) + (oW σ (dayV σ) (bestS σ st i (dayV σ) (nAn σ))))), (5, .int (nI i)), (0, .ref (ad (0, 0))), (1, .ref (ad (4, st))), (2, .ref (ad (5, le)))]) X.ex X.co dX9_masteryByRules_59 hl (k := 2) rfl (n_inc _) (by decide) rfl (fun ls hl => ?_)
          refine lv_iinc (v := nI (i + 1)) (lv' := [(5, .int (nI (i + 1))), (4, .int (nI ((masN σ le i) + 1))), (3, .int ((masT σ st le (dayV σ) (nAn σ) i) + (oW σ (dayV σ) (bestS σ st i (dayV σ) (nAn σ))))), (0, .ref (ad (0, 0))), (1, .ref (ad (4, st))), (2, .ref (ad (5, le)))]) X.ex X.co dX9_masteryByRules_62 hl (k := 2) rfl (n_inc _) (by decide) rfl (fun ls hl => ?_)
          refine lv_goto (tgt := 8) X.ex X.co dX9_masteryByRules_65 (by decide) ?_
          have q_14 : nI (masN σ le (i + 1)) = nI ((masN σ le i) + 1) := by first | rfl | simp [masT, masN, *]
          have q_15 : (masT σ st le (dayV σ) (nAn σ) (i + 1)) = ((masT σ st le (dayV σ) (nAn σ) i) + (oW σ (dayV σ) (bestS σ st i (dayV σ) (nAn σ)))) := by first | rfl | simp [masT, masN, *]
          exact ih_3 (i + 1) (by omega) (by omega) ls (lv_sub hl [0, 1, 2, 3, 4, 5] (by first | rfl | (rw [q_14, q_15] <;> rfl)))
  exact loop_2 (nEx σ + 1) 0 (by omega) (by omega) ls (lv_sub hl [0, 1, 2, 3, 4, 5] rfl)
set_option maxHeartbeats 4000000 in
set_option maxRecDepth 100000 in
theorem c_X9_standingCertificate (l : Launch) (G : GT) (A : Nat → Prop) (g : CG) (ad : I2 → Nat) (σ : Sg) (hI0 : MI0 σ) (hC : CL g σ) (hone : oneS σ) (st cr : Nat) (hst : st < nSt σ) (hcr : cr < nCr σ) : rM l yX9_standingCertificate cX9_standingCertificate 5 ((Option.some (FieldType.object "CourseForge$Certificate"))) 3 G [.ref (ad (0, 0)), .ref (ad (4, st)), .ref (ad (8, cr))] (fun H => cw G g A ad σ H) (some (va_rf ((stdS σ st cr (nCe σ)).map (fun b => ad (9, b))))) := by
  refine mk_m (by decide) (Nat.le_of_ble_eq_true rfl) ?_
  intro p e s m args below meth c X ls hl g0 F hnm
  have hK := g0.1
  obtain ⟨b1, b2, b3, b4, b5, b6, b7⟩ := hI0.1
  have hl : lv_has ls 5 [(0, .ref (ad (0, 0))), (1, .ref (ad (4, st))), (2, .ref (ad (8, cr)))] := hl
  show Wr p l e 3 s m args below meth c (some (va_rf ((stdS σ st cr (nCe σ)).map (fun b => ad (9, b))))) 0 ls []
  refine lv_iconst (v := 0) X.ex X.co dX9_standingCertificate_0 (by decide) ?_
  refine lv_istore_n (lv' := [(3, .int 0), (0, .ref (ad (0, 0))), (1, .ref (ad (4, st))), (2, .ref (ad (8, cr)))]) X.ex X.co dX9_standingCertificate_1 rfl hl (by decide) rfl (fun ls hl => ?_)
  have loop_2 : ∀ (fu_1 i : Nat), i ≤ nCe σ ∧ (∀ z, z < i → ¬ (hol σ z = st ∧ cou σ z = cr ∧ σ.2 41 z = 0)) → nCe σ < i + fu_1 → ∀ ls : Array Slot, lv_has ls 5 [(3, .int (nI i)), (0, .ref (ad (0, 0))), (1, .ref (ad (4, st))), (2, .ref (ad (8, cr)))] → Wr p l e 3 s m args below meth c (some (va_rf ((stdS σ st cr (nCe σ)).map (fun b => ad (9, b))))) 2 ls [] := by
    intro fu_1
    induction fu_1 with
    | zero => intro i h_4 h_5; exact absurd h_5 (by omega)
    | succ fu_1 ih_3 =>
      intro i h_4 h_5 ls hl
      refine lv_iload_n X.ex X.co dX9_standingCertificate_2 rfl (lv_at hl 0 rfl) ?_
      refine lv_aload_n X.ex X.co dX9_standingCertificate_3 rfl (lv_at hl 1 rfl) ?_
      refine f_get X hK (cw_be F) okX9 rfl 6 (by decide) m_112 (fun _ h => h) (v := .ref (ad (1, 6))) rfl dX9_standingCertificate_4 ?_
      refine q_rV X ce_Jx4a65c_size_8abf5 m_144 (c_Jx4a65c_size_8abf5 l G (ad (1, 6)) (g.2.1 (6)) (lrow G g ad (6)) (nCe σ)) g0 (cw_lsn F (k := 6) (n := nCe σ) (Or.inl (by omega)) rng_len) (cw_lsn F (k := 6) (n := nCe σ) (Or.inl (by omega)) rng_len) rfl (by decide) rfl hl.1 rfl (Nat.le_of_ble_eq_true rfl) dX9_standingCertificate_7 (by omega) (by omega) ?_
      refine n_cmp_ge X (x := i) (y := nCe σ) (tgt := 61) (by omega) (by omega) dX9_standingCertificate_10 (by decide) (fun c_6 => ?_) (fun c_6 => ?_)
      · refine lv_null X.ex X.co dX9_standingCertificate_61 ?_
        exact r_a X rfl (Or.inl ⟨_, rfl⟩) (Or.inl rfl) (by rw [stdS_none (fun z hz => h_4.2 z (by omega))]; rfl) dX9_standingCertificate_62
      · refine lv_aload_n X.ex X.co dX9_standingCertificate_13 rfl (lv_at hl 1 rfl) ?_
        refine f_get X hK (cw_be F) okX9 rfl 6 (by decide) m_112 (fun _ h => h) (v := .ref (ad (1, 6))) rfl dX9_standingCertificate_14 ?_
        refine lv_iload_n X.ex X.co dX9_standingCertificate_17 rfl (lv_at hl 0 rfl) ?_
        refine q_rV X ce_Jx4a65c_get_915e3 m_164 (c_getR l G (ad (1, 6)) (g.2.1 (6)) (lrow G g ad (6)) (nCe σ) (g.1 (6)) (cont (lstN σ (6)) ad) i (by omega) (cl_n hC (Or.inl (by omega)) rng_len) (cl_q hC (Or.inl (by omega))) (cont_get (j := (9, i)) (rng_get (k := 9) (show i < nCe σ by omega)))) g0 (cw_get F hC (k := 6) (x := i) (n := nCe σ) (Or.inl (by omega)) rng_len (by omega)) (cw_get F hC (k := 6) (x := i) (n := nCe σ) (Or.inl (by omega)) rng_len (by omega)).1 rfl (by decide) rfl hl.1 rfl (Nat.le_of_ble_eq_true rfl) dX9_standingCertificate_18 (by omega) (by omega) ?_
        refine f_castS X hK (cw_ce F (i := i) (by omega)) rfl m_178 dX9_standingCertificate_21 ?_
        refine lv_astore (lv' := [(4, .ref (ad (9, i))), (3, .int (nI i)), (0, .ref (ad (0, 0))), (1, .ref (ad (4, st))), (2, .ref (ad (8, cr)))]) X.ex X.co dX9_standingCertificate_24 hl (by decide) rfl (fun ls hl => ?_)
        refine lv_aload X.ex X.co dX9_standingCertificate_26 (lv_at hl 0 rfl) ?_
        refine f_get X hK (cw_ce F (i := i) (by omega)) okX1 rfl 4 (by decide) m_1188 (fun _ h => h) (v := .int (bI (decide (σ.2 41 i = 0)))) rfl dX9_standingCertificate_28 ?_
        refine b_if_eq X (x := decide (σ.2 41 i = 0)) (tgt := 55) dX9_standingCertificate_31 (by decide) (fun c_7 => ?_) (fun c_7 => ?_)
        · refine lv_iinc (v := nI (i + 1)) (lv' := [(3, .int (nI (i + 1))), (4, .ref (ad (9, i))), (0, .ref (ad (0, 0))), (1, .ref (ad (4, st))), (2, .ref (ad (8, cr)))]) X.ex X.co dX9_standingCertificate_55 hl (k := 1) rfl (n_inc _) (by decide) rfl (fun ls hl => ?_)
          refine lv_goto (tgt := 2) X.ex X.co dX9_standingCertificate_58 (by decide) ?_
          have hv9 := h_4
          exact ih_3 (i + 1) ⟨by omega, fun z hz h9 => by rcases Nat.lt_or_ge z i with q9 | q9; exact hv9.2 z q9 h9; have e9 : z = i := (by omega); rw [e9] at h9; first | exact absurd h9.1 (by assumption) | exact absurd h9.2.1 (by assumption) | simp_all⟩ (by omega) ls (lv_sub hl [0, 2, 3, 4] rfl)
        · refine lv_aload X.ex X.co dX9_standingCertificate_34 (lv_at hl 0 rfl) ?_
          refine f_get X hK (cw_ce F (i := i) (by omega)) okX1 rfl 1 (by decide) m_1182 (fun _ h => h) (v := .ref (ad (4, hol σ i))) rfl dX9_standingCertificate_36 ?_
          have hf_f_8 := hI0.ce (i := i) (by omega)
          refine lv_aload_n X.ex X.co dX9_standingCertificate_39 rfl (lv_at hl 3 rfl) ?_
          refine lv_acmp_ne (rx := some (ad (4, hol σ i))) (ry := some (ad (4, st))) (tgt := 55) X.ex X.co dX9_standingCertificate_40 (by decide) (fun c_9 => ?_) (fun c_9 => ?_)
          · have hq_10 : ¬ hol σ i = st := fun z => c_9 (by rw [z])
            refine lv_iinc (v := nI (i + 1)) (lv' := [(3, .int (nI (i + 1))), (4, .ref (ad (9, i))), (0, .ref (ad (0, 0))), (1, .ref (ad (4, st))), (2, .ref (ad (8, cr)))]) X.ex X.co dX9_standingCertificate_55 hl (k := 1) rfl (n_inc _) (by decide) rfl (fun ls hl => ?_)
            refine lv_goto (tgt := 2) X.ex X.co dX9_standingCertificate_58 (by decide) ?_
            have hv9 := h_4
            exact ih_3 (i + 1) ⟨by omega, fun z hz h9 => by rcases Nat.lt_or_ge z i with q9 | q9; exact hv9.2 z q9 h9; have e9 : z = i := (by omega); rw [e9] at h9; first | exact absurd h9.1 (by assumption) | exact absurd h9.2.1 (by assumption) | simp_all⟩ (by omega) ls (lv_sub hl [0, 2, 3, 4] rfl)
          · have hq_10 : hol σ i = st := cw_inj F (k := 4) (show _ < _ by omega) (show _ < _ by omega) c_9
            refine lv_aload X.ex X.co dX9_standingCertificate_43 (lv_at hl 0 rfl) ?_
            refine f_get X hK (cw_ce F (i := i) (by omega)) okX1 rfl 2 (by decide) m_1184 (fun _ h => h) (v := .ref (ad (8, cou σ i))) rfl dX9_standingCertificate_45 ?_
            have hf_f_11 := hI0.ce (i := i) (by omega)
            refine lv_aload_n X.ex X.co dX9_standingCertificate_48 rfl (lv_at hl 4 rfl) ?_
            refine lv_acmp_ne (rx := some (ad (8, cou σ i))) (ry := some (ad (8, cr))) (tgt := 55) X.ex X.co dX9_standingCertificate_49 (by decide) (fun c_12 => ?_) (fun c_12 => ?_)
            · have hq_13 : ¬ cou σ i = cr := fun z => c_12 (by rw [z])
              refine lv_iinc (v := nI (i + 1)) (lv' := [(3, .int (nI (i + 1))), (4, .ref (ad (9, i))), (0, .ref (ad (0, 0))), (1, .ref (ad (4, st))), (2, .ref (ad (8, cr)))]) X.ex X.co dX9_standingCertificate_55 hl (k := 1) rfl (n_inc _) (by decide) rfl (fun ls hl => ?_)
              refine lv_goto (tgt := 2) X.ex X.co dX9_standingCertificate_58 (by decide) ?_
              have hv9 := h_4
              exact ih_3 (i + 1) ⟨by omega, fun z hz h9 => by rcases Nat.lt_or_ge z i with q9 | q9; exact hv9.2 z q9 h9; have e9 : z = i := (by omega); rw [e9] at h9; first | exact absurd h9.1 (by assumption) | exact absurd h9.2.1 (by assumption) | simp_all⟩ (by omega) ls (lv_sub hl [0, 2, 3, 4] rfl)
            · have hq_13 : cou σ i = cr := cw_inj F (k := 8) (show _ < _ by omega) (show _ < _ by omega) c_12
              refine lv_aload X.ex X.co dX9_standingCertificate_52 (lv_at hl 0 rfl) ?_
              exact r_a X rfl (Or.inl ⟨_, rfl⟩) (Or.inr ⟨_, rfl⟩) (by rw [stdS_one hone (c := i) (by omega) ⟨by assumption, by assumption, by simpa using c_7⟩]; rfl) dX9_standingCertificate_54
  exact loop_2 (nCe σ + 1) 0 ⟨by omega, fun z hz => absurd hz (by omega)⟩ (by omega) ls (lv_sub hl [0, 1, 2, 3] rfl)
set_option maxHeartbeats 4000000 in
set_option maxRecDepth 100000 in
theorem c_X9_countStanding (l : Launch) (G : GT) (A : Nat → Prop) (g : CG) (ad : I2 → Nat) (σ : Sg) (hI0 : MI0 σ) (hC : CL g σ) : rM l yX9_countStanding cX9_countStanding 3 ((Option.some FieldType.int)) 3 G [.ref (ad (0, 0))] (fun H => cw G g A ad σ H) (some (.int (nI (stnS σ (nCe σ))))) := by
  refine mk_m (by decide) (Nat.le_of_ble_eq_true rfl) ?_
  intro p e s m args below meth c X ls hl g0 F hnm
  have hK := g0.1
  obtain ⟨b1, b2, b3, b4, b5, b6, b7⟩ := hI0.1
  have hl : lv_has ls 3 [(0, .ref (ad (0, 0)))] := hl
  show Wr p l e 3 s m args below meth c (some (.int (nI (stnS σ (nCe σ))))) 0 ls []
  refine lv_iconst (v := 0) X.ex X.co dX9_countStanding_0 (by decide) ?_
  refine lv_istore_n (lv' := [(1, .int 0), (0, .ref (ad (0, 0)))]) X.ex X.co dX9_countStanding_1 rfl hl (by decide) rfl (fun ls hl => ?_)
  refine lv_iconst (v := 0) X.ex X.co dX9_countStanding_2 (by decide) ?_
  refine lv_istore_n (lv' := [(2, .int 0), (1, .int 0), (0, .ref (ad (0, 0)))]) X.ex X.co dX9_countStanding_3 rfl hl (by decide) rfl (fun ls hl => ?_)
  have loop_2 : ∀ (fu_1 i : Nat), i ≤ nCe σ → nCe σ < i + fu_1 → ∀ ls : Array Slot, lv_has ls 3 [(2, .int (nI i)), (1, .int (nI (stnS σ i))), (0, .ref (ad (0, 0)))] → Wr p l e 3 s m args below meth c (some (.int (nI (stnS σ (nCe σ))))) 4 ls [] := by
    intro fu_1
    induction fu_1 with
    | zero => intro i h_4 h_5; exact absurd h_5 (by omega)
    | succ fu_1 ih_3 =>
      intro i h_4 h_5 ls hl
      have hsn := stn_rev σ i
      refine lv_iload_n X.ex X.co dX9_countStanding_4 rfl (lv_at hl 0 rfl) ?_
      refine lv_aload_n X.ex X.co dX9_countStanding_5 rfl (lv_at hl 2 rfl) ?_
      refine f_get X hK (cw_be F) okX9 rfl 6 (by decide) m_112 (fun _ h => h) (v := .ref (ad (1, 6))) rfl dX9_countStanding_6 ?_
      refine q_rV X ce_Jx4a65c_size_8abf5 m_144 (c_Jx4a65c_size_8abf5 l G (ad (1, 6)) (g.2.1 (6)) (lrow G g ad (6)) (nCe σ)) g0 (cw_lsn F (k := 6) (n := nCe σ) (Or.inl (by omega)) rng_len) (cw_lsn F (k := 6) (n := nCe σ) (Or.inl (by omega)) rng_len) rfl (by decide) rfl hl.1 rfl (Nat.le_of_ble_eq_true rfl) dX9_countStanding_9 (by omega) (by omega) ?_
      refine n_cmp_ge X (x := i) (y := nCe σ) (tgt := 41) (by omega) (by omega) dX9_countStanding_12 (by decide) (fun c_6 => ?_) (fun c_6 => ?_)
      · have hq_7 : i = nCe σ := by omega
        rw [hq_7] at hl
        refine lv_iload_n X.ex X.co dX9_countStanding_41 rfl (lv_at hl 1 rfl) ?_
        exact r_i X rfl rfl rfl dX9_countStanding_42
      · refine lv_aload_n X.ex X.co dX9_countStanding_15 rfl (lv_at hl 2 rfl) ?_
        refine f_get X hK (cw_be F) okX9 rfl 6 (by decide) m_112 (fun _ h => h) (v := .ref (ad (1, 6))) rfl dX9_countStanding_16 ?_
        refine lv_iload_n X.ex X.co dX9_countStanding_19 rfl (lv_at hl 0 rfl) ?_
        refine q_rV X ce_Jx4a65c_get_915e3 m_164 (c_getR l G (ad (1, 6)) (g.2.1 (6)) (lrow G g ad (6)) (nCe σ) (g.1 (6)) (cont (lstN σ (6)) ad) i (by omega) (cl_n hC (Or.inl (by omega)) rng_len) (cl_q hC (Or.inl (by omega))) (cont_get (j := (9, i)) (rng_get (k := 9) (show i < nCe σ by omega)))) g0 (cw_get F hC (k := 6) (x := i) (n := nCe σ) (Or.inl (by omega)) rng_len (by omega)) (cw_get F hC (k := 6) (x := i) (n := nCe σ) (Or.inl (by omega)) rng_len (by omega)).1 rfl (by decide) rfl hl.1 rfl (Nat.le_of_ble_eq_true rfl) dX9_countStanding_20 (by omega) (by omega) ?_
        refine f_castS X hK (cw_ce F (i := i) (by omega)) rfl m_178 dX9_countStanding_23 ?_
        refine f_get X hK (cw_ce F (i := i) (by omega)) okX1 rfl 4 (by decide) m_1188 (fun _ h => h) (v := .int (bI (decide (σ.2 41 i = 0)))) rfl dX9_countStanding_26 ?_
        refine b_if_eq X (x := decide (σ.2 41 i = 0)) (tgt := 35) dX9_countStanding_29 (by decide) (fun c_8 => ?_) (fun c_8 => ?_)
        · refine lv_iinc (v := nI (i + 1)) (lv' := [(2, .int (nI (i + 1))), (1, .int (nI (stnS σ i))), (0, .ref (ad (0, 0)))]) X.ex X.co dX9_countStanding_35 hl (k := 0) rfl (n_inc _) (by decide) rfl (fun ls hl => ?_)
          refine lv_goto (tgt := 4) X.ex X.co dX9_countStanding_38 (by decide) ?_
          have q_9 : nI (stnS σ (i + 1)) = nI (stnS σ i) := by first | rfl | simp [stnS, *]
          exact ih_3 (i + 1) (by omega) (by omega) ls (lv_sub hl [0, 1, 2] (by first | rfl | (rw [q_9] <;> rfl)))
        · refine lv_iinc (v := nI ((stnS σ i) + 1)) (lv' := [(1, .int (nI ((stnS σ i) + 1))), (2, .int (nI i)), (0, .ref (ad (0, 0)))]) X.ex X.co dX9_countStanding_32 hl (k := 1) rfl (n_inc _) (by decide) rfl (fun ls hl => ?_)
          refine lv_iinc (v := nI (i + 1)) (lv' := [(2, .int (nI (i + 1))), (1, .int (nI ((stnS σ i) + 1))), (0, .ref (ad (0, 0)))]) X.ex X.co dX9_countStanding_35 hl (k := 1) rfl (n_inc _) (by decide) rfl (fun ls hl => ?_)
          refine lv_goto (tgt := 4) X.ex X.co dX9_countStanding_38 (by decide) ?_
          have q_10 : nI (stnS σ (i + 1)) = nI ((stnS σ i) + 1) := by first | rfl | simp [stnS, *]
          exact ih_3 (i + 1) (by omega) (by omega) ls (lv_sub hl [0, 1, 2] (by first | rfl | (rw [q_10] <;> rfl)))
  exact loop_2 (nCe σ + 1) 0 (by omega) (by omega) ls (lv_sub hl [0, 1, 2] rfl)
