set_option maxHeartbeats 4000000 in
set_option maxRecDepth 100000 in
theorem c_X10_fails (l : Launch) (G : GT) (mad : I2 → Nat) (A : Nat → Prop) (hAg : ∀ q, A q → gA G q) (σ : Sg) (h0 : σ.1 0 0 = 0) (b : Bool) (x : Nat) (hx : 0 < x) (hx2 : x < 2 ^ 31) : cM l yX10_fails cX10_fails 3 ((Option.some FieldType.boolean)) 0 0 0 G [.ref (mad (0, 0)), .int (bI b), .int (nI x)] (mw G mad A σ) (eB (some (.int (bI b))) (mw G mad A (if b = true then sN σ 0 0 x else σ))) A := by
  refine mk_m (by decide) (Nat.le_of_ble_eq_true rfl) ?_
  intro p e s m args below meth c X ls hl g0 F hnm
  have hK := g0.1
  have hS : va_S A s.heap s.heap [] := va_S.rf
  have hl : lv_has ls 3 [(0, .ref (mad (0, 0))), (1, .int (bI b)), (2, .int (nI x))] := hl
  show Wc p l e 0 0 0 s m args below meth c (eB (some (.int (bI b))) (mw G mad A (if b = true then sN σ 0 0 x else σ))) A s.heap [] 0 0 0 ls []
  refine lv_iload_n X.ex X.co dX10_fails_0 rfl (lv_at hl 1 rfl) ?_
  refine b_if_eq X (x := b) (tgt := 16) dX10_fails_1 (by decide) (fun c_1 => ?_) (fun c_1 => ?_)
  · refine lv_aload_n X.ex X.co dX10_fails_16 rfl (lv_at hl 0 rfl) ?_
    refine m_getN X hK F 0 (by decide) rfl rfl (x := 0) h0 m_1351 rfl dX10_fails_17 ?_
    refine lv_if_eq (tgt := 27) X.ex X.co dX10_fails_20 (by decide) (fun c_2 => ?_) (fun c_2 => ?_)
    · refine lv_iconst (v := 0) X.ex X.co dX10_fails_27 (by decide) ?_
      exact c_i X hS rfl (by decide) ⟨by simp [bI, *], by simpa [*] using F⟩ (by omega) (by omega) dX10_fails_28
    · exact absurd (by decide) c_2
  · refine lv_aload_n X.ex X.co dX10_fails_4 rfl (lv_at hl 0 rfl) ?_
    refine m_getN X hK F 0 (by decide) rfl rfl (x := 0) h0 m_1351 rfl dX10_fails_5 ?_
    refine lv_if_ne (tgt := 16) X.ex X.co dX10_fails_8 (by decide) (fun c_3 => ?_) (fun c_3 => ?_)
    · exact absurd (by decide) c_3
    · refine lv_aload_n X.ex X.co dX10_fails_11 rfl (lv_at hl 0 rfl) ?_
      refine lv_iload_n X.ex X.co dX10_fails_12 rfl (lv_at hl 2 rfl) ?_
      refine m_putN X hK F hS 0 (by decide) rfl rfl (v := x) m_1351 rfl rfl (by decide) dX10_fails_13 (fun H locs F hS => ?_)
      refine lv_aload_n X.ex X.co dX10_fails_16 rfl (lv_at hl 0 rfl) ?_
      refine m_getN X hK F 0 (by decide) rfl rfl (x := x) rfl m_1351 rfl dX10_fails_17 ?_
      refine n_if_eq X (x := x) (tgt := 27) (by omega) dX10_fails_20 (by decide) (fun c_4 => ?_) (fun c_4 => ?_)
      · exact absurd c_4 (by omega)
      · refine lv_iconst (v := 1) X.ex X.co dX10_fails_23 (by decide) ?_
        refine lv_goto (tgt := 28) X.ex X.co dX10_fails_24 (by decide) ?_
        exact c_i X hS rfl (by decide) ⟨by simp [bI, *], by simpa [*] using F⟩ (by omega) (by omega) dX10_fails_28
set_option maxHeartbeats 4000000 in
set_option maxRecDepth 100000 in
theorem c_X10_put (l : Launch) (G : GT) (mad : I2 → Nat) (A : Nat → Prop) (hAg : ∀ q, A q → gA G q) (σ : Sg) (h : nSz σ < 60) (v : Int32) (hv : vp_nar .char v = v) : cM l yX10_put cX10_put 2 ((Option.none : Option FieldType)) 0 0 0 G [.ref (mad (0, 0)), .int v] (mw G mad A σ) (eB none (mw G mad A (putS σ v))) A := by
  refine mk_m (by decide) (Nat.le_of_ble_eq_true rfl) ?_
  intro p e s m args below meth c X ls hl g0 F hnm
  have hK := g0.1
  have hS : va_S A s.heap s.heap [] := va_S.rf
  have hl : lv_has ls 2 [(0, .ref (mad (0, 0))), (1, .int v)] := hl
  show Wc p l e 0 0 0 s m args below meth c (eB none (mw G mad A (putS σ v))) A s.heap [] 0 0 0 ls []
  refine lv_aload_n X.ex X.co dX10_put_0 rfl (lv_at hl 0 rfl) ?_
  refine m_getA X hK F 42 (by decide) rfl m_1393 rfl dX10_put_1 ?_
  refine lv_aload_n X.ex X.co dX10_put_4 rfl (lv_at hl 0 rfl) ?_
  refine m_getN X hK F 43 (by decide) rfl rfl (x := nSz σ) rfl m_1394 rfl dX10_put_5 ?_
  refine lv_iload_n X.ex X.co dX10_put_8 rfl (lv_at hl 1 rfl) ?_
  refine m_cst X hK F hS 42 (by decide) rfl rfl rfl (nSz σ) (v := v) hv (by first | omega | (show _ < 60; omega)) dX10_put_9 (fun H locs F hS => ?_)
  refine lv_aload_n X.ex X.co dX10_put_10 rfl (lv_at hl 0 rfl) ?_
  refine lv_dup X.ex X.co dX10_put_11 rfl ?_
  refine m_getN X hK F 43 (by decide) rfl rfl (x := nSz σ) rfl m_1394 rfl dX10_put_12 ?_
  refine lv_iconst (v := 1) X.ex X.co dX10_put_15 (by decide) ?_
  refine n_add X (x := nSz σ) (y := 1) dX10_put_16 ?_
  refine m_putN X hK F hS 43 (by decide) rfl rfl (v := (nSz σ) + 1) m_1394 rfl rfl (by decide) dX10_put_17 (fun H locs F hS => ?_)
  exact c_v X hS rfl ⟨rfl, F⟩ (by omega) (by omega) dX10_put_20
set_option maxHeartbeats 4000000 in
set_option maxRecDepth 100000 in
theorem c_X10_drop (l : Launch) (G : GT) (mad : I2 → Nat) (A : Nat → Prop) (hAg : ∀ q, A q → gA G q) (σ : Sg) (hn : nAp σ ≤ 100) (hap : ∀ i, i < nAp σ → app σ i < 2 ^ 31) (a : Nat) (ha : a < 2 ^ 31) : cM l yX10_drop cX10_drop 4 ((Option.none : Option FieldType)) 0 0 0 G [.ref (mad (0, 0)), .int (nI a)] (mw G mad A σ) (eB none (mw G mad A (dropS σ a))) A := by
  refine mk_m (by decide) (Nat.le_of_ble_eq_true rfl) ?_
  intro p e s m args below meth c X ls hl g0 F hnm
  have hK := g0.1
  have hS : va_S A s.heap s.heap [] := va_S.rf
  have hl : lv_has ls 4 [(0, .ref (mad (0, 0))), (1, .int (nI a))] := hl
  show Wc p l e 0 0 0 s m args below meth c (eB none (mw G mad A (dropS σ a))) A s.heap [] 0 0 0 ls []
  refine lv_iconst (v := 0) X.ex X.co dX10_drop_0 (by decide) ?_
  refine lv_istore_n (lv' := [(2, .int 0), (0, .ref (mad (0, 0))), (1, .int (nI a))]) X.ex X.co dX10_drop_1 rfl hl (by decide) rfl (fun ls hl => ?_)
  refine lv_iconst (v := 0) X.ex X.co dX10_drop_2 (by decide) ?_
  refine lv_istore_n (lv' := [(3, .int 0), (2, .int 0), (0, .ref (mad (0, 0))), (1, .int (nI a))]) X.ex X.co dX10_drop_3 rfl hl (by decide) rfl (fun ls hl => ?_)
  have loop_2 : ∀ (fu_1 i : Nat), i ≤ nAp σ → nAp σ < i + fu_1 → ∀ (H : Heap) (locs : List Loc), mw G mad A ((dropL σ a i).2) H → va_S A s.heap H locs → ∀ ls : Array Slot, lv_has ls 4 [(3, .int (nI i)), (2, .int (nI ((dropL σ a i).1))), (0, .ref (mad (0, 0))), (1, .int (nI a))] → Wc p l e 0 0 0 s m args below meth c (eB none (mw G mad A (dropS σ a))) A H locs 0 0 4 ls [] := by
    intro fu_1
    induction fu_1 with
    | zero => intro i h_4 h_5; exact absurd h_5 (by omega)
    | succ fu_1 ih_3 =>
      intro i h_4 h_5 H locs F hS ls hl
      have hd := dropL_le σ a i
      refine lv_iload_n X.ex X.co dX10_drop_4 rfl (lv_at hl 0 rfl) ?_
      refine lv_aload_n X.ex X.co dX10_drop_5 rfl (lv_at hl 2 rfl) ?_
      refine m_getN X hK F 27 (by decide) rfl rfl (x := nAp σ) (dropL_n σ a i) m_1378 rfl dX10_drop_6 ?_
      refine n_cmp_ge X (x := i) (y := nAp σ) (tgt := 43) (by omega) (by omega) dX10_drop_9 (by decide) (fun c_6 => ?_) (fun c_6 => ?_)
      · have hq_7 : i = nAp σ := by omega
        rw [hq_7] at hl
        rw [hq_7] at F
        refine lv_aload_n X.ex X.co dX10_drop_43 rfl (lv_at hl 2 rfl) ?_
        refine lv_iload_n X.ex X.co dX10_drop_44 rfl (lv_at hl 1 rfl) ?_
        refine m_putN X hK F hS 27 (by decide) rfl rfl (v := (dropL σ a (nAp σ)).1) m_1378 rfl rfl (by decide) dX10_drop_45 (fun H locs F hS => ?_)
        exact c_v X hS rfl ⟨rfl, F⟩ (by omega) (by omega) dX10_drop_48
      · have ha1 := hap i (by omega)
        rw [← dropL_app σ a i i (Nat.le_refl _)] at ha1
        refine lv_aload_n X.ex X.co dX10_drop_12 rfl (lv_at hl 2 rfl) ?_
        refine m_getA X hK F 28 (by decide) rfl m_1379 rfl dX10_drop_13 ?_
        refine lv_iload_n X.ex X.co dX10_drop_16 rfl (lv_at hl 0 rfl) ?_
        refine m_ald X hK F 28 (by decide) rfl rfl i (by first | omega | (show _ < 100; omega)) (x := nI (app (dropL σ a i).2 i)) rfl dX10_drop_17 ?_
        refine lv_iload_n X.ex X.co dX10_drop_18 rfl (lv_at hl 3 rfl) ?_
        refine n_cmp_eq X (x := app (dropL σ a i).2 i) (y := a) (tgt := 37) (by omega) (by omega) dX10_drop_19 (by decide) (fun c_8 => ?_) (fun c_8 => ?_)
        · refine lv_iinc (v := nI (i + 1)) (lv' := [(3, .int (nI (i + 1))), (2, .int (nI ((dropL σ a i).1))), (0, .ref (mad (0, 0))), (1, .int (nI a))]) X.ex X.co dX10_drop_37 hl (k := 0) rfl (n_inc _) (by decide) rfl (fun ls hl => ?_)
          refine lv_goto (tgt := 4) X.ex X.co dX10_drop_40 (by decide) ?_
          have q_9 : nI ((dropL σ a (i + 1)).1) = nI ((dropL σ a i).1) := by first | rfl | simp [dropL, *]
          have q_10 : (dropL σ a (i + 1)).2 = (dropL σ a i).2 := by first | rfl | simp [dropL, *]
          exact ih_3 (i + 1) (by omega) (by omega) _ _ (q_10 ▸ F) hS ls (lv_sub hl [0, 1, 2, 3] (by first | rfl | (rw [q_9] <;> rfl)))
        · refine lv_aload_n X.ex X.co dX10_drop_22 rfl (lv_at hl 2 rfl) ?_
          refine m_getA X hK F 28 (by decide) rfl m_1379 rfl dX10_drop_23 ?_
          refine lv_iload_n X.ex X.co dX10_drop_26 rfl (lv_at hl 1 rfl) ?_
          refine lv_aload_n X.ex X.co dX10_drop_27 rfl (lv_at hl 2 rfl) ?_
          refine m_getA X hK F 28 (by decide) rfl m_1379 rfl dX10_drop_28 ?_
          refine lv_iload_n X.ex X.co dX10_drop_31 rfl (lv_at hl 0 rfl) ?_
          refine m_ald X hK F 28 (by decide) rfl rfl i (by first | omega | (show _ < 100; omega)) (x := nI (app (dropL σ a i).2 i)) rfl dX10_drop_32 ?_
          refine m_astN X hK F hS 28 (by decide) rfl rfl rfl ((dropL σ a i).1) (app (dropL σ a i).2 i) (by first | omega | (show _ < 100; omega)) dX10_drop_33 (fun H locs F hS => ?_)
          refine lv_iinc (v := nI (((dropL σ a i).1) + 1)) (lv' := [(2, .int (nI (((dropL σ a i).1) + 1))), (3, .int (nI i)), (0, .ref (mad (0, 0))), (1, .int (nI a))]) X.ex X.co dX10_drop_34 hl (k := 1) rfl (n_inc _) (by decide) rfl (fun ls hl => ?_)
          refine lv_iinc (v := nI (i + 1)) (lv' := [(3, .int (nI (i + 1))), (2, .int (nI (((dropL σ a i).1) + 1))), (0, .ref (mad (0, 0))), (1, .int (nI a))]) X.ex X.co dX10_drop_37 hl (k := 1) rfl (n_inc _) (by decide) rfl (fun ls hl => ?_)
          refine lv_goto (tgt := 4) X.ex X.co dX10_drop_40 (by decide) ?_
          have q_11 : nI ((dropL σ a (i + 1)).1) = nI (((dropL σ a i).1) + 1) := by first | rfl | simp [dropL, *]
          have q_12 : (dropL σ a (i + 1)).2 = (sN (dropL σ a i).2 28 ((dropL σ a i).1) (app (dropL σ a i).2 i)) := by first | rfl | simp [dropL, *]
          exact ih_3 (i + 1) (by omega) (by omega) _ _ (q_12 ▸ F) hS ls (lv_sub hl [0, 1, 2, 3] (by first | rfl | (rw [q_11] <;> rfl)))
  exact loop_2 (nAp σ + 1) 0 (by omega) (by omega) _ _ F hS ls (lv_sub hl [0, 1, 2, 3] rfl)
set_option maxHeartbeats 4000000 in
set_option maxRecDepth 100000 in
theorem c_X10_putNumber (l : Launch) (G : GT) (mad : I2 → Nat) (A : Nat → Prop) (hAg : ∀ q, A q → gA G q) (σ : Sg) (v : Nat) (hv : v < 1000) (h : nSz σ ≤ 57) : cM l yX10_putNumber cX10_putNumber 3 ((Option.none : Option FieldType)) 1 0 0 G [.ref (mad (0, 0)), .int (nI v)] (mw G mad A σ) (eB none (mw G mad A (putL σ (decS v)))) A := by
  refine mk_m (by decide) (Nat.le_of_ble_eq_true rfl) ?_
  intro p e s m args below meth c X ls hl g0 F hnm
  have hK := g0.1
  have hS : va_S A s.heap s.heap [] := va_S.rf
  have hl : lv_has ls 3 [(0, .ref (mad (0, 0))), (1, .int (nI v))] := hl
  show Wc p l e 1 0 0 s m args below meth c (eB none (mw G mad A (putL σ (decS v)))) A s.heap [] 0 0 0 ls []
  refine lv_iload_n X.ex X.co dX10_putNumber_0 rfl (lv_at hl 1 rfl) ?_
  refine lv_bipush (v := 100) X.ex X.co dX10_putNumber_1 (by decide) ?_
  refine n_cmp_lt X (x := v) (y := 100) (tgt := 11) (by omega) (by omega) dX10_putNumber_3 (by decide) (fun c_1 => ?_) (fun c_1 => ?_)
  · refine lv_iload_n X.ex X.co dX10_putNumber_11 rfl (lv_at hl 1 rfl) ?_
    refine lv_bipush (v := 10) X.ex X.co dX10_putNumber_12 (by decide) ?_
    refine n_cmp_lt X (x := v) (y := 10) (tgt := 22) (by omega) (by omega) dX10_putNumber_14 (by decide) (fun c_2 => ?_) (fun c_2 => ?_)
    · refine lv_iconst (v := 1) X.ex X.co dX10_putNumber_22 (by decide) ?_
      refine lv_istore_n (lv' := [(2, .int 1), (0, .ref (mad (0, 0))), (1, .int (nI v))]) X.ex X.co dX10_putNumber_23 rfl hl (by decide) rfl (fun ls hl => ?_)
      refine lv_iload_n X.ex X.co dX10_putNumber_24 rfl (lv_at hl 0 rfl) ?_
      refine lv_if_le (tgt := 50) X.ex X.co dX10_putNumber_25 (by decide) (fun c_3 => ?_) (fun c_3 => ?_)
      · exact absurd c_3 (by decide)
      · refine lv_aload_n X.ex X.co dX10_putNumber_28 rfl (lv_at hl 1 rfl) ?_
        refine lv_bipush (v := 48) X.ex X.co dX10_putNumber_29 (by decide) ?_
        refine lv_iload_n X.ex X.co dX10_putNumber_31 rfl (lv_at hl 2 rfl) ?_
        refine lv_iload_n X.ex X.co dX10_putNumber_32 rfl (lv_at hl 0 rfl) ?_
        refine n_div X (x := v) (y := 1) (by omega) (by decide) (by decide) dX10_putNumber_33 ?_
        refine lv_bipush (v := 10) X.ex X.co dX10_putNumber_34 (by decide) ?_
        refine n_rem X (x := v / 1) (y := 10) (by omega) (by decide) (by decide) dX10_putNumber_36 ?_
        refine n_add X (x := 48) (y := (v / 1) % 10) dX10_putNumber_37 ?_
        refine lv_i2c (v := nI (48 + ((v / 1) % 10))) X.ex X.co dX10_putNumber_38 (n_i2c (by omega)) ?_
        refine q_vV X ce_X10_put m_1730 (c_X10_put l G mad A hAg σ (by first | omega | (simp only [putS_sz, putL_sz]; omega)) (nI (48 + ((v / 1) % 10))) (nar_c (by omega))) (g0.step hS hAg) F (mo F) rfl (by decide) rfl hl.1 rfl (Nat.le_of_ble_eq_true rfl) dX10_putNumber_39 (by omega) (by omega) hS (fun _ h => h) (fun H locs F hz hk hS => ?_)
        refine lv_iload_n X.ex X.co dX10_putNumber_42 rfl (lv_at hl 0 rfl) ?_
        refine lv_bipush (v := 10) X.ex X.co dX10_putNumber_43 (by decide) ?_
        refine lv_idiv X.ex X.co dX10_putNumber_45 (by decide) (top_eq (y := 0) (by decide) ?_)
        refine lv_istore_n (lv' := [(2, .int 0), (0, .ref (mad (0, 0))), (1, .int (nI v))]) X.ex X.co dX10_putNumber_46 rfl hl (by decide) rfl (fun ls hl => ?_)
        refine lv_goto (tgt := 24) X.ex X.co dX10_putNumber_47 (by decide) ?_
        refine lv_iload_n X.ex X.co dX10_putNumber_24 rfl (lv_at hl 0 rfl) ?_
        refine lv_if_le (tgt := 50) X.ex X.co dX10_putNumber_25 (by decide) (fun c_4 => ?_) (fun c_4 => ?_)
        · exact c_v X hS rfl ⟨rfl, (by have q : putL σ (decS v) = (putS σ (nI (48 + ((v / 1) % 10)))) := (by simp only [decS]; rw [if_pos (by omega)]; simp only [Nat.div_one, Nat.mod_eq_of_lt (show v < 10 by omega)]; rfl); rw [q]; exact F)⟩ (by omega) (by omega) dX10_putNumber_50
        · exact absurd (by decide) c_4
    · refine lv_bipush (v := 10) X.ex X.co dX10_putNumber_17 (by decide) ?_
      refine lv_goto (tgt := 23) X.ex X.co dX10_putNumber_19 (by decide) ?_
      refine lv_istore_n (lv' := [(2, .int 10), (0, .ref (mad (0, 0))), (1, .int (nI v))]) X.ex X.co dX10_putNumber_23 rfl hl (by decide) rfl (fun ls hl => ?_)
      refine lv_iload_n X.ex X.co dX10_putNumber_24 rfl (lv_at hl 0 rfl) ?_
      refine lv_if_le (tgt := 50) X.ex X.co dX10_putNumber_25 (by decide) (fun c_5 => ?_) (fun c_5 => ?_)
      · exact absurd c_5 (by decide)
      · refine lv_aload_n X.ex X.co dX10_putNumber_28 rfl (lv_at hl 1 rfl) ?_
        refine lv_bipush (v := 48) X.ex X.co dX10_putNumber_29 (by decide) ?_
        refine lv_iload_n X.ex X.co dX10_putNumber_31 rfl (lv_at hl 2 rfl) ?_
        refine lv_iload_n X.ex X.co dX10_putNumber_32 rfl (lv_at hl 0 rfl) ?_
        refine n_div X (x := v) (y := 10) (by omega) (by decide) (by decide) dX10_putNumber_33 ?_
        refine lv_bipush (v := 10) X.ex X.co dX10_putNumber_34 (by decide) ?_
        refine n_rem X (x := v / 10) (y := 10) (by omega) (by decide) (by decide) dX10_putNumber_36 ?_
        refine n_add X (x := 48) (y := (v / 10) % 10) dX10_putNumber_37 ?_
        refine lv_i2c (v := nI (48 + ((v / 10) % 10))) X.ex X.co dX10_putNumber_38 (n_i2c (by omega)) ?_
        refine q_vV X ce_X10_put m_1730 (c_X10_put l G mad A hAg σ (by first | omega | (simp only [putS_sz, putL_sz]; omega)) (nI (48 + ((v / 10) % 10))) (nar_c (by omega))) (g0.step hS hAg) F (mo F) rfl (by decide) rfl hl.1 rfl (Nat.le_of_ble_eq_true rfl) dX10_putNumber_39 (by omega) (by omega) hS (fun _ h => h) (fun H locs F hz hk hS => ?_)
        refine lv_iload_n X.ex X.co dX10_putNumber_42 rfl (lv_at hl 0 rfl) ?_
        refine lv_bipush (v := 10) X.ex X.co dX10_putNumber_43 (by decide) ?_
        refine lv_idiv X.ex X.co dX10_putNumber_45 (by decide) (top_eq (y := 1) (by decide) ?_)
        refine lv_istore_n (lv' := [(2, .int 1), (0, .ref (mad (0, 0))), (1, .int (nI v))]) X.ex X.co dX10_putNumber_46 rfl hl (by decide) rfl (fun ls hl => ?_)
        refine lv_goto (tgt := 24) X.ex X.co dX10_putNumber_47 (by decide) ?_
        refine lv_iload_n X.ex X.co dX10_putNumber_24 rfl (lv_at hl 0 rfl) ?_
        refine lv_if_le (tgt := 50) X.ex X.co dX10_putNumber_25 (by decide) (fun c_6 => ?_) (fun c_6 => ?_)
        · exact absurd c_6 (by decide)
        · refine lv_aload_n X.ex X.co dX10_putNumber_28 rfl (lv_at hl 1 rfl) ?_
          refine lv_bipush (v := 48) X.ex X.co dX10_putNumber_29 (by decide) ?_
          refine lv_iload_n X.ex X.co dX10_putNumber_31 rfl (lv_at hl 2 rfl) ?_
          refine lv_iload_n X.ex X.co dX10_putNumber_32 rfl (lv_at hl 0 rfl) ?_
          refine n_div X (x := v) (y := 1) (by omega) (by decide) (by decide) dX10_putNumber_33 ?_
          refine lv_bipush (v := 10) X.ex X.co dX10_putNumber_34 (by decide) ?_
          refine n_rem X (x := v / 1) (y := 10) (by omega) (by decide) (by decide) dX10_putNumber_36 ?_
          refine n_add X (x := 48) (y := (v / 1) % 10) dX10_putNumber_37 ?_
          refine lv_i2c (v := nI (48 + ((v / 1) % 10))) X.ex X.co dX10_putNumber_38 (n_i2c (by omega)) ?_
          refine q_vV X ce_X10_put m_1730 (c_X10_put l G mad A hAg (putS σ (nI (48 + ((v / 10) % 10)))) (by first | omega | (simp only [putS_sz, putL_sz]; omega)) (nI (48 + ((v / 1) % 10))) (nar_c (by omega))) (g0.step hS hAg) F (mo F) rfl (by decide) rfl hl.1 rfl (Nat.le_of_ble_eq_true rfl) dX10_putNumber_39 (by omega) (by omega) hS (fun _ h => h) (fun H locs F hz hk hS => ?_)
          refine lv_iload_n X.ex X.co dX10_putNumber_42 rfl (lv_at hl 0 rfl) ?_
          refine lv_bipush (v := 10) X.ex X.co dX10_putNumber_43 (by decide) ?_
          refine lv_idiv X.ex X.co dX10_putNumber_45 (by decide) (top_eq (y := 0) (by decide) ?_)
          refine lv_istore_n (lv' := [(2, .int 0), (0, .ref (mad (0, 0))), (1, .int (nI v))]) X.ex X.co dX10_putNumber_46 rfl hl (by decide) rfl (fun ls hl => ?_)
          refine lv_goto (tgt := 24) X.ex X.co dX10_putNumber_47 (by decide) ?_
          refine lv_iload_n X.ex X.co dX10_putNumber_24 rfl (lv_at hl 0 rfl) ?_
          refine lv_if_le (tgt := 50) X.ex X.co dX10_putNumber_25 (by decide) (fun c_7 => ?_) (fun c_7 => ?_)
          · exact c_v X hS rfl ⟨rfl, (by have q : putL σ (decS v) = (putS (putS σ (nI (48 + ((v / 10) % 10)))) (nI (48 + ((v / 1) % 10)))) := (by simp only [decS]; rw [if_neg (by omega), if_pos (by omega)]; simp only [Nat.div_one, Nat.mod_eq_of_lt (show v / 10 < 10 by omega)]; rfl); rw [q]; exact F)⟩ (by omega) (by omega) dX10_putNumber_50
          · exact absurd (by decide) c_7
  · refine lv_bipush (v := 100) X.ex X.co dX10_putNumber_6 (by decide) ?_
    refine lv_goto (tgt := 23) X.ex X.co dX10_putNumber_8 (by decide) ?_
    refine lv_istore_n (lv' := [(2, .int 100), (0, .ref (mad (0, 0))), (1, .int (nI v))]) X.ex X.co dX10_putNumber_23 rfl hl (by decide) rfl (fun ls hl => ?_)
    refine lv_iload_n X.ex X.co dX10_putNumber_24 rfl (lv_at hl 0 rfl) ?_
    refine lv_if_le (tgt := 50) X.ex X.co dX10_putNumber_25 (by decide) (fun c_8 => ?_) (fun c_8 => ?_)
    · exact absurd c_8 (by decide)
    · refine lv_aload_n X.ex X.co dX10_putNumber_28 rfl (lv_at hl 1 rfl) ?_
      refine lv_bipush (v := 48) X.ex X.co dX10_putNumber_29 (by decide) ?_
      refine lv_iload_n X.ex X.co dX10_putNumber_31 rfl (lv_at hl 2 rfl) ?_
      refine lv_iload_n X.ex X.co dX10_putNumber_32 rfl (lv_at hl 0 rfl) ?_
      refine n_div X (x := v) (y := 100) (by omega) (by decide) (by decide) dX10_putNumber_33 ?_
      refine lv_bipush (v := 10) X.ex X.co dX10_putNumber_34 (by decide) ?_
      refine n_rem X (x := v / 100) (y := 10) (by omega) (by decide) (by decide) dX10_putNumber_36 ?_
      refine n_add X (x := 48) (y := (v / 100) % 10) dX10_putNumber_37 ?_
      refine lv_i2c (v := nI (48 + ((v / 100) % 10))) X.ex X.co dX10_putNumber_38 (n_i2c (by omega)) ?_
      refine q_vV X ce_X10_put m_1730 (c_X10_put l G mad A hAg σ (by first | omega | (simp only [putS_sz, putL_sz]; omega)) (nI (48 + ((v / 100) % 10))) (nar_c (by omega))) (g0.step hS hAg) F (mo F) rfl (by decide) rfl hl.1 rfl (Nat.le_of_ble_eq_true rfl) dX10_putNumber_39 (by omega) (by omega) hS (fun _ h => h) (fun H locs F hz hk hS => ?_)
      refine lv_iload_n X.ex X.co dX10_putNumber_42 rfl (lv_at hl 0 rfl) ?_
      refine lv_bipush (v := 10) X.ex X.co dX10_putNumber_43 (by decide) ?_
      refine lv_idiv X.ex X.co dX10_putNumber_45 (by decide) (top_eq (y := 10) (by decide) ?_)
      refine lv_istore_n (lv' := [(2, .int 10), (0, .ref (mad (0, 0))), (1, .int (nI v))]) X.ex X.co dX10_putNumber_46 rfl hl (by decide) rfl (fun ls hl => ?_)
      refine lv_goto (tgt := 24) X.ex X.co dX10_putNumber_47 (by decide) ?_
      refine lv_iload_n X.ex X.co dX10_putNumber_24 rfl (lv_at hl 0 rfl) ?_
      refine lv_if_le (tgt := 50) X.ex X.co dX10_putNumber_25 (by decide) (fun c_9 => ?_) (fun c_9 => ?_)
      · exact absurd c_9 (by decide)
      · refine lv_aload_n X.ex X.co dX10_putNumber_28 rfl (lv_at hl 1 rfl) ?_
        refine lv_bipush (v := 48) X.ex X.co dX10_putNumber_29 (by decide) ?_
        refine lv_iload_n X.ex X.co dX10_putNumber_31 rfl (lv_at hl 2 rfl) ?_
        refine lv_iload_n X.ex X.co dX10_putNumber_32 rfl (lv_at hl 0 rfl) ?_
        refine n_div X (x := v) (y := 10) (by omega) (by decide) (by decide) dX10_putNumber_33 ?_
        refine lv_bipush (v := 10) X.ex X.co dX10_putNumber_34 (by decide) ?_
        refine n_rem X (x := v / 10) (y := 10) (by omega) (by decide) (by decide) dX10_putNumber_36 ?_
        refine n_add X (x := 48) (y := (v / 10) % 10) dX10_putNumber_37 ?_
        refine lv_i2c (v := nI (48 + ((v / 10) % 10))) X.ex X.co dX10_putNumber_38 (n_i2c (by omega)) ?_
        refine q_vV X ce_X10_put m_1730 (c_X10_put l G mad A hAg (putS σ (nI (48 + ((v / 100) % 10)))) (by first | omega | (simp only [putS_sz, putL_sz]; omega)) (nI (48 + ((v / 10) % 10))) (nar_c (by omega))) (g0.step hS hAg) F (mo F) rfl (by decide) rfl hl.1 rfl (Nat.le_of_ble_eq_true rfl) dX10_putNumber_39 (by omega) (by omega) hS (fun _ h => h) (fun H locs F hz hk hS => ?_)
        refine lv_iload_n X.ex X.co dX10_putNumber_42 rfl (lv_at hl 0 rfl) ?_
        refine lv_bipush (v := 10) X.ex X.co dX10_putNumber_43 (by decide) ?_
        refine lv_idiv X.ex X.co dX10_putNumber_45 (by decide) (top_eq (y := 1) (by decide) ?_)
        refine lv_istore_n (lv' := [(2, .int 1), (0, .ref (mad (0, 0))), (1, .int (nI v))]) X.ex X.co dX10_putNumber_46 rfl hl (by decide) rfl (fun ls hl => ?_)
        refine lv_goto (tgt := 24) X.ex X.co dX10_putNumber_47 (by decide) ?_
        refine lv_iload_n X.ex X.co dX10_putNumber_24 rfl (lv_at hl 0 rfl) ?_
        refine lv_if_le (tgt := 50) X.ex X.co dX10_putNumber_25 (by decide) (fun c_10 => ?_) (fun c_10 => ?_)
        · exact absurd c_10 (by decide)
        · refine lv_aload_n X.ex X.co dX10_putNumber_28 rfl (lv_at hl 1 rfl) ?_
          refine lv_bipush (v := 48) X.ex X.co dX10_putNumber_29 (by decide) ?_
          refine lv_iload_n X.ex X.co dX10_putNumber_31 rfl (lv_at hl 2 rfl) ?_
          refine lv_iload_n X.ex X.co dX10_putNumber_32 rfl (lv_at hl 0 rfl) ?_
          refine n_div X (x := v) (y := 1) (by omega) (by decide) (by decide) dX10_putNumber_33 ?_
          refine lv_bipush (v := 10) X.ex X.co dX10_putNumber_34 (by decide) ?_
          refine n_rem X (x := v / 1) (y := 10) (by omega) (by decide) (by decide) dX10_putNumber_36 ?_
          refine n_add X (x := 48) (y := (v / 1) % 10) dX10_putNumber_37 ?_
          refine lv_i2c (v := nI (48 + ((v / 1) % 10))) X.ex X.co dX10_putNumber_38 (n_i2c (by omega)) ?_
          refine q_vV X ce_X10_put m_1730 (c_X10_put l G mad A hAg (putS (putS σ (nI (48 + ((v / 100) % 10)))) (nI (48 + ((v / 10) % 10)))) (by first | omega | (simp only [putS_sz, putL_sz]; omega)) (nI (48 + ((v / 1) % 10))) (nar_c (by omega))) (g0.step hS hAg) F (mo F) rfl (by decide) rfl hl.1 rfl (Nat.le_of_ble_eq_true rfl) dX10_putNumber_39 (by omega) (by omega) hS (fun _ h => h) (fun H locs F hz hk hS => ?_)
          refine lv_iload_n X.ex X.co dX10_putNumber_42 rfl (lv_at hl 0 rfl) ?_
          refine lv_bipush (v := 10) X.ex X.co dX10_putNumber_43 (by decide) ?_
          refine lv_idiv X.ex X.co dX10_putNumber_45 (by decide) (top_eq (y := 0) (by decide) ?_)
          refine lv_istore_n (lv' := [(2, .int 0), (0, .ref (mad (0, 0))), (1, .int (nI v))]) X.ex X.co dX10_putNumber_46 rfl hl (by decide) rfl (fun ls hl => ?_)
          refine lv_goto (tgt := 24) X.ex X.co dX10_putNumber_47 (by decide) ?_
          refine lv_iload_n X.ex X.co dX10_putNumber_24 rfl (lv_at hl 0 rfl) ?_
          refine lv_if_le (tgt := 50) X.ex X.co dX10_putNumber_25 (by decide) (fun c_11 => ?_) (fun c_11 => ?_)
          · exact c_v X hS rfl ⟨rfl, (by have q : putL σ (decS v) = (putS (putS (putS σ (nI (48 + ((v / 100) % 10)))) (nI (48 + ((v / 10) % 10)))) (nI (48 + ((v / 1) % 10)))) := (by simp only [decS]; rw [if_neg (by omega), if_neg (by omega)]; simp only [Nat.div_one]; rfl); rw [q]; exact F)⟩ (by omega) (by omega) dX10_putNumber_50
          · exact absurd (by decide) c_11
set_option maxHeartbeats 4000000 in
set_option maxRecDepth 100000 in
theorem c_X10_putAnswer (l : Launch) (G : GT) (mad : I2 → Nat) (A : Nat → Prop) (hAg : ∀ q, A q → gA G q) (σ : Sg) (h : nSz σ ≤ 53) : cM l yX10_putAnswer cX10_putAnswer 1 ((Option.none : Option FieldType)) 1 0 0 G [.ref (mad (0, 0))] (mw G mad A σ) (eB none (mw G mad A (putL σ tAns))) A := by
  refine mk_m (by decide) (Nat.le_of_ble_eq_true rfl) ?_
  intro p e s m args below meth c X ls hl g0 F hnm
  have hK := g0.1
  have hS : va_S A s.heap s.heap [] := va_S.rf
  have hl : lv_has ls 1 [(0, .ref (mad (0, 0)))] := hl
  show Wc p l e 1 0 0 s m args below meth c (eB none (mw G mad A (putL σ tAns))) A s.heap [] 0 0 0 ls []
  refine lv_aload_n X.ex X.co dX10_putAnswer_0 rfl (lv_at hl 0 rfl) ?_
  refine lv_bipush (v := 97) X.ex X.co dX10_putAnswer_1 (by decide) ?_
  refine q_vV X ce_X10_put m_1730 (c_X10_put l G mad A hAg σ (by first | omega | (simp only [putS_sz, putL_sz]; omega)) 97 (by decide)) (g0.step hS hAg) F (mo F) rfl (by decide) rfl hl.1 rfl (Nat.le_of_ble_eq_true rfl) dX10_putAnswer_3 (by omega) (by omega) hS (fun _ h => h) (fun H locs F hz hk hS => ?_)
  refine lv_aload_n X.ex X.co dX10_putAnswer_6 rfl (lv_at hl 0 rfl) ?_
  refine lv_bipush (v := 110) X.ex X.co dX10_putAnswer_7 (by decide) ?_
  refine q_vV X ce_X10_put m_1730 (c_X10_put l G mad A hAg (putS σ 97) (by first | omega | (simp only [putS_sz, putL_sz]; omega)) 110 (by decide)) (g0.step hS hAg) F (mo F) rfl (by decide) rfl hl.1 rfl (Nat.le_of_ble_eq_true rfl) dX10_putAnswer_9 (by omega) (by omega) hS (fun _ h => h) (fun H locs F hz hk hS => ?_)
  refine lv_aload_n X.ex X.co dX10_putAnswer_12 rfl (lv_at hl 0 rfl) ?_
  refine lv_bipush (v := 115) X.ex X.co dX10_putAnswer_13 (by decide) ?_
  refine q_vV X ce_X10_put m_1730 (c_X10_put l G mad A hAg (putS (putS σ 97) 110) (by first | omega | (simp only [putS_sz, putL_sz]; omega)) 115 (by decide)) (g0.step hS hAg) F (mo F) rfl (by decide) rfl hl.1 rfl (Nat.le_of_ble_eq_true rfl) dX10_putAnswer_15 (by omega) (by omega) hS (fun _ h => h) (fun H locs F hz hk hS => ?_)
  refine lv_aload_n X.ex X.co dX10_putAnswer_18 rfl (lv_at hl 0 rfl) ?_
  refine lv_bipush (v := 119) X.ex X.co dX10_putAnswer_19 (by decide) ?_
  refine q_vV X ce_X10_put m_1730 (c_X10_put l G mad A hAg (putS (putS (putS σ 97) 110) 115) (by first | omega | (simp only [putS_sz, putL_sz]; omega)) 119 (by decide)) (g0.step hS hAg) F (mo F) rfl (by decide) rfl hl.1 rfl (Nat.le_of_ble_eq_true rfl) dX10_putAnswer_21 (by omega) (by omega) hS (fun _ h => h) (fun H locs F hz hk hS => ?_)
  refine lv_aload_n X.ex X.co dX10_putAnswer_24 rfl (lv_at hl 0 rfl) ?_
  refine lv_bipush (v := 101) X.ex X.co dX10_putAnswer_25 (by decide) ?_
  refine q_vV X ce_X10_put m_1730 (c_X10_put l G mad A hAg (putS (putS (putS (putS σ 97) 110) 115) 119) (by first | omega | (simp only [putS_sz, putL_sz]; omega)) 101 (by decide)) (g0.step hS hAg) F (mo F) rfl (by decide) rfl hl.1 rfl (Nat.le_of_ble_eq_true rfl) dX10_putAnswer_27 (by omega) (by omega) hS (fun _ h => h) (fun H locs F hz hk hS => ?_)
  refine lv_aload_n X.ex X.co dX10_putAnswer_30 rfl (lv_at hl 0 rfl) ?_
  refine lv_bipush (v := 114) X.ex X.co dX10_putAnswer_31 (by decide) ?_
  refine q_vV X ce_X10_put m_1730 (c_X10_put l G mad A hAg (putS (putS (putS (putS (putS σ 97) 110) 115) 119) 101) (by first | omega | (simp only [putS_sz, putL_sz]; omega)) 114 (by decide)) (g0.step hS hAg) F (mo F) rfl (by decide) rfl hl.1 rfl (Nat.le_of_ble_eq_true rfl) dX10_putAnswer_33 (by omega) (by omega) hS (fun _ h => h) (fun H locs F hz hk hS => ?_)
  refine lv_aload_n X.ex X.co dX10_putAnswer_36 rfl (lv_at hl 0 rfl) ?_
  refine lv_bipush (v := 32) X.ex X.co dX10_putAnswer_37 (by decide) ?_
  refine q_vV X ce_X10_put m_1730 (c_X10_put l G mad A hAg (putS (putS (putS (putS (putS (putS σ 97) 110) 115) 119) 101) 114) (by first | omega | (simp only [putS_sz, putL_sz]; omega)) 32 (by decide)) (g0.step hS hAg) F (mo F) rfl (by decide) rfl hl.1 rfl (Nat.le_of_ble_eq_true rfl) dX10_putAnswer_39 (by omega) (by omega) hS (fun _ h => h) (fun H locs F hz hk hS => ?_)
  exact c_v X hS rfl ⟨rfl, F⟩ (by omega) (by omega) dX10_putAnswer_42
set_option maxHeartbeats 4000000 in
set_option maxRecDepth 100000 in
theorem c_X10_putPassed (l : Launch) (G : GT) (mad : I2 → Nat) (A : Nat → Prop) (hAg : ∀ q, A q → gA G q) (σ : Sg) (b : Bool) (h : nSz σ ≤ 53) : cM l yX10_putPassed cX10_putPassed 2 ((Option.none : Option FieldType)) 1 0 0 G [.ref (mad (0, 0)), .int (bI b)] (mw G mad A σ) (eB none (mw G mad A (putL σ (if b then tPas else tFai)))) A := by
  refine mk_m (by decide) (Nat.le_of_ble_eq_true rfl) ?_
  intro p e s m args below meth c X ls hl g0 F hnm
  have hK := g0.1
  have hS : va_S A s.heap s.heap [] := va_S.rf
  have hl : lv_has ls 2 [(0, .ref (mad (0, 0))), (1, .int (bI b))] := hl
  show Wc p l e 1 0 0 s m args below meth c (eB none (mw G mad A (putL σ (if b then tPas else tFai)))) A s.heap [] 0 0 0 ls []
  refine lv_aload_n X.ex X.co dX10_putPassed_0 rfl (lv_at hl 0 rfl) ?_
  refine lv_bipush (v := 32) X.ex X.co dX10_putPassed_1 (by decide) ?_
  refine q_vV X ce_X10_put m_1730 (c_X10_put l G mad A hAg σ (by first | omega | (simp only [putS_sz, putL_sz]; omega)) 32 (by decide)) (g0.step hS hAg) F (mo F) rfl (by decide) rfl hl.1 rfl (Nat.le_of_ble_eq_true rfl) dX10_putPassed_3 (by omega) (by omega) hS (fun _ h => h) (fun H locs F hz hk hS => ?_)
  refine lv_aload_n X.ex X.co dX10_putPassed_6 rfl (lv_at hl 0 rfl) ?_
  refine lv_iload_n X.ex X.co dX10_putPassed_7 rfl (lv_at hl 1 rfl) ?_
  refine b_if_eq X (x := b) (tgt := 16) dX10_putPassed_8 (by decide) (fun c_1 => ?_) (fun c_1 => ?_)
  · refine lv_bipush (v := 102) X.ex X.co dX10_putPassed_16 (by decide) ?_
    refine q_vV X ce_X10_put m_1730 (c_X10_put l G mad A hAg (putS σ 32) (by first | omega | (simp only [putS_sz, putL_sz]; omega)) 102 (by decide)) (g0.step hS hAg) F (mo F) rfl (by decide) rfl hl.1 rfl (Nat.le_of_ble_eq_true rfl) dX10_putPassed_18 (by omega) (by omega) hS (fun _ h => h) (fun H locs F hz hk hS => ?_)
    refine lv_aload_n X.ex X.co dX10_putPassed_21 rfl (lv_at hl 0 rfl) ?_
    refine lv_bipush (v := 97) X.ex X.co dX10_putPassed_22 (by decide) ?_
    refine q_vV X ce_X10_put m_1730 (c_X10_put l G mad A hAg (putS (putS σ 32) 102) (by first | omega | (simp only [putS_sz, putL_sz]; omega)) 97 (by decide)) (g0.step hS hAg) F (mo F) rfl (by decide) rfl hl.1 rfl (Nat.le_of_ble_eq_true rfl) dX10_putPassed_24 (by omega) (by omega) hS (fun _ h => h) (fun H locs F hz hk hS => ?_)
    refine lv_aload_n X.ex X.co dX10_putPassed_27 rfl (lv_at hl 0 rfl) ?_
    refine lv_iload_n X.ex X.co dX10_putPassed_28 rfl (lv_at hl 1 rfl) ?_
    refine b_if_eq X (x := b) (tgt := 37) dX10_putPassed_29 (by decide) (fun c_2 => ?_) (fun c_2 => ?_)
    · refine lv_bipush (v := 105) X.ex X.co dX10_putPassed_37 (by decide) ?_
      refine q_vV X ce_X10_put m_1730 (c_X10_put l G mad A hAg (putS (putS (putS σ 32) 102) 97) (by first | omega | (simp only [putS_sz, putL_sz]; omega)) 105 (by decide)) (g0.step hS hAg) F (mo F) rfl (by decide) rfl hl.1 rfl (Nat.le_of_ble_eq_true rfl) dX10_putPassed_39 (by omega) (by omega) hS (fun _ h => h) (fun H locs F hz hk hS => ?_)
      refine lv_aload_n X.ex X.co dX10_putPassed_42 rfl (lv_at hl 0 rfl) ?_
      refine lv_iload_n X.ex X.co dX10_putPassed_43 rfl (lv_at hl 1 rfl) ?_
      refine b_if_eq X (x := b) (tgt := 52) dX10_putPassed_44 (by decide) (fun c_3 => ?_) (fun c_3 => ?_)
      · refine lv_bipush (v := 108) X.ex X.co dX10_putPassed_52 (by decide) ?_
        refine q_vV X ce_X10_put m_1730 (c_X10_put l G mad A hAg (putS (putS (putS (putS σ 32) 102) 97) 105) (by first | omega | (simp only [putS_sz, putL_sz]; omega)) 108 (by decide)) (g0.step hS hAg) F (mo F) rfl (by decide) rfl hl.1 rfl (Nat.le_of_ble_eq_true rfl) dX10_putPassed_54 (by omega) (by omega) hS (fun _ h => h) (fun H locs F hz hk hS => ?_)
        refine lv_aload_n X.ex X.co dX10_putPassed_57 rfl (lv_at hl 0 rfl) ?_
        refine lv_bipush (v := 101) X.ex X.co dX10_putPassed_58 (by decide) ?_
        refine q_vV X ce_X10_put m_1730 (c_X10_put l G mad A hAg (putS (putS (putS (putS (putS σ 32) 102) 97) 105) 108) (by first | omega | (simp only [putS_sz, putL_sz]; omega)) 101 (by decide)) (g0.step hS hAg) F (mo F) rfl (by decide) rfl hl.1 rfl (Nat.le_of_ble_eq_true rfl) dX10_putPassed_60 (by omega) (by omega) hS (fun _ h => h) (fun H locs F hz hk hS => ?_)
        refine lv_aload_n X.ex X.co dX10_putPassed_63 rfl (lv_at hl 0 rfl) ?_
        refine lv_bipush (v := 100) X.ex X.co dX10_putPassed_64 (by decide) ?_
        refine q_vV X ce_X10_put m_1730 (c_X10_put l G mad A hAg (putS (putS (putS (putS (putS (putS σ 32) 102) 97) 105) 108) 101) (by first | omega | (simp only [putS_sz, putL_sz]; omega)) 100 (by decide)) (g0.step hS hAg) F (mo F) rfl (by decide) rfl hl.1 rfl (Nat.le_of_ble_eq_true rfl) dX10_putPassed_66 (by omega) (by omega) hS (fun _ h => h) (fun H locs F hz hk hS => ?_)
        exact c_v X hS rfl ⟨rfl, by subst c_1; exact F⟩ (by omega) (by omega) dX10_putPassed_69
      · exact Bool.noConfusion (c_1.symm.trans c_3)
    · exact Bool.noConfusion (c_1.symm.trans c_2)
  · refine lv_bipush (v := 112) X.ex X.co dX10_putPassed_11 (by decide) ?_
    refine lv_goto (tgt := 18) X.ex X.co dX10_putPassed_13 (by decide) ?_
    refine q_vV X ce_X10_put m_1730 (c_X10_put l G mad A hAg (putS σ 32) (by first | omega | (simp only [putS_sz, putL_sz]; omega)) 112 (by decide)) (g0.step hS hAg) F (mo F) rfl (by decide) rfl hl.1 rfl (Nat.le_of_ble_eq_true rfl) dX10_putPassed_18 (by omega) (by omega) hS (fun _ h => h) (fun H locs F hz hk hS => ?_)
    refine lv_aload_n X.ex X.co dX10_putPassed_21 rfl (lv_at hl 0 rfl) ?_
    refine lv_bipush (v := 97) X.ex X.co dX10_putPassed_22 (by decide) ?_
    refine q_vV X ce_X10_put m_1730 (c_X10_put l G mad A hAg (putS (putS σ 32) 112) (by first | omega | (simp only [putS_sz, putL_sz]; omega)) 97 (by decide)) (g0.step hS hAg) F (mo F) rfl (by decide) rfl hl.1 rfl (Nat.le_of_ble_eq_true rfl) dX10_putPassed_24 (by omega) (by omega) hS (fun _ h => h) (fun H locs F hz hk hS => ?_)
    refine lv_aload_n X.ex X.co dX10_putPassed_27 rfl (lv_at hl 0 rfl) ?_
    refine lv_iload_n X.ex X.co dX10_putPassed_28 rfl (lv_at hl 1 rfl) ?_
    refine b_if_eq X (x := b) (tgt := 37) dX10_putPassed_29 (by decide) (fun c_4 => ?_) (fun c_4 => ?_)
    · exact Bool.noConfusion (c_1.symm.trans c_4)
    · refine lv_bipush (v := 115) X.ex X.co dX10_putPassed_32 (by decide) ?_
      refine lv_goto (tgt := 39) X.ex X.co dX10_putPassed_34 (by decide) ?_
      refine q_vV X ce_X10_put m_1730 (c_X10_put l G mad A hAg (putS (putS (putS σ 32) 112) 97) (by first | omega | (simp only [putS_sz, putL_sz]; omega)) 115 (by decide)) (g0.step hS hAg) F (mo F) rfl (by decide) rfl hl.1 rfl (Nat.le_of_ble_eq_true rfl) dX10_putPassed_39 (by omega) (by omega) hS (fun _ h => h) (fun H locs F hz hk hS => ?_)
      refine lv_aload_n X.ex X.co dX10_putPassed_42 rfl (lv_at hl 0 rfl) ?_
      refine lv_iload_n X.ex X.co dX10_putPassed_43 rfl (lv_at hl 1 rfl) ?_
      refine b_if_eq X (x := b) (tgt := 52) dX10_putPassed_44 (by decide) (fun c_5 => ?_) (fun c_5 => ?_)
      · exact Bool.noConfusion (c_1.symm.trans c_5)
      · refine lv_bipush (v := 115) X.ex X.co dX10_putPassed_47 (by decide) ?_
        refine lv_goto (tgt := 54) X.ex X.co dX10_putPassed_49 (by decide) ?_
        refine q_vV X ce_X10_put m_1730 (c_X10_put l G mad A hAg (putS (putS (putS (putS σ 32) 112) 97) 115) (by first | omega | (simp only [putS_sz, putL_sz]; omega)) 115 (by decide)) (g0.step hS hAg) F (mo F) rfl (by decide) rfl hl.1 rfl (Nat.le_of_ble_eq_true rfl) dX10_putPassed_54 (by omega) (by omega) hS (fun _ h => h) (fun H locs F hz hk hS => ?_)
        refine lv_aload_n X.ex X.co dX10_putPassed_57 rfl (lv_at hl 0 rfl) ?_
        refine lv_bipush (v := 101) X.ex X.co dX10_putPassed_58 (by decide) ?_
        refine q_vV X ce_X10_put m_1730 (c_X10_put l G mad A hAg (putS (putS (putS (putS (putS σ 32) 112) 97) 115) 115) (by first | omega | (simp only [putS_sz, putL_sz]; omega)) 101 (by decide)) (g0.step hS hAg) F (mo F) rfl (by decide) rfl hl.1 rfl (Nat.le_of_ble_eq_true rfl) dX10_putPassed_60 (by omega) (by omega) hS (fun _ h => h) (fun H locs F hz hk hS => ?_)
        refine lv_aload_n X.ex X.co dX10_putPassed_63 rfl (lv_at hl 0 rfl) ?_
        refine lv_bipush (v := 100) X.ex X.co dX10_putPassed_64 (by decide) ?_
        refine q_vV X ce_X10_put m_1730 (c_X10_put l G mad A hAg (putS (putS (putS (putS (putS (putS σ 32) 112) 97) 115) 115) 101) (by first | omega | (simp only [putS_sz, putL_sz]; omega)) 100 (by decide)) (g0.step hS hAg) F (mo F) rfl (by decide) rfl hl.1 rfl (Nat.le_of_ble_eq_true rfl) dX10_putPassed_66 (by omega) (by omega) hS (fun _ h => h) (fun H locs F hz hk hS => ?_)
        exact c_v X hS rfl ⟨rfl, by subst c_1; exact F⟩ (by omega) (by omega) dX10_putPassed_69
