theorem ce_Jx4a65c_fastRemove_b59b0 : ceV yJx4a65c_fastRemove_b59b0 cJx4a65c_fastRemove_b59b0 4 ((Option.none : Option FieldType)) 2 := ⟨m_864, mp_17, m_4, m_865, ⟨by decide, by decide, by decide +kernel⟩, by decide⟩
theorem ce_Jx4a65c_remove_915e3 : ceV yJx4a65c_remove_915e3 cJx4a65c_remove_915e3 4 ((Option.some (FieldType.object "java/lang/Object"))) 1 := ⟨m_859, m_860, m_4, m_861, ⟨by decide, by decide, by decide +kernel⟩, by decide⟩
theorem ce_Jx4a65c_clear_da8c8 : ceV yJx4a65c_clear_da8c8 cJx4a65c_clear_da8c8 4 ((Option.none : Option FieldType)) 0 := ⟨m_897, m_898, m_4, m_899, ⟨by decide, by decide, by decide +kernel⟩, by decide⟩
theorem ce_Jx4a65c_rangeCheckForAdd_d00df : ceV yJx4a65c_rangeCheckForAdd_d00df cJx4a65c_rangeCheckForAdd_d00df 2 ((Option.none : Option FieldType)) 1 := ⟨m_915, mp_20, m_4, m_916, ⟨by decide, by decide, by decide +kernel⟩, by decide⟩
theorem ce_Jx4a65c_add_7a177 : ceV yJx4a65c_add_7a177 cJx4a65c_add_7a177 5 ((Option.none : Option FieldType)) 2 := ⟨m_910, m_911, m_4, m_912, ⟨by decide, by decide, by decide +kernel⟩, by decide⟩
set_option maxHeartbeats 4000000 in
set_option maxRecDepth 100000 in
theorem c_Jx4a65c_fastRemove_b59b0 (l : Launch) (G : GT) (A : Nat → Prop) (hAg : ∀ q, A q → gA G q) (lv : I2 → Prop) (ad : I2 → Nat) (en : I2 → va_E) (i k : I2) (hki : k ≠ i) (hi : lv i) (hk : lv k) (a d n q j : Nat) (x : Int32) (f : Nat → Option Nat) (hai : ad i = a) (hei : en i = LO x d n) (hak : ad k = d) (hek : en k = LA G q f) (hj : j < n) (hn : n ≤ q) (hq : q ≤ 1000) (hf : okF lv ad en f q) : cM l yJx4a65c_fastRemove_b59b0 cJx4a65c_fastRemove_b59b0 4 ((Option.none : Option FieldType)) 0 0 0 G [.ref a, .ref d, .int (nI j)] (fw G.1 lv ad en A) (eB none (fw G.1 lv ad (iup (iup en i (LO (x + 1) d (n - 1))) k (LA G q (rmv f n j))) A)) A := by
  refine mk_m (by decide) (Nat.le_of_ble_eq_true rfl) ?_
  intro p e s m args below meth c X ls hl g0 F hnm
  have hK := g0.1
  have hS : va_S A s.heap s.heap [] := va_S.rf
  have hl : lv_has ls 4 [(0, .ref a), (1, .ref d), (2, .int (nI j))] := hl
  show W p l e (RM 0 0 0) s m args below meth c s.heap [] 0 0 (MQ below (cQ (eB none (fw G.1 lv ad (iup (iup en i (LO (x + 1) d (n - 1))) k (LA G q (rmv f n j))) A)) A) args s 0 0 A) (F0 m 0 ls [])
  refine lv_aload_n X.ex X.co dJx4a65c_fastRemove_b59b0_0 rfl (lv_at hl 0 rfl) ?_
  refine lv_dup X.ex X.co dJx4a65c_fastRemove_b59b0_1 rfl ?_
  have at_1 := fw.get F hi hai hei
  refine f_get X hK at_1 okAL rfl 0 (by decide) m_64 (fun _ h => u_same (X.ts _ m_65) _ h) (v := .int x) rfl dJx4a65c_fastRemove_b59b0_2 ?_
  refine lv_iconst (v := 1) X.ex X.co dJx4a65c_fastRemove_b59b0_5 (by decide) ?_
  refine lv_iadd X.ex X.co dJx4a65c_fastRemove_b59b0_6 ?_
  refine f_put X hK F hS hi hai (ci := 4) (fs := [.int x, .ref d, .int (nI n)]) hei okAL rfl 0 (by decide) m_64 (fun _ h => u_same (X.ts _ m_65) _ h) rfl (v := .int (x + 1)) rfl rfl rfl (Nat.le_of_ble_eq_true rfl) dJx4a65c_fastRemove_b59b0_7 (fun H locs F hS => ?_)
  have F : fw G.1 lv ad (iup en i (.inr (4, [.int (x + 1), .ref d, .int (nI n)]))) A H := F
  refine lv_aload_n X.ex X.co dJx4a65c_fastRemove_b59b0_10 rfl (lv_at hl 0 rfl) ?_
  have at_2 := fw.get F hi hai (iup_s _ _ _)
  refine f_get X hK at_2 okAL rfl 2 (by decide) m_62 (fun _ h => h) (v := .int (nI n)) rfl dJx4a65c_fastRemove_b59b0_11 ?_
  refine lv_iconst (v := 1) X.ex X.co dJx4a65c_fastRemove_b59b0_14 (by decide) ?_
  refine n_sub X (x := n) (y := 1) (by omega) dJx4a65c_fastRemove_b59b0_15 ?_
  refine lv_dup X.ex X.co dJx4a65c_fastRemove_b59b0_16 rfl ?_
  refine lv_istore_n (lv' := [(3, .int (nI (n - 1))), (0, .ref a), (1, .ref d), (2, .int (nI j))]) X.ex X.co dJx4a65c_fastRemove_b59b0_17 rfl hl (by decide) rfl (fun ls hl => ?_)
  refine lv_iload_n X.ex X.co dJx4a65c_fastRemove_b59b0_18 rfl (lv_at hl 3 rfl) ?_
  refine n_cmp_le X (x := n - 1) (y := j) (tgt := 34) (by omega) (by omega) dJx4a65c_fastRemove_b59b0_19 (by decide) (fun c_3 => ?_) (fun c_3 => ?_)
  · refine lv_aload_n X.ex X.co dJx4a65c_fastRemove_b59b0_34 rfl (lv_at hl 2 rfl) ?_
    refine lv_aload_n X.ex X.co dJx4a65c_fastRemove_b59b0_35 rfl (lv_at hl 1 rfl) ?_
    refine lv_iload_n X.ex X.co dJx4a65c_fastRemove_b59b0_36 rfl (lv_at hl 0 rfl) ?_
    refine lv_dup_x1 X.ex X.co dJx4a65c_fastRemove_b59b0_37 rfl rfl ?_
    refine f_put X hK F hS hi hai (ci := 4) (fs := [.int (x + 1), .ref d, .int (nI n)]) (iup_s _ _ _) okAL rfl 2 (by decide) m_62 (fun _ h => h) rfl (v := .int (nI (n - 1))) rfl rfl rfl (Nat.le_of_ble_eq_true rfl) dJx4a65c_fastRemove_b59b0_38 (fun H locs F hS => ?_)
    rw [iup_iup] at F
    have F : fw G.1 lv ad (iup en i (.inr (4, [.int (x + 1), .ref d, .int (nI (n - 1))]))) A H := F
    refine lv_null X.ex X.co dJx4a65c_fastRemove_b59b0_41 ?_
    refine f_aastN X hK F hS hk hak ((iup_n _ _ hki).trans hek) (x := nI (n - 1)) (vp_in_nI (show n - 1 < q by omega) (by omega)) dJx4a65c_fastRemove_b59b0_42 (fun H locs F hS => ?_)
    rw [nI_clamp (show n - 1 < 2 ^ 31 by omega)] at F
    have F : fw G.1 lv ad (iup (iup en i (.inr (4, [.int (x + 1), .ref d, .int (nI (n - 1))]))) k (.inl (G.2.1 4, q, .inr (.inr (.inr (.inr (va_up f (n - 1) none))))))) A H := F
    exact c_v X hS rfl ⟨rfl, (by unfold rmv; rw [show n - 1 - j = 0 by omega, cpy_0]; first | exact F | (rw [iup_sw hki] at F; exact F))⟩ (by first | omega | decide) (by first | omega | decide) dJx4a65c_fastRemove_b59b0_43
  · refine lv_aload_n X.ex X.co dJx4a65c_fastRemove_b59b0_22 rfl (lv_at hl 2 rfl) ?_
    refine lv_iload_n X.ex X.co dJx4a65c_fastRemove_b59b0_23 rfl (lv_at hl 3 rfl) ?_
    refine lv_iconst (v := 1) X.ex X.co dJx4a65c_fastRemove_b59b0_24 (by decide) ?_
    refine n_add X (x := j) (y := 1) dJx4a65c_fastRemove_b59b0_25 ?_
    refine lv_aload_n X.ex X.co dJx4a65c_fastRemove_b59b0_26 rfl (lv_at hl 2 rfl) ?_
    refine lv_iload_n X.ex X.co dJx4a65c_fastRemove_b59b0_27 rfl (lv_at hl 3 rfl) ?_
    refine lv_iload_n X.ex X.co dJx4a65c_fastRemove_b59b0_28 rfl (lv_at hl 0 rfl) ?_
    refine lv_iload_n X.ex X.co dJx4a65c_fastRemove_b59b0_29 rfl (lv_at hl 3 rfl) ?_
    refine n_sub X (x := n - 1) (y := j) (by omega) dJx4a65c_fastRemove_b59b0_30 ?_
    refine f_copyM X hK g0.2.1 F hS hk hak ((iup_n _ _ hki).trans hek) hk hak ((iup_n _ _ hki).trans hek) hl.1 m_866 (j + 1) j ((n - 1) - j) (by omega) (by omega) (by omega) (by omega) (hf.up hei) (Nat.le_of_ble_eq_true rfl) (Nat.le_of_ble_eq_true rfl) dJx4a65c_fastRemove_b59b0_31 (fun H locs F hS => ?_)
    have F : fw G.1 lv ad (iup (iup en i (.inr (4, [.int (x + 1), .ref d, .int (nI n)]))) k (.inl (G.2.1 4, q, .inr (.inr (.inr (.inr (va_cpy f f (j + 1) j ((n - 1) - j)))))))) A H := F
    refine lv_aload_n X.ex X.co dJx4a65c_fastRemove_b59b0_34 rfl (lv_at hl 2 rfl) ?_
    refine lv_aload_n X.ex X.co dJx4a65c_fastRemove_b59b0_35 rfl (lv_at hl 1 rfl) ?_
    refine lv_iload_n X.ex X.co dJx4a65c_fastRemove_b59b0_36 rfl (lv_at hl 0 rfl) ?_
    refine lv_dup_x1 X.ex X.co dJx4a65c_fastRemove_b59b0_37 rfl rfl ?_
    refine f_put X hK F hS hi hai (ci := 4) (fs := [.int (x + 1), .ref d, .int (nI n)]) ((iup_n _ _ (Ne.symm hki)).trans (iup_s _ _ _)) okAL rfl 2 (by decide) m_62 (fun _ h => h) rfl (v := .int (nI (n - 1))) rfl rfl rfl (Nat.le_of_ble_eq_true rfl) dJx4a65c_fastRemove_b59b0_38 (fun H locs F hS => ?_)
    rw [iup_mid hki] at F
    have F : fw G.1 lv ad (iup (iup en i (.inr (4, [.int (x + 1), .ref d, .int (nI (n - 1))]))) k (.inl (G.2.1 4, q, .inr (.inr (.inr (.inr (va_cpy f f (j + 1) j ((n - 1) - j)))))))) A H := F
    refine lv_null X.ex X.co dJx4a65c_fastRemove_b59b0_41 ?_
    refine f_aastN X hK F hS hk hak (iup_s _ _ _) (x := nI (n - 1)) (vp_in_nI (show n - 1 < q by omega) (by omega)) dJx4a65c_fastRemove_b59b0_42 (fun H locs F hS => ?_)
    rw [nI_clamp (show n - 1 < 2 ^ 31 by omega)] at F
    rw [iup_iup] at F
    have F : fw G.1 lv ad (iup (iup en i (.inr (4, [.int (x + 1), .ref d, .int (nI (n - 1))]))) k (.inl (G.2.1 4, q, .inr (.inr (.inr (.inr (va_up (va_cpy f f (j + 1) j ((n - 1) - j)) (n - 1) none))))))) A H := F
    exact c_v X hS rfl ⟨rfl, (by unfold rmv; first | exact F | (rw [iup_sw hki] at F; exact F))⟩ (by first | omega | decide) (by first | omega | decide) dJx4a65c_fastRemove_b59b0_43
set_option maxHeartbeats 4000000 in
set_option maxRecDepth 100000 in
theorem c_Jx4a65c_remove_915e3 (l : Launch) (G : GT) (A : Nat → Prop) (hAg : ∀ q, A q → gA G q) (lv : I2 → Prop) (ad : I2 → Nat) (en : I2 → va_E) (i k : I2) (hki : k ≠ i) (hi : lv i) (hk : lv k) (a d n q j : Nat) (x : Int32) (f : Nat → Option Nat) (hai : ad i = a) (hei : en i = LO x d n) (hak : ad k = d) (hek : en k = LA G q f) (hj : j < n) (hn : n ≤ q) (hq : q ≤ 1000) (hf : okF lv ad en f q) (y : Nat) (hy : f j = some y) : cM l yJx4a65c_remove_915e3 cJx4a65c_remove_915e3 4 ((Option.some (FieldType.object "java/lang/Object"))) 2 0 0 G [.ref a, .int (nI j)] (fw G.1 lv ad en A) (eB (some (.ref y)) (fw G.1 lv ad (iup (iup en i (LO (x + 1) d (n - 1))) k (LA G q (rmv f n j))) A)) A := by
  refine mk_m (by decide) (Nat.le_of_ble_eq_true rfl) ?_
  intro p e s m args below meth c X ls hl g0 F hnm
  have hK := g0.1
  have hS : va_S A s.heap s.heap [] := va_S.rf
  have hl : lv_has ls 4 [(0, .ref a), (1, .int (nI j))] := hl
  show W p l e (RM 2 0 0) s m args below meth c s.heap [] 0 0 (MQ below (cQ (eB (some (.ref y)) (fw G.1 lv ad (iup (iup en i (LO (x + 1) d (n - 1))) k (LA G q (rmv f n j))) A)) A) args s 0 0 A) (F0 m 0 ls [])
  refine lv_iload_n X.ex X.co dJx4a65c_remove_915e3_0 rfl (lv_at hl 1 rfl) ?_
  refine lv_aload_n X.ex X.co dJx4a65c_remove_915e3_1 rfl (lv_at hl 0 rfl) ?_
  have at_1 := fw.get F hi hai hei
  refine f_get X hK at_1 okAL rfl 2 (by decide) m_62 (fun _ h => h) (v := .int (nI n)) rfl dJx4a65c_remove_915e3_2 ?_
  refine q_rS X ce_J15_checkIndex_7cf53 m_168 (c_J15_checkIndex_7cf53 l G j n hj (by omega)) (g0.step hS hAg) trivial (by decide) rfl hl.1 rfl (Nat.le_of_ble_eq_true rfl) dJx4a65c_remove_915e3_5 (by omega) (by omega) ?_
  refine lv_pop X.ex X.co dJx4a65c_remove_915e3_8 rfl ?_
  refine lv_aload_n X.ex X.co dJx4a65c_remove_915e3_9 rfl (lv_at hl 0 rfl) ?_
  have at_2 := fw.get F hi hai hei
  refine f_get X hK at_2 okAL rfl 1 (by decide) m_61 (fun _ h => h) (v := .ref d) rfl dJx4a65c_remove_915e3_10 ?_
  refine lv_astore_n (lv' := [(2, .ref d), (0, .ref a), (1, .int (nI j))]) X.ex X.co dJx4a65c_remove_915e3_13 rfl hl (by decide) rfl (fun ls hl => ?_)
  refine lv_aload_n X.ex X.co dJx4a65c_remove_915e3_14 rfl (lv_at hl 0 rfl) ?_
  refine lv_iload_n X.ex X.co dJx4a65c_remove_915e3_15 rfl (lv_at hl 2 rfl) ?_
  have at_3 := fw.get F hk hak hek
  refine f_aald X hK at_3 (x := nI j) (vp_in_nI (show j < q by omega) (by omega)) dJx4a65c_remove_915e3_16 ?_
  rw [nI_clamp (show j < 2 ^ 31 by omega)]
  rw [hy]
  refine lv_astore_n (lv' := [(3, .ref y), (2, .ref d), (0, .ref a), (1, .int (nI j))]) X.ex X.co dJx4a65c_remove_915e3_17 rfl hl (by decide) rfl (fun ls hl => ?_)
  refine lv_aload_n X.ex X.co dJx4a65c_remove_915e3_18 rfl (lv_at hl 2 rfl) ?_
  refine lv_aload_n X.ex X.co dJx4a65c_remove_915e3_19 rfl (lv_at hl 1 rfl) ?_
  refine lv_iload_n X.ex X.co dJx4a65c_remove_915e3_20 rfl (lv_at hl 3 rfl) ?_
  have at_4 := fw.get F hi hai hei
  refine q_vV X ce_Jx4a65c_fastRemove_b59b0 m_862 (c_Jx4a65c_fastRemove_b59b0 l G A hAg lv ad en i k hki hi hk a d n q j x f hai hei hak hek hj hn hq hf) (g0.step hS hAg) F at_4 rfl (by decide) rfl hl.1 rfl (Nat.le_of_ble_eq_true rfl) dJx4a65c_remove_915e3_21 (by show 0 + 0 ≤ 0; omega) (by show 0 + 0 ≤ 0; omega) hS (fun _ h => h) (fun H locs F hz hk9 hS => ?_)
  refine lv_aload_n X.ex X.co dJx4a65c_remove_915e3_24 rfl (lv_at hl 0 rfl) ?_
  exact c_a X hS rfl (by first | exact Or.inl ⟨_, rfl⟩ | exact Or.inr ⟨_, rfl⟩) (Or.inr ⟨_, rfl⟩) ⟨rfl, F⟩ (by first | omega | decide) (by first | omega | decide) dJx4a65c_remove_915e3_25
set_option maxHeartbeats 4000000 in
set_option maxRecDepth 100000 in
theorem c_Jx4a65c_rangeCheckForAdd_d00df (l : Launch) (G : GT) (a : Nat) (x : Int32) (d n j : Nat) (hj : j ≤ n) (hn : n < 2 ^ 31) : rM l yJx4a65c_rangeCheckForAdd_d00df cJx4a65c_rangeCheckForAdd_d00df 2 ((Option.none : Option FieldType)) 0 G [.ref a, .int (nI j)] (fun H => va_at G.1 vwCl (a, LO x d n) H) none := by
  refine mk_m (by decide) (Nat.le_of_ble_eq_true rfl) ?_
  intro p e s m args below meth c X ls hl g0 F hnm
  have hK := g0.1
  have hl : lv_has ls 2 [(0, .ref a), (1, .int (nI j))] := hl
  show Wr p l e 0 s m args below meth c none 0 ls []
  refine lv_iload_n X.ex X.co dJx4a65c_rangeCheckForAdd_d00df_0 rfl (lv_at hl 1 rfl) ?_
  refine lv_aload_n X.ex X.co dJx4a65c_rangeCheckForAdd_d00df_1 rfl (lv_at hl 0 rfl) ?_
  refine f_get X hK F okAL rfl 2 (by decide) m_62 (fun _ h => h) (v := .int (nI n)) rfl dJx4a65c_rangeCheckForAdd_d00df_2 ?_
  refine n_cmp_gt X (x := j) (y := n) (tgt := 12) (by omega) (by omega) dJx4a65c_rangeCheckForAdd_d00df_5 (by decide) (fun c_2 => ?_) (fun c_2 => ?_)
  · exact absurd hj (by omega)
  · refine lv_iload_n X.ex X.co dJx4a65c_rangeCheckForAdd_d00df_8 rfl (lv_at hl 1 rfl) ?_
    refine n_if_ge X (x := j) (tgt := 25) (by omega) dJx4a65c_rangeCheckForAdd_d00df_9 (by decide) (fun c_3 => ?_) (fun c_3 => ?_)
    · exact r_v X rfl rfl dJx4a65c_rangeCheckForAdd_d00df_25
    · exact c_3.elim
