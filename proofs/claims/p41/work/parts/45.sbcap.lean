theorem cu_J5_newCapacity_0f7a4 : ceU yJ5_newCapacity_0f7a4 cJ5_newCapacity_0f7a4 6 ((Option.some FieldType.int)) 1 := ⟨m_942, m_1752, m_5, m_943, ⟨by decide, by decide, by decide, by decide +kernel⟩, by decide⟩
set_option maxHeartbeats 4000000 in
set_option maxRecDepth 100000 in
theorem c_J5_newCapacity_0f7a4 (l : Launch) (G : GT) (a d : Nat) (ml : Int32) (n m0 q M : Nat) (f : Nat → Int32) (hq : m0 < q) (hM : M = if q - m0 < m0 + 2 then m0 + 2 else q - m0) (h0 : 0 < M) (hb : m0 + M ≤ 100000) (hm : m0 < 100000) (hqb : q < 100000) : rM l yJ5_newCapacity_0f7a4 cJ5_newCapacity_0f7a4 6 ((Option.some FieldType.int)) 2 G [.ref a, .int (nI q)] (fun H => va_at G.1 vwCl (a, SBO d ml n) H ∧ va_at G.1 vwCl (d, SBA G m0 f) H) (some (.int (nI (m0 + M)))) := by
  refine mk_m (by decide) (Nat.le_of_ble_eq_true rfl) ?_
  intro p e s m args below meth c X ls hl g0 F hnm
  have hK := g0.1
  have hl : lv_has ls 6 [(0, .ref a), (1, .int (nI q))] := hl
  show Wr p l e 2 s m args below meth c (some (.int (nI (m0 + M)))) 0 ls []
  refine lv_aload_n X.ex X.co dJ5_newCapacity_0f7a4_0 rfl (lv_at hl 0 rfl) ?_
  refine f_get X hK F.1 okSB rfl 0 (by decide) m_91 (fun _ h => h) (v := .ref d) rfl dJ5_newCapacity_0f7a4_1 ?_
  refine f_alen X hK 3 F.2 rfl (v := nI m0) rfl dJ5_newCapacity_0f7a4_4 ?_
  refine lv_istore_n (lv' := [(2, .int (nI m0)), (0, .ref a), (1, .int (nI q))]) X.ex X.co dJ5_newCapacity_0f7a4_5 rfl hl (by decide) rfl (fun ls hl => ?_)
  refine lv_iload_n X.ex X.co dJ5_newCapacity_0f7a4_6 rfl (lv_at hl 2 rfl) ?_
  refine lv_aload_n X.ex X.co dJ5_newCapacity_0f7a4_7 rfl (lv_at hl 1 rfl) ?_
  refine f_get X hK F.1 okSB rfl 1 (by decide) m_92 (fun _ h => h) (v := .int 0) rfl dJ5_newCapacity_0f7a4_8 ?_
  refine lv_ishl X.ex X.co dJ5_newCapacity_0f7a4_11 (top_eq (y := nI q) (by rw [pk_shlN (n := q) (0 &&& 31) 0 (by decide) (by omega)]; simp) ?_)
  refine lv_istore_n (lv' := [(3, .int (nI q)), (2, .int (nI m0)), (0, .ref a), (1, .int (nI q))]) X.ex X.co dJ5_newCapacity_0f7a4_12 rfl hl (by decide) rfl (fun ls hl => ?_)
  refine lv_iload_n X.ex X.co dJ5_newCapacity_0f7a4_13 rfl (lv_at hl 0 rfl) ?_
  refine lv_iload_n X.ex X.co dJ5_newCapacity_0f7a4_14 rfl (lv_at hl 1 rfl) ?_
  refine n_sub X (x := q) (y := m0) (by omega) dJ5_newCapacity_0f7a4_15 ?_
  refine lv_istore (lv' := [(4, .int (nI (q - m0))), (3, .int (nI q)), (2, .int (nI m0)), (0, .ref a), (1, .int (nI q))]) X.ex X.co dJ5_newCapacity_0f7a4_16 hl (by decide) rfl (fun ls hl => ?_)
  refine lv_iload_n X.ex X.co dJ5_newCapacity_0f7a4_18 rfl (lv_at hl 2 rfl) ?_
  refine lv_iload X.ex X.co dJ5_newCapacity_0f7a4_19 (lv_at hl 0 rfl) ?_
  refine lv_iload_n X.ex X.co dJ5_newCapacity_0f7a4_21 rfl (lv_at hl 2 rfl) ?_
  refine lv_iconst (v := 2) X.ex X.co dJ5_newCapacity_0f7a4_22 (by decide) ?_
  refine lv_aload_n X.ex X.co dJ5_newCapacity_0f7a4_23 rfl (lv_at hl 3 rfl) ?_
  refine f_get X hK F.1 okSB rfl 1 (by decide) m_92 (fun _ h => h) (v := .int 0) rfl dJ5_newCapacity_0f7a4_24 ?_
  refine lv_ishl X.ex X.co dJ5_newCapacity_0f7a4_27 (top_eq (y := 2) (by decide) ?_)
  refine n_add X (x := m0) (y := 2) dJ5_newCapacity_0f7a4_28 ?_
  refine q_rS X ce_J8_newLength_cabcc m_944 (c_J8_newLength_cabcc l G m0 (q - m0) (m0 + 2) M hM h0 (by omega) (by omega) (by omega)) g0 trivial (by decide) rfl hl.1 rfl (Nat.le_of_ble_eq_true rfl) dJ5_newCapacity_0f7a4_29 (by omega) (by omega) ?_
  refine lv_istore (lv' := [(5, .int (nI (m0 + M))), (4, .int (nI (q - m0))), (3, .int (nI q)), (2, .int (nI m0)), (0, .ref a), (1, .int (nI q))]) X.ex X.co dJ5_newCapacity_0f7a4_32 hl (by decide) rfl (fun ls hl => ?_)
  refine lv_iload X.ex X.co dJ5_newCapacity_0f7a4_34 (lv_at hl 0 rfl) ?_
  refine lv_ldc (v := 2147483647) X.ex X.co X.ow (X.ts _ m_945) dJ5_newCapacity_0f7a4_36 ?_
  refine n_cmp_ne X (x := m0 + M) (y := 2147483647) (tgt := 51) (by omega) (by omega) dJ5_newCapacity_0f7a4_38 (by decide) (fun c_5 => ?_) (fun c_5 => ?_)
  · refine lv_iload X.ex X.co dJ5_newCapacity_0f7a4_51 (lv_at hl 0 rfl) ?_
    refine lv_aload_n X.ex X.co dJ5_newCapacity_0f7a4_53 rfl (lv_at hl 4 rfl) ?_
    refine f_get X hK F.1 okSB rfl 1 (by decide) m_92 (fun _ h => h) (v := .int 0) rfl dJ5_newCapacity_0f7a4_54 ?_
    refine lv_ishr X.ex X.co dJ5_newCapacity_0f7a4_57 (top_eq (y := nI (m0 + M)) (by rw [pk_shrN (n := (m0 + M)) (by omega) (0 &&& 31) 0 (by decide)]; simp) ?_)
    exact r_i X rfl rfl rfl dJ5_newCapacity_0f7a4_58
  · exact absurd c_5 (by omega)
