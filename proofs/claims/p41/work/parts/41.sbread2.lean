theorem ce_J0_checkIndex_df160 : ceS yJ0_checkIndex_df160 cJ0_checkIndex_df160 2 ((Option.none : Option FieldType)) 2 := ⟨m_1341, m_7, m_1342, ⟨by decide, by decide, by decide +kernel⟩, by decide⟩
theorem cu_J5_charAt_5068e : ceU yJ5_charAt_5068e cJ5_charAt_5068e 5 ((Option.some FieldType.char)) 1 := ⟨m_1337, m_1759, m_5, m_1338, ⟨by decide, by decide, by decide, by decide +kernel⟩, by decide⟩
theorem ce_J4_charAt_5068e : ceV yJ4_charAt_5068e cJ4_charAt_5068e 2 ((Option.some FieldType.char)) 1 := ⟨m_1333, m_1334, m_6, m_1335, ⟨by decide, by decide, by decide +kernel⟩, by decide⟩
set_option maxHeartbeats 4000000 in
set_option maxRecDepth 100000 in
theorem c_J0_checkIndex_df160 (l : Launch) (G : GT) (j n : Nat) (hj : j < n) (hn : n < 2 ^ 31) : rM l yJ0_checkIndex_df160 cJ0_checkIndex_df160 2 ((Option.none : Option FieldType)) 2 G [.int (nI j), .int (nI n)] (fun _ => True) none := by
  refine mk_m (by decide) (Nat.le_of_ble_eq_true rfl) ?_
  intro p e s m args below meth c X ls hl g0 F hnm
  have hK := g0.1
  have hl : lv_has ls 2 [(0, .int (nI j)), (1, .int (nI n))] := hl
  show Wr p l e 2 s m args below meth c none 0 ls []
  refine lv_iload_n X.ex X.co dJ0_checkIndex_df160_0 rfl (lv_at hl 0 rfl) ?_
  refine lv_iload_n X.ex X.co dJ0_checkIndex_df160_1 rfl (lv_at hl 1 rfl) ?_
  obtain ⟨bf, hbf⟩ : ∃ bf : Option Nat, va_Z "jdk/internal/util/Preconditions" "SIOOBE_FORMATTER" "Ljava/util/function/BiFunction;" (va_rf bf) (gA G) s s.heap := (g0.2.2.2.2.2.2.2.2).elim (fun z => ⟨none, z⟩) (fun ⟨t, z⟩ => ⟨some t, z⟩)
  refine va_gets X.ex X.co hbf (va_S.rf (A := gA G)) X.ow (X.ts _ m_973) (fun _ h => h) dJ0_checkIndex_df160_2 ?_
  refine q_rS X ce_J3_checkIndex_8e157 m_1343 (c_J3_checkIndex_8e157 l G j n bf hj hn) g0 trivial (by decide) rfl hl.1 rfl (Nat.le_of_ble_eq_true rfl) dJ0_checkIndex_df160_5 (by omega) (by omega) ?_
  refine lv_pop X.ex X.co dJ0_checkIndex_df160_8 rfl ?_
  exact r_v X rfl rfl dJ0_checkIndex_df160_9
set_option maxHeartbeats 4000000 in
set_option maxRecDepth 100000 in
theorem c_J5_charAt_5068e (l : Launch) (G : GT) (a d : Nat) (ml : Int32) (n m0 j x : Nat) (f : Nat → Int32) (hj : j < n) (hnq : n ≤ m0) (hm : m0 < 2 ^ 31) (hf : f j = nI x) (hx : x < 128) : rM l yJ5_charAt_5068e cJ5_charAt_5068e 5 ((Option.some FieldType.char)) 3 G [.ref a, .int (nI j)] (fun H => va_at G.1 vwCl (a, SBO d ml n) H ∧ va_at G.1 vwCl (d, SBA G m0 f) H) (some (.int (nI x))) := by
  refine mk_m (by decide) (Nat.le_of_ble_eq_true rfl) ?_
  intro p e s m args below meth c X ls hl g0 F hnm
  have hK := g0.1
  have hl : lv_has ls 5 [(0, .ref a), (1, .int (nI j))] := hl
  show Wr p l e 3 s m args below meth c (some (.int (nI x))) 0 ls []
  refine lv_aload_n X.ex X.co dJ5_charAt_5068e_0 rfl (lv_at hl 0 rfl) ?_
  refine f_get X hK F.1 okSB rfl 1 (by decide) m_92 (fun _ h => h) (v := .int 0) rfl dJ5_charAt_5068e_1 ?_
  refine lv_istore_n (lv' := [(2, .int 0), (0, .ref a), (1, .int (nI j))]) X.ex X.co dJ5_charAt_5068e_4 rfl hl (by decide) rfl (fun ls hl => ?_)
  refine lv_aload_n X.ex X.co dJ5_charAt_5068e_5 rfl (lv_at hl 1 rfl) ?_
  refine f_get X hK F.1 okSB rfl 0 (by decide) m_91 (fun _ h => h) (v := .ref d) rfl dJ5_charAt_5068e_6 ?_
  refine lv_astore_n (lv' := [(3, .ref d), (2, .int 0), (0, .ref a), (1, .int (nI j))]) X.ex X.co dJ5_charAt_5068e_9 rfl hl (by decide) rfl (fun ls hl => ?_)
  refine lv_aload_n X.ex X.co dJ5_charAt_5068e_10 rfl (lv_at hl 2 rfl) ?_
  refine f_get X hK F.1 okSB rfl 3 (by decide) m_95 (fun _ h => h) (v := .int (nI n)) rfl dJ5_charAt_5068e_11 ?_
  refine lv_aload_n X.ex X.co dJ5_charAt_5068e_14 rfl (lv_at hl 0 rfl) ?_
  refine f_alen X hK 3 F.2 rfl (v := nI m0) rfl dJ5_charAt_5068e_15 ?_
  refine lv_iload_n X.ex X.co dJ5_charAt_5068e_16 rfl (lv_at hl 1 rfl) ?_
  refine lv_ishr X.ex X.co dJ5_charAt_5068e_17 (top_eq (y := nI m0) (by rw [pk_shrN (n := m0) (by omega) (0 &&& 31) 0 (by decide)]; simp) ?_)
  refine f_min X hl.1 m_1339 (Nat.le_of_ble_eq_true rfl) (Nat.le_of_ble_eq_true rfl) (by show _ ≤ 0; omega) (by show _ ≤ 0; omega) dJ5_charAt_5068e_18 ?_
  refine top_eq (y := nI n) (if_neg (nI_nlt hnq (by omega))) ?_
  refine lv_istore (lv' := [(4, .int (nI n)), (3, .ref d), (2, .int 0), (0, .ref a), (1, .int (nI j))]) X.ex X.co dJ5_charAt_5068e_21 hl (by decide) rfl (fun ls hl => ?_)
  refine lv_iload_n X.ex X.co dJ5_charAt_5068e_23 rfl (lv_at hl 4 rfl) ?_
  refine lv_iload X.ex X.co dJ5_charAt_5068e_24 (lv_at hl 0 rfl) ?_
  refine q_rSv X ce_J0_checkIndex_df160 m_1340 (c_J0_checkIndex_df160 l G j n hj (by omega)) g0 trivial (by decide) rfl hl.1 rfl (Nat.le_of_ble_eq_true rfl) dJ5_charAt_5068e_26 (by omega) (by omega) ?_
  refine lv_iload_n X.ex X.co dJ5_charAt_5068e_29 rfl (lv_at hl 2 rfl) ?_
  refine lv_if_ne (tgt := 42) X.ex X.co dJ5_charAt_5068e_30 (by decide) (fun c_5 => ?_) (fun c_5 => ?_)
  · exact absurd (by decide) c_5
  · refine lv_aload_n X.ex X.co dJ5_charAt_5068e_33 rfl (lv_at hl 1 rfl) ?_
    refine lv_iload_n X.ex X.co dJ5_charAt_5068e_34 rfl (lv_at hl 4 rfl) ?_
    refine f_bald X hK F.2 (x := nI j) (vp_in_nI (show j < m0 by omega) (by omega)) dJ5_charAt_5068e_35 ?_
    rw [nI_clamp (show j < 2 ^ 31 by omega), hf]
    refine lv_sipush (v := 255) X.ex X.co dJ5_charAt_5068e_36 (by decide) ?_
    refine lv_iand X.ex X.co dJ5_charAt_5068e_39 (top_eq (y := nI x) (by rw [pk_andN (n := x) (by omega) 8 (by decide), Nat.mod_eq_of_lt (by omega)]) ?_)
    refine lv_i2c (v := nI x) X.ex X.co dJ5_charAt_5068e_40 (n_i2c (by omega)) ?_
    exact r_i X rfl (pk_charN (show x < 65536 by omega)).1 rfl dJ5_charAt_5068e_41
set_option maxHeartbeats 4000000 in
set_option maxRecDepth 100000 in
theorem c_J4_charAt_5068e (l : Launch) (G : GT) (a d : Nat) (ml : Int32) (n m0 j x : Nat) (f : Nat → Int32) (hj : j < n) (hnq : n ≤ m0) (hm : m0 < 2 ^ 31) (hf : f j = nI x) (hx : x < 128) : rM l yJ4_charAt_5068e cJ4_charAt_5068e 2 ((Option.some FieldType.char)) 4 G [.ref a, .int (nI j)] (fun H => va_at G.1 vwCl (a, SBO d ml n) H ∧ va_at G.1 vwCl (d, SBA G m0 f) H) (some (.int (nI x))) := by
  refine mk_m (by decide) (Nat.le_of_ble_eq_true rfl) ?_
  intro p e s m args below meth c X ls hl g0 F hnm
  have hK := g0.1
  have hl : lv_has ls 2 [(0, .ref a), (1, .int (nI j))] := hl
  show Wr p l e 4 s m args below meth c (some (.int (nI x))) 0 ls []
  refine lv_aload_n X.ex X.co dJ4_charAt_5068e_0 rfl (lv_at hl 0 rfl) ?_
  refine lv_iload_n X.ex X.co dJ4_charAt_5068e_1 rfl (lv_at hl 1 rfl) ?_
  refine q_rW X cu_J5_charAt_5068e m_104 m_1336 (c_J5_charAt_5068e l G a d ml n m0 j x f hj hnq hm hf hx) g0 F F.1 (by decide) rfl hl.1 rfl (Nat.le_of_ble_eq_true rfl) dJ4_charAt_5068e_2 (by omega) (by omega) ?_
  exact r_i X rfl (pk_charN (show x < 65536 by omega)).1 rfl dJ4_charAt_5068e_5
