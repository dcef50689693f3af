/-! ===== the list: what its methods answer ===== -/
theorem okAL : okC RJx4a65c TJx4a65c 3 tyJx4a65c := ⟨in_Jx4a65c, tyJx4a65c_ok, nmJx4a65c⟩
theorem fw.get {D : va_G} {lv : I2 → Prop} {ad : I2 → Nat} {en : I2 → va_E} {A : Nat → Prop} {H : Heap} (F : fw D lv ad en A H) {i : I2} {a : Nat} {x : va_E} (hi : lv i) (ha : ad i = a) (he : en i = x) : va_at D vwCl (a, x) H := by
  subst ha
  subst he
  exact F.at hi
theorem iup_iup {α : Type} (f : I2 → α) (i : I2) (v w : α) : iup (iup f i v) i w = iup f i w := by
  funext j
  unfold iup
  split <;> rfl
theorem iup_mid {α : Type} {f : I2 → α} {i k : I2} (h : k ≠ i) (a b w : α) : iup (iup (iup f i a) k b) i w = iup (iup f i w) k b := by
  funext j
  unfold iup
  by_cases h1 : j = i
  · subst h1
    rw [if_pos rfl, if_neg (fun z => h z.symm), if_pos rfl]
  · by_cases h2 : j = k
    · rw [if_neg h1, if_pos h2, if_pos h2]
    · rw [if_neg h1, if_neg h2, if_neg h1, if_neg h2, if_neg h1]
abbrev LO (x : Int32) (d n : Nat) : va_E := .inr (4, [.int x, .ref d, .int (nI n)])
abbrev LA (G : GT) (n : Nat) (f : Nat → Option Nat) : va_E := .inl (G.2.1 4, n, .inr (.inr (.inr (.inr f))))
theorem ce_Jx4a65c_size_8abf5 : ceV yJx4a65c_size_8abf5 cJx4a65c_size_8abf5 1 ((Option.some FieldType.int)) 0 := ⟨m_145, m_146, m_4, m_147, ⟨by decide, by decide, by decide +kernel⟩, by decide⟩
theorem ce_Jx4a65c_isEmpty_aae02 : ceV yJx4a65c_isEmpty_aae02 cJx4a65c_isEmpty_aae02 1 ((Option.some FieldType.boolean)) 0 := ⟨m_633, m_634, m_4, m_635, ⟨by decide, by decide, by decide +kernel⟩, by decide⟩
theorem ce_Jx4a65c_elementData_915e3 : ceV yJx4a65c_elementData_915e3 cJx4a65c_elementData_915e3 2 ((Option.some (FieldType.object "java/lang/Object"))) 1 := ⟨m_175, m_176, m_4, m_177, ⟨by decide, by decide, by decide +kernel⟩, by decide⟩
theorem ce_Jx4a65c_get_915e3 : ceV yJx4a65c_get_915e3 cJx4a65c_get_915e3 2 ((Option.some (FieldType.object "java/lang/Object"))) 1 := ⟨m_165, m_166, m_4, m_167, ⟨by decide, by decide, by decide +kernel⟩, by decide⟩
theorem ce_J15_checkIndex_7cf53 : ceS yJ15_checkIndex_7cf53 cJ15_checkIndex_7cf53 2 ((Option.some FieldType.int)) 2 := ⟨m_169, m_23, m_170, ⟨by decide, by decide, by decide +kernel⟩, by decide⟩
theorem ce_J3_checkIndex_8e157 : ceS yJ3_checkIndex_8e157 cJ3_checkIndex_8e157 3 ((Option.some FieldType.int)) 3 := ⟨m_172, m_24, m_173, ⟨by decide, by decide, by decide +kernel⟩, by decide⟩
set_option maxHeartbeats 4000000 in
set_option maxRecDepth 100000 in
theorem c_Jx4a65c_size_8abf5 (l : Launch) (G : GT) (a : Nat) (x : Int32) (d n : Nat) : rM l yJx4a65c_size_8abf5 cJx4a65c_size_8abf5 1 ((Option.some FieldType.int)) 0 G [.ref a] (fun H => va_at G.1 vwCl (a, LO x d n) H) (some (.int (nI n))) := by
  refine mk_m (by decide) (Nat.le_of_ble_eq_true rfl) ?_
  intro p e s m args below meth c X ls hl g0 F hnm
  have hK := g0.1
  have hl : lv_has ls 1 [(0, .ref a)] := hl
  show Wr p l e 0 s m args below meth c (some (.int (nI n))) 0 ls []
  refine lv_aload_n X.ex X.co dJx4a65c_size_8abf5_0 rfl (lv_at hl 0 rfl) ?_
  refine f_get X hK F okAL rfl 2 (by decide) m_62 (fun _ h => h) (v := .int (nI n)) rfl dJx4a65c_size_8abf5_1 ?_
  exact r_i X rfl rfl rfl dJx4a65c_size_8abf5_4
set_option maxHeartbeats 4000000 in
set_option maxRecDepth 100000 in
theorem c_Jx4a65c_isEmpty_aae02 (l : Launch) (G : GT) (a : Nat) (x : Int32) (d n : Nat) (hn : n < 2 ^ 31) : rM l yJx4a65c_isEmpty_aae02 cJx4a65c_isEmpty_aae02 1 ((Option.some FieldType.boolean)) 0 G [.ref a] (fun H => va_at G.1 vwCl (a, LO x d n) H) (some (.int (bI (decide (n = 0))))) := by
  refine mk_m (by decide) (Nat.le_of_ble_eq_true rfl) ?_
  intro p e s m args below meth c X ls hl g0 F hnm
  have hK := g0.1
  have hl : lv_has ls 1 [(0, .ref a)] := hl
  show Wr p l e 0 s m args below meth c (some (.int (bI (decide (n = 0))))) 0 ls []
  refine lv_aload_n X.ex X.co dJx4a65c_isEmpty_aae02_0 rfl (lv_at hl 0 rfl) ?_
  refine f_get X hK F okAL rfl 2 (by decide) m_62 (fun _ h => h) (v := .int (nI n)) rfl dJx4a65c_isEmpty_aae02_1 ?_
  refine n_if_ne X (x := n) (tgt := 11) (by omega) dJx4a65c_isEmpty_aae02_4 (by decide) (fun c_2 => ?_) (fun c_2 => ?_)
  · refine lv_iconst (v := 0) X.ex X.co dJx4a65c_isEmpty_aae02_11 (by decide) ?_
    exact r_i X rfl (by decide) (by simp [bI, c_2]; omega) dJx4a65c_isEmpty_aae02_12
  · refine lv_iconst (v := 1) X.ex X.co dJx4a65c_isEmpty_aae02_7 (by decide) ?_
    refine lv_goto (tgt := 12) X.ex X.co dJx4a65c_isEmpty_aae02_8 (by decide) ?_
    exact r_i X rfl (by decide) (by simp [bI, c_2]) dJx4a65c_isEmpty_aae02_12
set_option maxHeartbeats 4000000 in
set_option maxRecDepth 100000 in
theorem c_J3_checkIndex_8e157 (l : Launch) (G : GT) (j n : Nat) (bf : Option Nat) (h : j < n) (hn : n < 2 ^ 31) : rM l yJ3_checkIndex_8e157 cJ3_checkIndex_8e157 3 ((Option.some FieldType.int)) 0 G [.int (nI j), .int (nI n), va_rf bf] (fun _ => True) (some (.int (nI j))) := by
  refine mk_m (by decide) (by cases bf <;> exact Nat.le_of_ble_eq_true rfl) ?_
  intro p e s m args below meth c X ls hl g0 F hnm
  have hK := g0.1
  have hl : lv_has ls 3 [(0, .int (nI j)), (1, .int (nI n)), (2, va_rf bf)] := hl
  show Wr p l e 0 s m args below meth c (some (.int (nI j))) 0 ls []
  refine lv_iload_n X.ex X.co dJ3_checkIndex_8e157_0 rfl (lv_at hl 0 rfl) ?_
  refine n_if_lt X (x := j) (tgt := 9) (by omega) dJ3_checkIndex_8e157_1 (by decide) (fun c_1 => ?_) (fun c_1 => ?_)
  · exact absurd c_1 (by first | omega | exact id)
  · refine lv_iload_n X.ex X.co dJ3_checkIndex_8e157_4 rfl (lv_at hl 0 rfl) ?_
    refine lv_iload_n X.ex X.co dJ3_checkIndex_8e157_5 rfl (lv_at hl 1 rfl) ?_
    refine n_cmp_lt X (x := j) (y := n) (tgt := 16) (by omega) (by omega) dJ3_checkIndex_8e157_6 (by decide) (fun c_2 => ?_) (fun c_2 => ?_)
    · refine lv_iload_n X.ex X.co dJ3_checkIndex_8e157_16 rfl (lv_at hl 0 rfl) ?_
      exact r_i X rfl rfl rfl dJ3_checkIndex_8e157_17
    · exact absurd h (by omega)
set_option maxHeartbeats 4000000 in
set_option maxRecDepth 100000 in
theorem c_J15_checkIndex_7cf53 (l : Launch) (G : GT) (j n : Nat) (h : j < n) (hn : n < 2 ^ 31) : rM l yJ15_checkIndex_7cf53 cJ15_checkIndex_7cf53 2 ((Option.some FieldType.int)) 1 G [.int (nI j), .int (nI n)] (fun _ => True) (some (.int (nI j))) := by
  refine mk_m (by decide) (Nat.le_of_ble_eq_true rfl) ?_
  intro p e s m args below meth c X ls hl g0 F hnm
  have hK := g0.1
  have hl : lv_has ls 2 [(0, .int (nI j)), (1, .int (nI n))] := hl
  show Wr p l e 1 s m args below meth c (some (.int (nI j))) 0 ls []
  refine lv_iload_n X.ex X.co dJ15_checkIndex_7cf53_0 rfl (lv_at hl 0 rfl) ?_
  refine lv_iload_n X.ex X.co dJ15_checkIndex_7cf53_1 rfl (lv_at hl 1 rfl) ?_
  refine lv_null X.ex X.co dJ15_checkIndex_7cf53_2 ?_
  refine q_rS X ce_J3_checkIndex_8e157 m_171 (c_J3_checkIndex_8e157 l G j n none h hn) g0 trivial (by decide) rfl hl.1 rfl (Nat.le_of_ble_eq_true rfl) dJ15_checkIndex_7cf53_3 (by omega) (by omega) ?_
  exact r_i X rfl rfl rfl dJ15_checkIndex_7cf53_6
set_option maxHeartbeats 4000000 in
set_option maxRecDepth 100000 in
theorem c_Jx4a65c_elementData_915e3 (l : Launch) (G : GT) (a : Nat) (x : Int32) (d n q : Nat) (f : Nat → Option Nat) (j : Nat) (hj : j < n) (hn : n ≤ q) (hq : q < 2 ^ 31) : rM l yJx4a65c_elementData_915e3 cJx4a65c_elementData_915e3 2 ((Option.some (FieldType.object "java/lang/Object"))) 0 G [.ref a, .int (nI j)] (fun H => va_at G.1 vwCl (a, LO x d n) H ∧ va_at G.1 vwCl (d, LA G q f) H) (some (va_rf (f j))) := by
  refine mk_m (by decide) (Nat.le_of_ble_eq_true rfl) ?_
  intro p e s m args below meth c X ls hl g0 F hnm
  have hK := g0.1
  have hl : lv_has ls 2 [(0, .ref a), (1, .int (nI j))] := hl
  show Wr p l e 0 s m args below meth c (some (va_rf (f j))) 0 ls []
  refine lv_aload_n X.ex X.co dJx4a65c_elementData_915e3_0 rfl (lv_at hl 0 rfl) ?_
  refine f_get X hK F.1 okAL rfl 1 (by decide) m_61 (fun _ h => h) (v := .ref d) rfl dJx4a65c_elementData_915e3_1 ?_
  refine lv_iload_n X.ex X.co dJx4a65c_elementData_915e3_4 rfl (lv_at hl 1 rfl) ?_
  refine f_aald X hK F.2 (x := nI j) (vp_in_nI (show j < q by omega) (by omega)) dJx4a65c_elementData_915e3_5 ?_
  rw [nI_clamp (show j < 2 ^ 31 by omega)]
  exact r_a X rfl (by first | exact Or.inl ⟨_, rfl⟩ | exact Or.inr ⟨_, rfl⟩) (by cases f j; exact Or.inl rfl; exact Or.inr ⟨_, rfl⟩) rfl dJx4a65c_elementData_915e3_6
set_option maxHeartbeats 4000000 in
set_option maxRecDepth 100000 in
theorem c_Jx4a65c_get_915e3 (l : Launch) (G : GT) (a : Nat) (x : Int32) (d n q : Nat) (f : Nat → Option Nat) (j : Nat) (hj : j < n) (hn : n ≤ q) (hq : q < 2 ^ 31) : rM l yJx4a65c_get_915e3 cJx4a65c_get_915e3 2 ((Option.some (FieldType.object "java/lang/Object"))) 2 G [.ref a, .int (nI j)] (fun H => va_at G.1 vwCl (a, LO x d n) H ∧ va_at G.1 vwCl (d, LA G q f) H) (some (va_rf (f j))) := by
  refine mk_m (by decide) (Nat.le_of_ble_eq_true rfl) ?_
  intro p e s m args below meth c X ls hl g0 F hnm
  have hK := g0.1
  have hl : lv_has ls 2 [(0, .ref a), (1, .int (nI j))] := hl
  show Wr p l e 2 s m args below meth c (some (va_rf (f j))) 0 ls []
  refine lv_iload_n X.ex X.co dJx4a65c_get_915e3_0 rfl (lv_at hl 1 rfl) ?_
  refine lv_aload_n X.ex X.co dJx4a65c_get_915e3_1 rfl (lv_at hl 0 rfl) ?_
  refine f_get X hK F.1 okAL rfl 2 (by decide) m_62 (fun _ h => h) (v := .int (nI n)) rfl dJx4a65c_get_915e3_2 ?_
  refine q_rS X ce_J15_checkIndex_7cf53 m_168 (c_J15_checkIndex_7cf53 l G j n hj (by omega)) g0 trivial (by decide) rfl hl.1 rfl (Nat.le_of_ble_eq_true rfl) dJx4a65c_get_915e3_5 (by omega) (by omega) ?_
  refine lv_pop X.ex X.co dJx4a65c_get_915e3_8 rfl ?_
  refine lv_aload_n X.ex X.co dJx4a65c_get_915e3_9 rfl (lv_at hl 0 rfl) ?_
  refine lv_iload_n X.ex X.co dJx4a65c_get_915e3_10 rfl (lv_at hl 1 rfl) ?_
  refine q_rV X ce_Jx4a65c_elementData_915e3 m_174 (c_Jx4a65c_elementData_915e3 l G a x d n q f j hj hn hq) g0 F F.1 rfl (by decide) rfl hl.1 rfl (Nat.le_of_ble_eq_true rfl) dJx4a65c_get_915e3_11 (by omega) (by omega) ?_
  exact r_a X rfl (by first | exact Or.inl ⟨_, rfl⟩ | exact Or.inr ⟨_, rfl⟩) (by cases f j; exact Or.inl rfl; exact Or.inr ⟨_, rfl⟩) rfl dJx4a65c_get_915e3_14
