/-! ===== the builder: what is read ===== -/
abbrev SBO (d : Nat) (ml : Int32) (n : Nat) : va_E := .inr (1, [.ref d, .int 0, .int ml, .int (nI n)])
abbrev SBA (G : GT) (m : Nat) (f : Nat → Int32) : va_E := .inl (G.2.1 3, m, .inl f)
theorem cu_J5_length_8abf5 : ceU yJ5_length_8abf5 cJ5_length_8abf5 1 ((Option.some FieldType.int)) 0 := ⟨m_1074, m_1075, m_5, m_1080, ⟨by decide, by decide, by decide, by decide +kernel⟩, by decide⟩
theorem cu_J5_isLatin1_aae02 : ceU yJ5_isLatin1_aae02 cJ5_isLatin1_aae02 1 ((Option.some FieldType.boolean)) 0 := ⟨m_957, m_958, m_5, m_960, ⟨by decide, by decide, by decide, by decide +kernel⟩, by decide⟩
theorem ce_J4_length_8abf5 : ceV yJ4_length_8abf5 cJ4_length_8abf5 1 ((Option.some FieldType.int)) 0 := ⟨m_1077, m_1758, m_6, m_1078, ⟨by decide, by decide, by decide +kernel⟩, by decide⟩
set_option maxHeartbeats 4000000 in
set_option maxRecDepth 100000 in
theorem c_J5_length_8abf5 (l : Launch) (G : GT) (a d : Nat) (ml : Int32) (n : Nat) : rM l yJ5_length_8abf5 cJ5_length_8abf5 1 ((Option.some FieldType.int)) 0 G [.ref a] (fun H => va_at G.1 vwCl (a, SBO d ml n) H) (some (.int (nI n))) := by
  refine mk_m (by decide) (Nat.le_of_ble_eq_true rfl) ?_
  intro p e s m args below meth c X ls hl g0 F hnm
  have hK := g0.1
  have hl : lv_has ls 1 [(0, .ref a)] := hl
  show Wr p l e 0 s m args below meth c (some (.int (nI n))) 0 ls []
  refine lv_aload_n X.ex X.co dJ5_length_8abf5_0 rfl (lv_at hl 0 rfl) ?_
  refine f_get X hK F okSB rfl 3 (by decide) m_95 (fun _ h => h) (v := .int (nI n)) rfl dJ5_length_8abf5_1 ?_
  exact r_i X rfl rfl rfl dJ5_length_8abf5_4
set_option maxHeartbeats 4000000 in
set_option maxRecDepth 100000 in
theorem c_J4_length_8abf5 (l : Launch) (G : GT) (a d : Nat) (ml : Int32) (n : Nat) : rM l yJ4_length_8abf5 cJ4_length_8abf5 1 ((Option.some FieldType.int)) 1 G [.ref a] (fun H => va_at G.1 vwCl (a, SBO d ml n) H) (some (.int (nI n))) := by
  refine mk_m (by decide) (Nat.le_of_ble_eq_true rfl) ?_
  intro p e s m args below meth c X ls hl g0 F hnm
  have hK := g0.1
  have hl : lv_has ls 1 [(0, .ref a)] := hl
  show Wr p l e 1 s m args below meth c (some (.int (nI n))) 0 ls []
  refine lv_aload_n X.ex X.co dJ4_length_8abf5_0 rfl (lv_at hl 0 rfl) ?_
  refine q_rW X cu_J5_length_8abf5 m_104 m_1079 (c_J5_length_8abf5 l G a d ml n) g0 F F (by decide) rfl hl.1 rfl (Nat.le_of_ble_eq_true rfl) dJ4_length_8abf5_1 (by omega) (by omega) ?_
  exact r_i X rfl rfl rfl dJ4_length_8abf5_4
set_option maxHeartbeats 4000000 in
set_option maxRecDepth 100000 in
theorem c_J5_isLatin1_aae02 (l : Launch) (G : GT) (a d : Nat) (ml : Int32) (n : Nat) : rM l yJ5_isLatin1_aae02 cJ5_isLatin1_aae02 1 ((Option.some FieldType.boolean)) 0 G [.ref a] (fun H => va_at G.1 vwCl (a, SBO d ml n) H) (some (.int 1)) := by
  refine mk_m (by decide) (Nat.le_of_ble_eq_true rfl) ?_
  intro p e s m args below meth c X ls hl g0 F hnm
  have hK := g0.1
  have hl : lv_has ls 1 [(0, .ref a)] := hl
  show Wr p l e 0 s m args below meth c (some (.int 1)) 0 ls []
  refine va_gets X.ex X.co g0.2.2.2.2.1 (va_S.rf (A := gA G)) X.ow (X.ts _ m_82) (fun _ h => h) dJ5_isLatin1_aae02_0 ?_
  refine lv_if_eq (tgt := 17) X.ex X.co dJ5_isLatin1_aae02_3 (by decide) (fun c_1 => ?_) (fun c_1 => ?_)
  · exact absurd c_1 (by decide)
  · refine lv_aload_n X.ex X.co dJ5_isLatin1_aae02_6 rfl (lv_at hl 0 rfl) ?_
    refine f_get X hK F okSB rfl 1 (by decide) m_92 (fun _ h => h) (v := .int 0) rfl dJ5_isLatin1_aae02_7 ?_
    refine lv_if_ne (tgt := 17) X.ex X.co dJ5_isLatin1_aae02_10 (by decide) (fun c_3 => ?_) (fun c_3 => ?_)
    · exact absurd (by decide) c_3
    · refine lv_iconst (v := 1) X.ex X.co dJ5_isLatin1_aae02_13 (by decide) ?_
      refine lv_goto (tgt := 18) X.ex X.co dJ5_isLatin1_aae02_14 (by decide) ?_
      exact r_i X rfl (by decide) rfl dJ5_isLatin1_aae02_18
