theorem cu_J5_inflateIfNeededFor_a7421 : ceU yJ5_inflateIfNeededFor_a7421 cJ5_inflateIfNeededFor_a7421 2 ((Option.none : Option FieldType)) 1 := ⟨m_1002, m_1754, m_5, m_1003, ⟨by decide, by decide, by decide, by decide +kernel⟩, by decide⟩
theorem cu_J5_putStringAt_47b60 : ceU yJ5_putStringAt_47b60 cJ5_putStringAt_47b60 3 ((Option.none : Option FieldType)) 2 := ⟨m_998, m_1753, m_5, m_999, ⟨by decide, by decide, by decide, by decide +kernel⟩, by decide⟩
theorem cu_J5_append_cf1ce : ceU yJ5_append_cf1ce cJ5_append_cf1ce 3 ((Option.some (FieldType.object "java/lang/AbstractStringBuilder"))) 1 := ⟨m_930, m_1749, m_5, m_931, ⟨by decide, by decide, by decide, by decide +kernel⟩, by decide⟩
theorem ce_J4_append_15ec4 : ceV yJ4_append_15ec4 cJ4_append_15ec4 2 ((Option.some (FieldType.object "java/lang/StringBuilder"))) 1 := ⟨m_926, m_927, m_6, m_928, ⟨by decide, by decide, by decide +kernel⟩, by decide⟩
set_option maxHeartbeats 4000000 in
set_option maxRecDepth 100000 in
theorem c_J5_inflateIfNeededFor_a7421 (l : Launch) (G : GT) (a d : Nat) (ml : Int32) (n i : Nat) (hi : i < 5) : rM l yJ5_inflateIfNeededFor_a7421 cJ5_inflateIfNeededFor_a7421 2 ((Option.none : Option FieldType)) 1 G [.ref a, .ref (G.2.2 (10 + i))] (fun H => va_at G.1 vwCl (a, SBO d ml n) H) none := by
  refine mk_m (by decide) (Nat.le_of_ble_eq_true rfl) ?_
  intro p e s m args below meth c X ls hl g0 F hnm
  have hK := g0.1
  have ht := g0.2.2.2.2.2.2.2.1
  have hl : lv_has ls 2 [(0, .ref a), (1, .ref (G.2.2 (10 + i)))] := hl
  show Wr p l e 1 s m args below meth c none 0 ls []
  refine va_gets X.ex X.co g0.2.2.2.2.1 (va_S.rf (A := gA G)) X.ow (X.ts _ m_82) (fun _ h => h) dJ5_inflateIfNeededFor_a7421_0 ?_
  refine lv_if_eq (tgt := 21) X.ex X.co dJ5_inflateIfNeededFor_a7421_3 (by decide) (fun c_1 => ?_) (fun c_1 => ?_)
  · exact absurd c_1 (by decide)
  · refine lv_aload_n X.ex X.co dJ5_inflateIfNeededFor_a7421_6 rfl (lv_at hl 0 rfl) ?_
    refine f_get X hK F okSB rfl 1 (by decide) m_92 (fun _ h => h) (v := .int 0) rfl dJ5_inflateIfNeededFor_a7421_7 ?_
    refine lv_aload_n X.ex X.co dJ5_inflateIfNeededFor_a7421_10 rfl (lv_at hl 1 rfl) ?_
    refine q_rC X ce_J0_coder_7d493 m_1004 (c_J0_coder_7d493 l G i hi) g0 trivial (t_cell (A := gA G) g0 va_S.rf (fun _ h => h) hi) (by decide) rfl hl.1 rfl (Nat.le_of_ble_eq_true rfl) dJ5_inflateIfNeededFor_a7421_11 (by omega) (by omega) ?_
    refine lv_icmp_eq (tgt := 21) X.ex X.co dJ5_inflateIfNeededFor_a7421_14 (by decide) (fun c_3 => ?_) (fun c_3 => ?_)
    · exact r_v X rfl rfl dJ5_inflateIfNeededFor_a7421_21
    · exact absurd (by decide) c_3
