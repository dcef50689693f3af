theorem ce_J0_coder_7d493 : ceV yJ0_coder_7d493 cJ0_coder_7d493 1 ((Option.some FieldType.byte)) 0 := ⟨m_992, m_993, m_7, m_994, ⟨by decide, by decide, by decide +kernel⟩, by decide⟩
theorem ce_J0_length_8abf5 : ceV yJ0_length_8abf5 cJ0_length_8abf5 1 ((Option.some FieldType.int)) 0 := ⟨m_988, m_989, m_7, m_990, ⟨by decide, by decide, by decide +kernel⟩, by decide⟩
set_option maxHeartbeats 4000000 in
set_option maxRecDepth 100000 in
theorem c_J0_coder_7d493 (l : Launch) (G : GT) (i : Nat) (hi : i < 5) : rM l yJ0_coder_7d493 cJ0_coder_7d493 1 ((Option.some FieldType.byte)) 0 G [.ref (G.2.2 (10 + i))] (fun _ => True) (some (.int 0)) := by
  refine mk_m (by decide) (Nat.le_of_ble_eq_true rfl) ?_
  intro p e s m args below meth c X ls hl g0 F hnm
  have hK := g0.1
  have ht := g0.2.2.2.2.2.2.2.1
  have hl : lv_has ls 1 [(0, .ref (G.2.2 (10 + i)))] := hl
  show Wr p l e 0 s m args below meth c (some (.int 0)) 0 ls []
  refine va_gets X.ex X.co g0.2.2.2.2.1 (va_S.rf (A := gA G)) X.ow (X.ts _ m_995) (fun _ h => h) dJ0_coder_7d493_0 ?_
  refine lv_if_eq (tgt := 13) X.ex X.co dJ0_coder_7d493_3 (by decide) (fun c_1 => ?_) (fun c_1 => ?_)
  · exact absurd c_1 (by decide)
  · refine lv_aload_n X.ex X.co dJ0_coder_7d493_6 rfl (lv_at hl 0 rfl) ?_
    refine vk_getf (v := .int 0) X.ex X.co (ht.1 i hi).2.1 (va_S.rf (A := gA G)) X.ow (X.ts _ m_1113) (fun _ h => h) dJ0_coder_7d493_7 ?_
    refine lv_goto (tgt := 14) X.ex X.co dJ0_coder_7d493_10 (by decide) ?_
    exact r_i X rfl (by decide) rfl dJ0_coder_7d493_14
theorem tLL_b : ∀ i, i < 5 → tLL.getD i 0 < 100 := by decide
set_option maxHeartbeats 4000000 in
set_option maxRecDepth 100000 in
theorem c_J0_length_8abf5 (l : Launch) (G : GT) (i : Nat) (hi : i < 5) : rM l yJ0_length_8abf5 cJ0_length_8abf5 1 ((Option.some FieldType.int)) 1 G [.ref (G.2.2 (10 + i))] (fun _ => True) (some (.int (nI (tLL.getD i 0)))) := by
  refine mk_m (by decide) (Nat.le_of_ble_eq_true rfl) ?_
  intro p e s m args below meth c X ls hl g0 F hnm
  have hK := g0.1
  have htb := tLL_b i hi
  have ht := g0.2.2.2.2.2.2.2.1
  have hl : lv_has ls 1 [(0, .ref (G.2.2 (10 + i)))] := hl
  show Wr p l e 1 s m args below meth c (some (.int (nI (tLL.getD i 0)))) 0 ls []
  refine lv_aload_n X.ex X.co dJ0_length_8abf5_0 rfl (lv_at hl 0 rfl) ?_
  refine vk_getf (v := .ref (G.2.2 (20 + i))) X.ex X.co (ht.1 i hi).2.2.1 (va_S.rf (A := gA G)) X.ow (X.ts _ m_1112) (fun _ h => h) dJ0_length_8abf5_1 ?_
  refine va_tlen X.ex X.co (ht.1 i hi).2.2.2 (va_S.rf (A := gA G)) (v := nI (tLL.getD i 0)) rfl dJ0_length_8abf5_4 ?_
  refine lv_aload_n X.ex X.co dJ0_length_8abf5_5 rfl (lv_at hl 0 rfl) ?_
  refine q_rC X ce_J0_coder_7d493 m_991 (c_J0_coder_7d493 l G i hi) g0 trivial (t_cell (A := gA G) g0 va_S.rf (fun _ h => h) hi) (by decide) rfl hl.1 rfl (Nat.le_of_ble_eq_true rfl) dJ0_length_8abf5_6 (by omega) (by omega) ?_
  refine lv_ishr X.ex X.co dJ0_length_8abf5_9 (top_eq (y := nI (tLL.getD i 0)) (by rw [pk_shrN (n := (tLL.getD i 0)) (by omega) (0 &&& 31) 0 (by decide)]; simp) ?_)
  exact r_i X rfl rfl rfl dJ0_length_8abf5_10
