def dgN (v : Nat) : Nat := if v < 10 then 1 else if v < 100 then 2 else 3
theorem ng1 : ∀ v, v < 10 → ¬ -nI v ≤ -10 := by decide +kernel
theorem ng2 : ∀ v, v < 101 → 10 ≤ v → -nI v ≤ -10 := by decide +kernel
theorem ng3 : ∀ v, v < 100 → ¬ -nI v ≤ -100 := by decide +kernel
theorem ng4 : -nI 100 ≤ -100 ∧ ¬ -nI 100 ≤ -1000 := by decide +kernel
theorem ce_J6_stringSize_0f7a4 : ceS yJ6_stringSize_0f7a4 cJ6_stringSize_0f7a4 4 ((Option.some FieldType.int)) 1 := ⟨m_1038, m_34, m_1039, ⟨by decide, by decide, by decide +kernel⟩, by decide⟩
set_option maxHeartbeats 4000000 in
set_option maxRecDepth 100000 in
theorem c_sz1 (l : Launch) (G : GT) (v : Nat) (hv : v < 10) : rM l yJ6_stringSize_0f7a4 cJ6_stringSize_0f7a4 4 ((Option.some FieldType.int)) 0 G [.int (nI v)] (fun _ => True) (some (.int (nI 1))) := by
  refine mk_m (by decide) (Nat.le_of_ble_eq_true rfl) ?_
  intro p e s m args below meth c X ls hl g0 F hnm
  have hK := g0.1
  have hl : lv_has ls 4 [(0, .int (nI v))] := hl
  show Wr p l e 0 s m args below meth c (some (.int (nI 1))) 0 ls []
  refine lv_iconst (v := 1) X.ex X.co dJ6_stringSize_0f7a4_0 (by decide) ?_
  refine lv_istore_n (lv' := [(1, .int 1), (0, .int (nI v))]) X.ex X.co dJ6_stringSize_0f7a4_1 rfl hl (by decide) rfl (fun ls hl => ?_)
  refine lv_iload_n X.ex X.co dJ6_stringSize_0f7a4_2 rfl (lv_at hl 1 rfl) ?_
  refine n_if_lt X (x := v) (tgt := 11) (by omega) dJ6_stringSize_0f7a4_3 (by decide) (fun c_1 => ?_) (fun c_1 => ?_)
  · exact c_1.elim
  · refine lv_iconst (v := 0) X.ex X.co dJ6_stringSize_0f7a4_6 (by decide) ?_
    refine lv_istore_n (lv' := [(1, .int 0), (0, .int (nI v))]) X.ex X.co dJ6_stringSize_0f7a4_7 rfl hl (by decide) rfl (fun ls hl => ?_)
    refine lv_iload_n X.ex X.co dJ6_stringSize_0f7a4_8 rfl (lv_at hl 1 rfl) ?_
    refine lv_ineg X.ex X.co dJ6_stringSize_0f7a4_9 ?_
    refine lv_istore_n (lv' := [(0, .int (-nI v)), (1, .int 0)]) X.ex X.co dJ6_stringSize_0f7a4_10 rfl hl (by decide) rfl (fun ls hl => ?_)
    refine lv_bipush (v := (-10)) X.ex X.co dJ6_stringSize_0f7a4_11 (by decide) ?_
    refine lv_istore_n (lv' := [(2, .int (-10)), (0, .int (-nI v)), (1, .int 0)]) X.ex X.co dJ6_stringSize_0f7a4_13 rfl hl (by decide) rfl (fun ls hl => ?_)
    refine lv_iconst (v := 1) X.ex X.co dJ6_stringSize_0f7a4_14 (by decide) ?_
    refine lv_istore_n (lv' := [(3, .int 1), (2, .int (-10)), (0, .int (-nI v)), (1, .int 0)]) X.ex X.co dJ6_stringSize_0f7a4_15 rfl hl (by decide) rfl (fun ls hl => ?_)
    refine lv_iload_n X.ex X.co dJ6_stringSize_0f7a4_16 rfl (lv_at hl 0 rfl) ?_
    refine lv_bipush (v := 10) X.ex X.co dJ6_stringSize_0f7a4_17 (by decide) ?_
    refine lv_icmp_ge (tgt := 42) X.ex X.co dJ6_stringSize_0f7a4_19 (by decide) (fun c_2 => ?_) (fun c_2 => ?_)
    · exact absurd c_2 (by decide)
    · refine lv_iload_n X.ex X.co dJ6_stringSize_0f7a4_22 rfl (lv_at hl 2 rfl) ?_
      refine lv_iload_n X.ex X.co dJ6_stringSize_0f7a4_23 rfl (lv_at hl 1 rfl) ?_
      refine lv_icmp_le (tgt := 31) X.ex X.co dJ6_stringSize_0f7a4_24 (by decide) (fun c_3 => ?_) (fun c_3 => ?_)
      · exact absurd c_3 (ng1 v hv)
      · refine lv_iload_n X.ex X.co dJ6_stringSize_0f7a4_27 rfl (lv_at hl 0 rfl) ?_
        refine lv_iload_n X.ex X.co dJ6_stringSize_0f7a4_28 rfl (lv_at hl 3 rfl) ?_
        refine lv_iadd X.ex X.co dJ6_stringSize_0f7a4_29 (top_eq (y := 1) (by decide) ?_)
        exact r_i X rfl rfl (by decide) dJ6_stringSize_0f7a4_30
set_option maxHeartbeats 4000000 in
set_option maxRecDepth 100000 in
theorem c_sz2 (l : Launch) (G : GT) (v : Nat) (hv : v < 100) (h9 : 10 ≤ v) : rM l yJ6_stringSize_0f7a4 cJ6_stringSize_0f7a4 4 ((Option.some FieldType.int)) 0 G [.int (nI v)] (fun _ => True) (some (.int (nI 2))) := by
  refine mk_m (by decide) (Nat.le_of_ble_eq_true rfl) ?_
  intro p e s m args below meth c X ls hl g0 F hnm
  have hK := g0.1
  have hl : lv_has ls 4 [(0, .int (nI v))] := hl
  show Wr p l e 0 s m args below meth c (some (.int (nI 2))) 0 ls []
  refine lv_iconst (v := 1) X.ex X.co dJ6_stringSize_0f7a4_0 (by decide) ?_
  refine lv_istore_n (lv' := [(1, .int 1), (0, .int (nI v))]) X.ex X.co dJ6_stringSize_0f7a4_1 rfl hl (by decide) rfl (fun ls hl => ?_)
  refine lv_iload_n X.ex X.co dJ6_stringSize_0f7a4_2 rfl (lv_at hl 1 rfl) ?_
  refine n_if_lt X (x := v) (tgt := 11) (by omega) dJ6_stringSize_0f7a4_3 (by decide) (fun c_1 => ?_) (fun c_1 => ?_)
  · exact c_1.elim
  · refine lv_iconst (v := 0) X.ex X.co dJ6_stringSize_0f7a4_6 (by decide) ?_
    refine lv_istore_n (lv' := [(1, .int 0), (0, .int (nI v))]) X.ex X.co dJ6_stringSize_0f7a4_7 rfl hl (by decide) rfl (fun ls hl => ?_)
    refine lv_iload_n X.ex X.co dJ6_stringSize_0f7a4_8 rfl (lv_at hl 1 rfl) ?_
    refine lv_ineg X.ex X.co dJ6_stringSize_0f7a4_9 ?_
    refine lv_istore_n (lv' := [(0, .int (-nI v)), (1, .int 0)]) X.ex X.co dJ6_stringSize_0f7a4_10 rfl hl (by decide) rfl (fun ls hl => ?_)
    refine lv_bipush (v := (-10)) X.ex X.co dJ6_stringSize_0f7a4_11 (by decide) ?_
    refine lv_istore_n (lv' := [(2, .int (-10)), (0, .int (-nI v)), (1, .int 0)]) X.ex X.co dJ6_stringSize_0f7a4_13 rfl hl (by decide) rfl (fun ls hl => ?_)
    refine lv_iconst (v := 1) X.ex X.co dJ6_stringSize_0f7a4_14 (by decide) ?_
    refine lv_istore_n (lv' := [(3, .int 1), (2, .int (-10)), (0, .int (-nI v)), (1, .int 0)]) X.ex X.co dJ6_stringSize_0f7a4_15 rfl hl (by decide) rfl (fun ls hl => ?_)
    refine lv_iload_n X.ex X.co dJ6_stringSize_0f7a4_16 rfl (lv_at hl 0 rfl) ?_
    refine lv_bipush (v := 10) X.ex X.co dJ6_stringSize_0f7a4_17 (by decide) ?_
    refine lv_icmp_ge (tgt := 42) X.ex X.co dJ6_stringSize_0f7a4_19 (by decide) (fun c_2 => ?_) (fun c_2 => ?_)
    · exact absurd c_2 (by decide)
    · refine lv_iload_n X.ex X.co dJ6_stringSize_0f7a4_22 rfl (lv_at hl 2 rfl) ?_
      refine lv_iload_n X.ex X.co dJ6_stringSize_0f7a4_23 rfl (lv_at hl 1 rfl) ?_
      refine lv_icmp_le (tgt := 31) X.ex X.co dJ6_stringSize_0f7a4_24 (by decide) (fun c_3 => ?_) (fun c_3 => ?_)
      · refine lv_bipush (v := 10) X.ex X.co dJ6_stringSize_0f7a4_31 (by decide) ?_
        refine lv_iload_n X.ex X.co dJ6_stringSize_0f7a4_33 rfl (lv_at hl 1 rfl) ?_
        refine lv_imul X.ex X.co dJ6_stringSize_0f7a4_34 (top_eq (y := (-100)) (by decide) ?_)
        refine lv_istore_n (lv' := [(2, .int (-100)), (3, .int 1), (0, .int (-nI v)), (1, .int 0)]) X.ex X.co dJ6_stringSize_0f7a4_35 rfl hl (by decide) rfl (fun ls hl => ?_)
        refine lv_iinc (v := 2) (lv' := [(3, .int 2), (2, .int (-100)), (0, .int (-nI v)), (1, .int 0)]) X.ex X.co dJ6_stringSize_0f7a4_36 hl (k := 1) rfl (by decide) (by decide) rfl (fun ls hl => ?_)
        refine lv_goto (tgt := 16) X.ex X.co dJ6_stringSize_0f7a4_39 (by decide) ?_
        refine lv_iload_n X.ex X.co dJ6_stringSize_0f7a4_16 rfl (lv_at hl 0 rfl) ?_
        refine lv_bipush (v := 10) X.ex X.co dJ6_stringSize_0f7a4_17 (by decide) ?_
        refine lv_icmp_ge (tgt := 42) X.ex X.co dJ6_stringSize_0f7a4_19 (by decide) (fun c_4 => ?_) (fun c_4 => ?_)
        · exact absurd c_4 (by decide)
        · refine lv_iload_n X.ex X.co dJ6_stringSize_0f7a4_22 rfl (lv_at hl 2 rfl) ?_
          refine lv_iload_n X.ex X.co dJ6_stringSize_0f7a4_23 rfl (lv_at hl 1 rfl) ?_
          refine lv_icmp_le (tgt := 31) X.ex X.co dJ6_stringSize_0f7a4_24 (by decide) (fun c_5 => ?_) (fun c_5 => ?_)
          · exact absurd c_5 (ng3 v hv)
          · refine lv_iload_n X.ex X.co dJ6_stringSize_0f7a4_27 rfl (lv_at hl 0 rfl) ?_
            refine lv_iload_n X.ex X.co dJ6_stringSize_0f7a4_28 rfl (lv_at hl 3 rfl) ?_
            refine lv_iadd X.ex X.co dJ6_stringSize_0f7a4_29 (top_eq (y := 2) (by decide) ?_)
            exact r_i X rfl rfl (by decide) dJ6_stringSize_0f7a4_30
      · exact absurd (ng2 v (by omega) h9) c_3
theorem ng5 : -nI 100 ≤ -10 ∧ -nI 100 ≤ -100 ∧ ¬ -nI 100 ≤ -1000 := by decide +kernel
set_option maxHeartbeats 4000000 in
set_option maxRecDepth 100000 in
theorem c_sz3 (l : Launch) (G : GT) (v : Nat) (hv : v = 100) : rM l yJ6_stringSize_0f7a4 cJ6_stringSize_0f7a4 4 ((Option.some FieldType.int)) 0 G [.int (nI v)] (fun _ => True) (some (.int (nI 3))) := by
  refine mk_m (by decide) (Nat.le_of_ble_eq_true rfl) ?_
  intro p e s m args below meth c X ls hl g0 F hnm
  have hK := g0.1
  have hl : lv_has ls 4 [(0, .int (nI v))] := hl
  show Wr p l e 0 s m args below meth c (some (.int (nI 3))) 0 ls []
  refine lv_iconst (v := 1) X.ex X.co dJ6_stringSize_0f7a4_0 (by decide) ?_
  refine lv_istore_n (lv' := [(1, .int 1), (0, .int (nI v))]) X.ex X.co dJ6_stringSize_0f7a4_1 rfl hl (by decide) rfl (fun ls hl => ?_)
  refine lv_iload_n X.ex X.co dJ6_stringSize_0f7a4_2 rfl (lv_at hl 1 rfl) ?_
  refine n_if_lt X (x := v) (tgt := 11) (by omega) dJ6_stringSize_0f7a4_3 (by decide) (fun c_1 => ?_) (fun c_1 => ?_)
  · exact c_1.elim
  · refine lv_iconst (v := 0) X.ex X.co dJ6_stringSize_0f7a4_6 (by decide) ?_
    refine lv_istore_n (lv' := [(1, .int 0), (0, .int (nI v))]) X.ex X.co dJ6_stringSize_0f7a4_7 rfl hl (by decide) rfl (fun ls hl => ?_)
    refine lv_iload_n X.ex X.co dJ6_stringSize_0f7a4_8 rfl (lv_at hl 1 rfl) ?_
    refine lv_ineg X.ex X.co dJ6_stringSize_0f7a4_9 ?_
    refine lv_istore_n (lv' := [(0, .int (-nI v)), (1, .int 0)]) X.ex X.co dJ6_stringSize_0f7a4_10 rfl hl (by decide) rfl (fun ls hl => ?_)
    refine lv_bipush (v := (-10)) X.ex X.co dJ6_stringSize_0f7a4_11 (by decide) ?_
    refine lv_istore_n (lv' := [(2, .int (-10)), (0, .int (-nI v)), (1, .int 0)]) X.ex X.co dJ6_stringSize_0f7a4_13 rfl hl (by decide) rfl (fun ls hl => ?_)
    refine lv_iconst (v := 1) X.ex X.co dJ6_stringSize_0f7a4_14 (by decide) ?_
    refine lv_istore_n (lv' := [(3, .int 1), (2, .int (-10)), (0, .int (-nI v)), (1, .int 0)]) X.ex X.co dJ6_stringSize_0f7a4_15 rfl hl (by decide) rfl (fun ls hl => ?_)
    refine lv_iload_n X.ex X.co dJ6_stringSize_0f7a4_16 rfl (lv_at hl 0 rfl) ?_
    refine lv_bipush (v := 10) X.ex X.co dJ6_stringSize_0f7a4_17 (by decide) ?_
    refine lv_icmp_ge (tgt := 42) X.ex X.co dJ6_stringSize_0f7a4_19 (by decide) (fun c_2 => ?_) (fun c_2 => ?_)
    · exact absurd c_2 (by decide)
    · refine lv_iload_n X.ex X.co dJ6_stringSize_0f7a4_22 rfl (lv_at hl 2 rfl) ?_
      refine lv_iload_n X.ex X.co dJ6_stringSize_0f7a4_23 rfl (lv_at hl 1 rfl) ?_
      refine lv_icmp_le (tgt := 31) X.ex X.co dJ6_stringSize_0f7a4_24 (by decide) (fun c_3 => ?_) (fun c_3 => ?_)
      · refine lv_bipush (v := 10) X.ex X.co dJ6_stringSize_0f7a4_31 (by decide) ?_
        refine lv_iload_n X.ex X.co dJ6_stringSize_0f7a4_33 rfl (lv_at hl 1 rfl) ?_
        refine lv_imul X.ex X.co dJ6_stringSize_0f7a4_34 (top_eq (y := (-100)) (by decide) ?_)
        refine lv_istore_n (lv' := [(2, .int (-100)), (3, .int 1), (0, .int (-nI v)), (1, .int 0)]) X.ex X.co dJ6_stringSize_0f7a4_35 rfl hl (by decide) rfl (fun ls hl => ?_)
        refine lv_iinc (v := 2) (lv' := [(3, .int 2), (2, .int (-100)), (0, .int (-nI v)), (1, .int 0)]) X.ex X.co dJ6_stringSize_0f7a4_36 hl (k := 1) rfl (by decide) (by decide) rfl (fun ls hl => ?_)
        refine lv_goto (tgt := 16) X.ex X.co dJ6_stringSize_0f7a4_39 (by decide) ?_
        refine lv_iload_n X.ex X.co dJ6_stringSize_0f7a4_16 rfl (lv_at hl 0 rfl) ?_
        refine lv_bipush (v := 10) X.ex X.co dJ6_stringSize_0f7a4_17 (by decide) ?_
        refine lv_icmp_ge (tgt := 42) X.ex X.co dJ6_stringSize_0f7a4_19 (by decide) (fun c_4 => ?_) (fun c_4 => ?_)
        · exact absurd c_4 (by decide)
        · refine lv_iload_n X.ex X.co dJ6_stringSize_0f7a4_22 rfl (lv_at hl 2 rfl) ?_
          refine lv_iload_n X.ex X.co dJ6_stringSize_0f7a4_23 rfl (lv_at hl 1 rfl) ?_
          refine lv_icmp_le (tgt := 31) X.ex X.co dJ6_stringSize_0f7a4_24 (by decide) (fun c_5 => ?_) (fun c_5 => ?_)
          · refine lv_bipush (v := 10) X.ex X.co dJ6_stringSize_0f7a4_31 (by decide) ?_
            refine lv_iload_n X.ex X.co dJ6_stringSize_0f7a4_33 rfl (lv_at hl 1 rfl) ?_
            refine lv_imul X.ex X.co dJ6_stringSize_0f7a4_34 (top_eq (y := (-1000)) (by decide) ?_)
            refine lv_istore_n (lv' := [(2, .int (-1000)), (3, .int 2), (0, .int (-nI v)), (1, .int 0)]) X.ex X.co dJ6_stringSize_0f7a4_35 rfl hl (by decide) rfl (fun ls hl => ?_)
            refine lv_iinc (v := 3) (lv' := [(3, .int 3), (2, .int (-1000)), (0, .int (-nI v)), (1, .int 0)]) X.ex X.co dJ6_stringSize_0f7a4_36 hl (k := 1) rfl (by decide) (by decide) rfl (fun ls hl => ?_)
            refine lv_goto (tgt := 16) X.ex X.co dJ6_stringSize_0f7a4_39 (by decide) ?_
            refine lv_iload_n X.ex X.co dJ6_stringSize_0f7a4_16 rfl (lv_at hl 0 rfl) ?_
            refine lv_bipush (v := 10) X.ex X.co dJ6_stringSize_0f7a4_17 (by decide) ?_
            refine lv_icmp_ge (tgt := 42) X.ex X.co dJ6_stringSize_0f7a4_19 (by decide) (fun c_6 => ?_) (fun c_6 => ?_)
            · exact absurd c_6 (by decide)
            · refine lv_iload_n X.ex X.co dJ6_stringSize_0f7a4_22 rfl (lv_at hl 2 rfl) ?_
              refine lv_iload_n X.ex X.co dJ6_stringSize_0f7a4_23 rfl (lv_at hl 1 rfl) ?_
              refine lv_icmp_le (tgt := 31) X.ex X.co dJ6_stringSize_0f7a4_24 (by decide) (fun c_7 => ?_) (fun c_7 => ?_)
              · exact absurd c_7 (by subst hv; exact ng5.2.2)
              · refine lv_iload_n X.ex X.co dJ6_stringSize_0f7a4_27 rfl (lv_at hl 0 rfl) ?_
                refine lv_iload_n X.ex X.co dJ6_stringSize_0f7a4_28 rfl (lv_at hl 3 rfl) ?_
                refine lv_iadd X.ex X.co dJ6_stringSize_0f7a4_29 (top_eq (y := 3) (by decide) ?_)
                exact r_i X rfl rfl (by decide) dJ6_stringSize_0f7a4_30
          · exact absurd (by subst hv; exact ng5.2.1) c_5
      · exact absurd (by subst hv; exact ng5.1) c_3
theorem c_sz (l : Launch) (G : GT) (v : Nat) (hv : v ≤ 100) : rM l yJ6_stringSize_0f7a4 cJ6_stringSize_0f7a4 4 ((Option.some FieldType.int)) 0 G [.int (nI v)] (fun _ => True) (some (.int (nI (dgN v)))) := by
  unfold dgN
  split
  · rename_i h
    exact c_sz1 l G v h
  · split
    · rename_i h
      exact c_sz2 l G v h (by omega)
    · exact c_sz3 l G v (by omega)
