/-! ===== isDay ===== -/
section DAYS
variable {p : Program} {l : Launch} {e : Env} {hR rc rs : Nat} {s : State} {m : MethodId} {args : Array Value} {below : List Frame} {meth : Method} {c : Code} {H : Heap} {locs : List Loc} {cells slots : Nat} {Q : State → Prop}
variable {G : GT} {A AO : Nat → Prop} {b d : Nat} {σ : Sg} {oad : I2 → Nat} {wf : Nat → Int32} {ls : Array Slot}
variable {q0 : Nat} {τ : Sg}
variable {bf : Nat → Int32}
set_option maxHeartbeats 4000000 in
set_option maxRecDepth 100000 in
theorem id_fill (hst : l.stackTraces = false) (hAg : ∀ q, A q → gA G q) (hdis : ∀ q, A q → ¬ AO q) (X : CF p s m args meth c cL_isDay 7 "CourseForgeLaw" (some .boolean)) (g0 : GG G s s.heap) (hR9 : 13 ≤ hR) (hd9 : d ≤ 1000) (hA2 : ∀ q, (fun q => A q ∨ q = q0) q → gA G q) (hq0 : ¬ A q0) (hqO : ¬ AO q0) (x9 : Nat) (c0 s0 : Nat) (hrc : c0 + 128 ≤ rc) (hrs : s0 + 576 ≤ rs) (kend : ∀ (bf : Nat → Int32), (∀ i, i < (nSt σ * nLe σ) → bf i = masNow σ (i / nLe σ) (i % nLe σ)) → ∀ (H : Heap) (locs : List Loc) (ls : Array Slot) (cells slots : Nat), LW G A AO b d σ oad (mR σ) wf H → BW G q0 64 bf H → va_S (fun q => A q ∨ q = q0) s.heap H locs → lv_has ls 7 [(0, .ref b), (1, .ref (oad (0, 0))), (2, .int (nI x9)), (3, .ref q0), (4, .int (nI (nSt σ * nLe σ)))] → cells ≤ c0 + 128 → slots ≤ s0 + 576 → W p l e (RM hR rc rs) s m args below meth c H locs cells slots Q (F0 m 48 ls [])) :
    ∀ (n j : Nat), j + n = nSt σ * nLe σ → ∀ (bf : Nat → Int32), (∀ i, i < j → bf i = masNow σ (i / nLe σ) (i % nLe σ)) → ∀ (H : Heap) (locs : List Loc) (ls : Array Slot) (cells slots : Nat), LW G A AO b d σ oad (mR σ) wf H → BW G q0 64 bf H → va_S (fun q => A q ∨ q = q0) s.heap H locs → lv_has ls 7 [(0, .ref b), (1, .ref (oad (0, 0))), (2, .int (nI x9)), (3, .ref q0), (4, .int (nI j))] → cells ≤ c0 + 2 * j → slots ≤ s0 + 9 * j → W p l e (RM hR rc rs) s m args below meth c H locs cells slots Q (F0 m 8 ls []) := by
  intro n
  induction n with
  | zero =>
    intro j ha bf hbf H locs ls cells slots W0 hB hS hl hc hs
    have hb := W0.1.1.1.1.1.1
    have hmul : nSt σ * nLe σ ≤ 8 * 8 := Nat.mul_le_mul (by omega) (by omega)
    refine lv_iload X.ex X.co dL_isDay_8 (lv_at hl 4 rfl) ?_
    refine lv_aload_n X.ex X.co dL_isDay_10 rfl (lv_at hl 1 rfl) ?_
    refine lv_iconst (v := 1) X.ex X.co dL_isDay_11 (by decide) ?_
    refine k_ml X g0.1 W0.2.2.2 1 (by omega) (mR_1 σ) dL_isDay_12 ?_
    refine lv_aload_n X.ex X.co dL_isDay_13 rfl (lv_at hl 1 rfl) ?_
    refine lv_iconst (v := 2) X.ex X.co dL_isDay_14 (by decide) ?_
    refine k_ml X g0.1 W0.2.2.2 2 (by omega) (mR_2 σ) dL_isDay_15 ?_
    refine n_mul X (x := nSt σ) (y := nLe σ) dL_isDay_16 ?_
    refine n_cmp_ge X (x := j) (y := (nSt σ) * (nLe σ)) (tgt := 48) (by omega) (by omega) dL_isDay_17 (by decide) (fun c_1 => ?_) (fun c_1 => ?_)
    · have ha9 : j = nSt σ * nLe σ := by omega
      rw [ha9] at hl
      rw [ha9] at hbf
      exact kend bf hbf H locs ls _ _ W0 hB hS (lv_sub hl [0, 1, 2, 3, 4] rfl) (by omega) (by omega)
    · exact absurd c_1 (by omega)
  | succ n ih =>
    intro j ha bf hbf H locs ls cells slots W0 hB hS hl hc hs
    have hb := W0.1.1.1.1.1.1
    have hmul : nSt σ * nLe σ ≤ 8 * 8 := Nat.mul_le_mul (by omega) (by omega)
    have hpos : 0 < nLe σ := Nat.pos_of_ne_zero (fun z => by rw [z, Nat.mul_zero] at ha; omega)
    have hj1 : j / nLe σ < nSt σ := (Nat.div_lt_iff_lt_mul hpos).mpr (by omega)
    have hj2 : j % nLe σ < nLe σ := Nat.mod_lt _ hpos
    refine lv_iload X.ex X.co dL_isDay_8 (lv_at hl 4 rfl) ?_
    refine lv_aload_n X.ex X.co dL_isDay_10 rfl (lv_at hl 1 rfl) ?_
    refine lv_iconst (v := 1) X.ex X.co dL_isDay_11 (by decide) ?_
    refine k_ml X g0.1 W0.2.2.2 1 (by omega) (mR_1 σ) dL_isDay_12 ?_
    refine lv_aload_n X.ex X.co dL_isDay_13 rfl (lv_at hl 1 rfl) ?_
    refine lv_iconst (v := 2) X.ex X.co dL_isDay_14 (by decide) ?_
    refine k_ml X g0.1 W0.2.2.2 2 (by omega) (mR_2 σ) dL_isDay_15 ?_
    refine n_mul X (x := nSt σ) (y := nLe σ) dL_isDay_16 ?_
    refine n_cmp_ge X (x := j) (y := (nSt σ) * (nLe σ)) (tgt := 48) (by omega) (by omega) dL_isDay_17 (by decide) (fun c_1 => ?_) (fun c_1 => ?_)
    · exact absurd c_1 (by omega)
    · refine lv_aload_n X.ex X.co dL_isDay_20 rfl (lv_at hl 3 rfl) ?_
      refine lv_iload X.ex X.co dL_isDay_21 (lv_at hl 4 rfl) ?_
      refine lv_aload_n X.ex X.co dL_isDay_23 rfl (lv_at hl 0 rfl) ?_
      refine lv_bipush (v := 9) X.ex X.co dL_isDay_24 (by decide) ?_
      refine lv_iload X.ex X.co dL_isDay_26 (lv_at hl 4 rfl) ?_
      refine lv_aload_n X.ex X.co dL_isDay_28 rfl (lv_at hl 1 rfl) ?_
      refine lv_iconst (v := 2) X.ex X.co dL_isDay_29 (by decide) ?_
      refine k_ml X g0.1 W0.2.2.2 2 (by omega) (mR_2 σ) dL_isDay_30 ?_
      refine n_div X (x := j) (y := nLe σ) (by omega) hpos (by omega) dL_isDay_31 ?_
      refine lv_iload X.ex X.co dL_isDay_32 (lv_at hl 4 rfl) ?_
      refine lv_aload_n X.ex X.co dL_isDay_34 rfl (lv_at hl 1 rfl) ?_
      refine lv_iconst (v := 2) X.ex X.co dL_isDay_35 (by decide) ?_
      refine k_ml X g0.1 W0.2.2.2 2 (by omega) (mR_2 σ) dL_isDay_36 ?_
      refine n_rem X (x := j) (y := nLe σ) (by omega) hpos (by omega) dL_isDay_37 ?_
      refine k_call (n := 4) X mn_40 m_0 mn_39 ⟨by decide, by decide, by decide +kernel⟩ (by decide) mn_38 (c_L_ask_9 l hst G A hAg b σ W0.1.1.1.1 W0.1.1.1.2 W0.1.1.2 (nI (j / (nLe σ))) (nI (j % (nLe σ)))) (g0.step hS hA2) W0 hdis (lsq_ma W0.1.1.2 _ _) W0.1 (q_ma W0.1 hj1 hj2) (by omega) rfl hl.1 rfl (Nat.le_of_ble_eq_true rfl) dL_isDay_38 (by omega) (by omega) hS (fun q h => Or.inl h) (fun H locs W0 hz hk9 hS => ?_)
      have hB := BW.kept hB hq0 hk9
      refine k_bs X g0.1 W0 hB hq0 hqO hS (Or.inr rfl) j (by omega) (by omega) dL_isDay_41 (fun H locs W0 hB hS => ?_)
      refine lv_iinc (v := nI (j + 1)) (lv' := [(4, .int (nI (j + 1))), (0, .ref b), (1, .ref (oad (0, 0))), (2, .int (nI x9)), (3, .ref q0)]) X.ex X.co dL_isDay_42 hl (k := 4) rfl (n_inc _) (by decide) rfl (fun ls hl => ?_)
      refine lv_goto (tgt := 8) X.ex X.co dL_isDay_45 (by decide) ?_
      exact ih (j + 1) (by omega) (upd bf j (masNow σ (j / nLe σ) (j % nLe σ))) (BF_up (h := fun i => masNow σ (i / nLe σ) (i % nLe σ)) rfl hbf) H locs ls _ _ W0 hB hS (lv_sub hl [1, 2, 3, 4, 0] rfl) (by omega) (by omega)
set_option maxHeartbeats 4000000 in
set_option maxRecDepth 100000 in
theorem id_cmp (hst : l.stackTraces = false) (hAg : ∀ q, A q → gA G q) (hdis : ∀ q, A q → ¬ AO q) (X : CF p s m args meth c cL_isDay 7 "CourseForgeLaw" (some .boolean)) (g0 : GG G s s.heap) (hR9 : 13 ≤ hR) (hd9 : d ≤ 1000) (hA2 : ∀ q, (fun q => A q ∨ q = q0) q → gA G q) (hq0 : ¬ A q0) (hqO : ¬ AO q0) (x9 : Nat) (bf : Nat → Int32) (hbf : ∀ i, i < nSt σ * nLe σ → bf i = masNow σ (i / nLe σ) (i % nLe σ)) (g1 : nSt τ = nSt σ) (g2 : nLe τ = nLe σ) (hmas : ∀ st l, ∃ M M2, masNow σ st l = nI M ∧ masNow τ st l = nI M2 ∧ M2 ≤ M ∧ M ≤ 100) (c0 s0 : Nat) (hrc : c0 + 128 ≤ rc) (hrs : s0 + 576 ≤ rs) (kend : ∀ (H : Heap) (locs : List Loc) (ls : Array Slot) (cells slots : Nat), LW G A AO b d τ oad (mR σ) wf H → BW G q0 64 bf H → va_S (fun q => A q ∨ q = q0) s.heap H locs → lv_has ls 7 [(5, .int 1)] → cells ≤ c0 + 128 → slots ≤ s0 + 576 → W p l e (RM hR rc rs) s m args below meth c H locs cells slots Q (F0 m 147 ls [])) :
    ∀ (n j : Nat), j + n = nSt σ * nLe σ → ∀ (H : Heap) (locs : List Loc) (ls : Array Slot) (cells slots : Nat), LW G A AO b d τ oad (mR σ) wf H → BW G q0 64 bf H → va_S (fun q => A q ∨ q = q0) s.heap H locs → lv_has ls 7 [(0, .ref b), (1, .ref (oad (0, 0))), (2, .int (nI x9)), (3, .ref q0), (5, .int 1), (6, .int (nI j))] → cells ≤ c0 + 2 * j → slots ≤ s0 + 9 * j → W p l e (RM hR rc rs) s m args below meth c H locs cells slots Q (F0 m 92 ls []) := by
  intro n
  induction n with
  | zero =>
    intro j ha H locs ls cells slots W0 hB hS hl hc hs
    have hb := W0.1.1.1.1.1.1
    have hmul : nSt σ * nLe σ ≤ 8 * 8 := Nat.mul_le_mul (by omega) (by omega)
    refine lv_iload X.ex X.co dL_isDay_92 (lv_at hl 5 rfl) ?_
    refine lv_aload_n X.ex X.co dL_isDay_94 rfl (lv_at hl 1 rfl) ?_
    refine lv_iconst (v := 1) X.ex X.co dL_isDay_95 (by decide) ?_
    refine k_ml X g0.1 W0.2.2.2 1 (by omega) (mR_1 σ) dL_isDay_96 ?_
    refine lv_aload_n X.ex X.co dL_isDay_97 rfl (lv_at hl 1 rfl) ?_
    refine lv_iconst (v := 2) X.ex X.co dL_isDay_98 (by decide) ?_
    refine k_ml X g0.1 W0.2.2.2 2 (by omega) (mR_2 σ) dL_isDay_99 ?_
    refine n_mul X (x := nSt σ) (y := nLe σ) dL_isDay_100 ?_
    refine n_cmp_ge X (x := j) (y := (nSt σ) * (nLe σ)) (tgt := 147) (by omega) (by omega) dL_isDay_101 (by decide) (fun c_1 => ?_) (fun c_1 => ?_)
    · have ha9 : j = nSt σ * nLe σ := by omega
      rw [ha9] at hl
      exact kend H locs ls _ _ W0 hB hS (lv_sub hl [4] rfl) (by omega) (by omega)
    · exact absurd c_1 (by omega)
  | succ n ih =>
    intro j ha H locs ls cells slots W0 hB hS hl hc hs
    have hb := W0.1.1.1.1.1.1
    have hmul : nSt σ * nLe σ ≤ 8 * 8 := Nat.mul_le_mul (by omega) (by omega)
    have hpos : 0 < nLe σ := Nat.pos_of_ne_zero (fun z => by rw [z, Nat.mul_zero] at ha; omega)
    have hj1 : j / nLe σ < nSt σ := (Nat.div_lt_iff_lt_mul hpos).mpr (by omega)
    have hj2 : j % nLe σ < nLe σ := Nat.mod_lt _ hpos
    obtain ⟨M, M2, eM, eM2, hM1, hM2⟩ := hmas (j / nLe σ) (j % nLe σ)
    refine lv_iload X.ex X.co dL_isDay_92 (lv_at hl 5 rfl) ?_
    refine lv_aload_n X.ex X.co dL_isDay_94 rfl (lv_at hl 1 rfl) ?_
    refine lv_iconst (v := 1) X.ex X.co dL_isDay_95 (by decide) ?_
    refine k_ml X g0.1 W0.2.2.2 1 (by omega) (mR_1 σ) dL_isDay_96 ?_
    refine lv_aload_n X.ex X.co dL_isDay_97 rfl (lv_at hl 1 rfl) ?_
    refine lv_iconst (v := 2) X.ex X.co dL_isDay_98 (by decide) ?_
    refine k_ml X g0.1 W0.2.2.2 2 (by omega) (mR_2 σ) dL_isDay_99 ?_
    refine n_mul X (x := nSt σ) (y := nLe σ) dL_isDay_100 ?_
    refine n_cmp_ge X (x := j) (y := (nSt σ) * (nLe σ)) (tgt := 147) (by omega) (by omega) dL_isDay_101 (by decide) (fun c_1 => ?_) (fun c_1 => ?_)
    · exact absurd c_1 (by omega)
    · refine lv_iload X.ex X.co dL_isDay_104 (lv_at hl 4 rfl) ?_
      refine lv_if_eq (tgt := 147) X.ex X.co dL_isDay_106 (by decide) (fun c_2 => ?_) (fun c_2 => ?_)
      · exact absurd c_2 (by decide)
      · refine lv_aload_n X.ex X.co dL_isDay_109 rfl (lv_at hl 0 rfl) ?_
        refine lv_bipush (v := 9) X.ex X.co dL_isDay_110 (by decide) ?_
        refine lv_iload X.ex X.co dL_isDay_112 (lv_at hl 5 rfl) ?_
        refine lv_aload_n X.ex X.co dL_isDay_114 rfl (lv_at hl 1 rfl) ?_
        refine lv_iconst (v := 2) X.ex X.co dL_isDay_115 (by decide) ?_
        refine k_ml X g0.1 W0.2.2.2 2 (by omega) (mR_2 σ) dL_isDay_116 ?_
        refine n_div X (x := j) (y := nLe σ) (by omega) hpos (by omega) dL_isDay_117 ?_
        refine lv_iload X.ex X.co dL_isDay_118 (lv_at hl 5 rfl) ?_
        refine lv_aload_n X.ex X.co dL_isDay_120 rfl (lv_at hl 1 rfl) ?_
        refine lv_iconst (v := 2) X.ex X.co dL_isDay_121 (by decide) ?_
        refine k_ml X g0.1 W0.2.2.2 2 (by omega) (mR_2 σ) dL_isDay_122 ?_
        refine n_rem X (x := j) (y := nLe σ) (by omega) hpos (by omega) dL_isDay_123 ?_
        refine k_call (n := 4) X mn_40 m_0 mn_39 ⟨by decide, by decide, by decide +kernel⟩ (by decide) mn_38 (c_L_ask_9 l hst G A hAg b τ W0.1.1.1.1 W0.1.1.1.2 W0.1.1.2 (nI (j / (nLe σ))) (nI (j % (nLe σ)))) (g0.step hS hA2) W0 hdis (lsq_ma W0.1.1.2 _ _) W0.1 ((q_ma W0.1 (show j / nLe σ < nSt τ by omega) (show j % nLe σ < nLe τ by omega)).trans eM2) (by omega) rfl hl.1 rfl (Nat.le_of_ble_eq_true rfl) dL_isDay_124 (by omega) (by omega) hS (fun q h => Or.inl h) (fun H locs W0 hz hk9 hS => ?_)
        have hB := BW.kept hB hq0 hk9
        refine lv_aload_n X.ex X.co dL_isDay_127 rfl (lv_at hl 3 rfl) ?_
        refine lv_iload X.ex X.co dL_isDay_128 (lv_at hl 5 rfl) ?_
        refine k_bl X g0.1 hB j (by omega) (by omega) ((hbf j (by omega)).trans eM) dL_isDay_130 ?_
        refine n_cmp_gt X (x := M2) (y := M) (tgt := 138) (by omega) (by omega) dL_isDay_131 (by decide) (fun c_3 => ?_) (fun c_3 => ?_)
        · exact absurd c_3 (by omega)
        · refine lv_iconst (v := 1) X.ex X.co dL_isDay_134 (by decide) ?_
          refine lv_goto (tgt := 139) X.ex X.co dL_isDay_135 (by decide) ?_
          refine lv_istore (lv' := [(5, .int 1), (0, .ref b), (1, .ref (oad (0, 0))), (2, .int (nI x9)), (3, .ref q0), (6, .int (nI j))]) X.ex X.co dL_isDay_139 hl (by decide) rfl (fun ls hl => ?_)
          refine lv_iinc (v := nI (j + 1)) (lv' := [(6, .int (nI (j + 1))), (5, .int 1), (0, .ref b), (1, .ref (oad (0, 0))), (2, .int (nI x9)), (3, .ref q0)]) X.ex X.co dL_isDay_141 hl (k := 5) rfl (n_inc _) (by decide) rfl (fun ls hl => ?_)
          refine lv_goto (tgt := 92) X.ex X.co dL_isDay_144 (by decide) ?_
          exact ih (j + 1) (by omega) H locs ls _ _ W0 hB hS (lv_sub hl [2, 3, 4, 5, 1, 0] rfl) (by omega) (by omega)
set_option maxHeartbeats 4000000 in
set_option maxRecDepth 100000 in
theorem id_main (hst : l.stackTraces = false) (hAg : ∀ q, A q → gA G q) (hdis : ∀ q, A q → ¬ AO q) (X : CF p s m args meth c cL_isDay 7 "CourseForgeLaw" (some .boolean)) (g0 : GG G s s.heap) (hR9 : 13 ≤ hR) (hd9 : d ≤ 1000) (hA2 : ∀ q, (fun q => A q ∨ q = q0) q → gA G q) (hq0 : ¬ A q0) (hqO : ¬ AO q0) (x9 : Nat) (hx : 1 ≤ x9 ∧ x9 ≤ 4) (hd8 : d + x9 ≤ 999) (W0 : LW G A AO b d σ oad (mR σ) wf H) (hB : BW G q0 64 bf H) (hS : va_S (fun q => A q ∨ q = q0) s.heap H locs) (hl : lv_has ls 7 [(0, .ref b), (1, .ref (oad (0, 0))), (2, .int (nI x9)), (3, .ref q0)]) (hrc : cells + 280 ≤ rc) (hrs : slots + 1200 ≤ rs) (kend149 : ∀ (τ : Sg) (H : Heap) (locs : List Loc) (ls : Array Slot) (cells1 slots1 : Nat), LW G A AO b (d + x9) τ oad (mR σ) wf H → cEq τ σ → va_S (fun q => A q ∨ q = q0) s.heap H locs → cells1 ≤ cells + 280 → slots1 ≤ slots + 1200 → W p l e (RM hR rc rs) s m args below meth c H locs cells1 slots1 Q (F0 m 149 ls [.int 1])) : W p l e (RM hR rc rs) s m args below meth c H locs cells slots Q (F0 m 5 ls []) := by
  have hb := W0.1.1.1.1.1.1
  have hmul : nSt σ * nLe σ ≤ 8 * 8 := Nat.mul_le_mul (by omega) (by omega)
  refine lv_iconst (v := 0) X.ex X.co dL_isDay_5 (by decide) ?_
  refine lv_istore (lv' := [(4, .int 0), (0, .ref b), (1, .ref (oad (0, 0))), (2, .int (nI x9)), (3, .ref q0)]) X.ex X.co dL_isDay_6 hl (by decide) rfl (fun ls hl => ?_)
  refine id_fill hst hAg hdis X g0 hR9 (by omega) hA2 hq0 hqO x9 cells slots (by omega) (by omega) (fun bf hbf H locs ls cells1 slots1 W0 hB hS hl hc1 hs1 => ?_) (nSt σ * nLe σ) 0 (by omega) bf (fun i hi => absurd hi (by omega)) H locs ls _ _ W0 hB hS (lv_sub hl [1, 2, 3, 4, 0] rfl) (by omega) (by omega)
  refine lv_aload_n X.ex X.co dL_isDay_48 rfl (lv_at hl 0 rfl) ?_
  refine k_cnt X ce_X9_today mn_4 (c_X9_today l G A hAg b σ W0.1.1.1.1 W0.1.1.1.2 W0.1.1.2) (g0.step hS hA2) W0 hdis (r := fToday σ) rfl (v := nI d) W0.1.2.2.1 rfl (by omega) rfl hl.1 rfl (Nat.le_of_ble_eq_true rfl) dL_isDay_49 (by omega) (by omega) hS (fun q h => Or.inl h) (fun H locs W0 hz hk9 hS => ?_)
  have hB := BW.kept hB hq0 hk9
  refine lv_istore (lv' := [(4, .int (nI d)), (0, .ref b), (1, .ref (oad (0, 0))), (2, .int (nI x9)), (3, .ref q0)]) X.ex X.co dL_isDay_52 hl (by decide) rfl (fun ls hl => ?_)
  refine lv_aload_n X.ex X.co dL_isDay_54 rfl (lv_at hl 1 rfl) ?_
  refine lv_bipush (v := 12) X.ex X.co dL_isDay_55 (by decide) ?_
  refine lv_iload_n X.ex X.co dL_isDay_57 rfl (lv_at hl 3 rfl) ?_
  refine lv_iconst (v := 0) X.ex X.co dL_isDay_58 (by decide) ?_
  refine lv_iconst (v := 0) X.ex X.co dL_isDay_59 (by decide) ?_
  refine lv_iconst (v := 0) X.ex X.co dL_isDay_60 (by decide) ?_
  obtain ⟨hv, τ, hs9, hL9, g1, g2, g3, g4, g5, g6, g7, hmas⟩ := s_pass W0.1 hx (by omega)
  refine k_call (n := 6) X mn_16 m_0 mn_15 ⟨by decide, by decide, by decide +kernel⟩ (by decide) mn_14 (c_L_deed_12 l hst G A hAg b σ W0.1.1.1.1 W0.1.1.1.2 W0.1.1.2 (nI x9) 0 0 0) (g0.step hS hA2) W0 hdis hs9 hL9 hv (by omega) rfl hl.1 rfl (Nat.le_of_ble_eq_true rfl) dL_isDay_61 (by omega) (by omega) hS (fun q h => Or.inl h) (fun H locs W0 hz hk9 hS => ?_)
  have hB := BW.kept hB hq0 hk9
  refine lv_iload X.ex X.co dL_isDay_64 (lv_at hl 0 rfl) ?_
  refine lv_iload_n X.ex X.co dL_isDay_66 rfl (lv_at hl 3 rfl) ?_
  refine n_add X (x := d) (y := x9) dL_isDay_67 ?_
  refine n_cmp_ne X (x := d + x9) (y := d + x9) (tgt := 86) (by omega) (by omega) dL_isDay_68 (by decide) (fun c_1 => ?_) (fun c_1 => ?_)
  · exact absurd rfl c_1
  · refine lv_aload_n X.ex X.co dL_isDay_71 rfl (lv_at hl 1 rfl) ?_
    refine k_cnt X ce_X9_today mn_4 (c_X9_today l G A hAg b τ W0.1.1.1.1 W0.1.1.1.2 W0.1.1.2) (g0.step hS hA2) W0 hdis (r := fToday τ) rfl (v := nI (d + x9)) W0.1.2.2.1 rfl (by omega) rfl hl.1 rfl (Nat.le_of_ble_eq_true rfl) dL_isDay_72 (by omega) (by omega) hS (fun q h => Or.inl h) (fun H locs W0 hz hk9 hS => ?_)
    have hB := BW.kept hB hq0 hk9
    refine lv_iload X.ex X.co dL_isDay_75 (lv_at hl 0 rfl) ?_
    refine lv_iload_n X.ex X.co dL_isDay_77 rfl (lv_at hl 3 rfl) ?_
    refine n_add X (x := d) (y := x9) dL_isDay_78 ?_
    refine n_cmp_ne X (x := (d + x9)) (y := d + x9) (tgt := 86) (by omega) (by omega) dL_isDay_79 (by decide) (fun c_2 => ?_) (fun c_2 => ?_)
    · exact absurd rfl c_2
    · refine lv_iconst (v := 1) X.ex X.co dL_isDay_82 (by decide) ?_
      refine lv_goto (tgt := 87) X.ex X.co dL_isDay_83 (by decide) ?_
      refine lv_istore (lv' := [(5, .int 1), (4, .int (nI d)), (0, .ref b), (1, .ref (oad (0, 0))), (2, .int (nI x9)), (3, .ref q0)]) X.ex X.co dL_isDay_87 hl (by decide) rfl (fun ls hl => ?_)
      refine lv_iconst (v := 0) X.ex X.co dL_isDay_89 (by decide) ?_
      refine lv_istore (lv' := [(6, .int 0), (5, .int 1), (4, .int (nI d)), (0, .ref b), (1, .ref (oad (0, 0))), (2, .int (nI x9)), (3, .ref q0)]) X.ex X.co dL_isDay_90 hl (by decide) rfl (fun ls hl => ?_)
      refine id_cmp (d := d + x9) hst hAg hdis X g0 hR9 (by omega) hA2 hq0 hqO x9 bf hbf g1 g2 hmas (cells + 128 + 1) (slots + 576 + 6) (by omega) (by omega) (fun H locs ls cells2 slots2 W0 hB hS hl hc2 hs2 => ?_) (nSt σ * nLe σ) 0 (by omega) H locs ls _ _ W0 hB hS (lv_sub hl [3, 4, 5, 6, 1, 0] rfl) (by omega) (by omega)
      refine lv_iload X.ex X.co dL_isDay_147 (lv_at hl 0 rfl) ?_
      exact kend149 τ H locs ls _ _ W0 ⟨g1, g2, g3, g4, g5, g6, fun z _ h => by rw [g7]; exact h⟩ hS (by omega) (by omega)
end DAYS
set_option maxHeartbeats 4000000 in
set_option maxRecDepth 100000 in
theorem c_L_isDay (l : Launch) (hst : l.stackTraces = false) (G : GT) (A AO : Nat → Prop) (hAg : ∀ q, A q → gA G q) (hdis : ∀ q, A q → ¬ AO q) (b d : Nat) (σ : Sg) (oad : I2 → Nat) (wf : Nat → Int32) (x9 : Nat) (hx : 1 ≤ x9 ∧ x9 ≤ 4) (hd8 : d + x9 ≤ 999) : cM l yL_isDay cL_isDay 7 (some .boolean) 13 300 1300 G [.ref b, .ref (oad (0, 0)), .int (nI x9)] (fun H => LW G A AO b d σ oad (mR σ) wf H) (fun v H => v = some (.int 1) ∧ ∃ τ, LW G A AO b (d + x9) τ oad (mR σ) wf H ∧ cEq τ σ) A := by
  refine mk_m (by decide) (Nat.le_of_ble_eq_true rfl) ?_
  intro p e s m args below meth c X ls hl g0 W0 hnm
  have hS : va_S A s.heap s.heap [] := va_S.rf
  have hb := W0.1.1.1.1.1.1
  have hl : lv_has ls 7 [(0, .ref b), (1, .ref (oad (0, 0))), (2, .int (nI x9))] := hl
  show W p l e (RM 13 300 1300) s m args below meth c s.heap [] 0 0 (MQ below (cQ (fun v H => v = some (.int 1) ∧ ∃ τ, LW G A AO b (d + x9) τ oad (mR σ) wf H ∧ cEq τ σ) A) args s 300 1300 A) (F0 m 0 ls [])
  refine lv_bipush (v := 64) X.ex X.co dL_isDay_0 (by decide) ?_
  refine k_newi X g0.1 hS (N' := 64) (by decide) (by decide) (by decide) (by show _ ≤ 300; omega) (by show _ ≤ 1300; omega) dL_isDay_2 (fun q0 H1 hq9 hat hz1 ho1 hS => ?_)
  refine lv_astore_n (lv' := [(3, .ref q0), (0, .ref b), (1, .ref (oad (0, 0))), (2, .int (nI x9))]) X.ex X.co dL_isDay_4 rfl hl (by decide) rfl (fun ls hl => ?_)
  obtain ⟨Ai, hAi⟩ : ∃ Ai : Nat → Prop, Ai = fun q => A q ∧ q ≠ q0 := ⟨_, rfl⟩
  have hq0A : A q0 := W0.2.2.1 q0 (by omega)
  have hAe : (fun q => Ai q ∨ q = q0) = A := by
    funext q
    rw [hAi]
    apply propext
    constructor
    · rintro (h | h)
      · exact h.1
      · rw [h]; exact hq0A
    · intro h
      by_cases hq : q = q0
      · exact Or.inr hq
      · exact Or.inl ⟨h, hq⟩
  have hAi1 : ∀ q, Ai q → A q := fun q h => by rw [hAi] at h; exact h.1
  have hqi : ¬ Ai q0 := fun h => by rw [hAi] at h; exact h.2 rfl
  have hqO : ¬ AO q0 := hdis q0 hq0A
  have W1 : LW G Ai AO b d σ oad (mR σ) wf H1 := ⟨W0.1, CB_old (W0.2.1.wd fun q h1 h2 => by rw [hAi]; exact ⟨h1, by omega⟩) ho1, fun q hq => by rw [hAi]; exact ⟨W0.2.2.1 q (by omega), by omega⟩, fw.old W0.2.2.2 ho1⟩
  have hB := fw.one hat
  rw [← hAe] at hS
  exact id_main hst (fun q h => hAg q (hAi1 q h)) (fun q h => hdis q (hAi1 q h)) X g0 (by omega) (by omega) (by rw [hAe]; exact hAg) hqi hqO x9 hx hd8 W1 hB hS (lv_sub hl [1, 2, 3, 0] rfl) (by omega) (by omega) (fun τ H locs ls cells1 slots1 W0 hq hS hc1 hs1 => c_i X (by rw [hAe] at hS; exact hS) rfl rfl ⟨rfl, τ, ⟨W0.1, W0.2.1.wd fun q h _ => hAi1 q h, fun q h => hAi1 q (W0.2.2.1 q h), W0.2.2.2⟩, hq⟩ (by omega) (by omega) dL_isDay_149)
