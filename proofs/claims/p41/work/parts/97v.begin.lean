/-! ===== the law's beginning ===== -/
theorem aW.mk {G : GT} {q1 q2 : Nat} {mf wf : Nat → Int32} {H : Heap} (h0 : va_at G.1 vwCl (q1, .inl (G.2.1 0, 30, .inl mf)) H) (h1 : va_at G.1 vwCl (q2, .inl (G.2.1 1, 30, .inl wf)) H) (hne : q1 ≠ q2) : aW G (fun q => q = q1 ∨ q = q2) (fun j => if j = (0, 1) then q2 else q1) mf wf H := by
  have e : fl [(0, 0), (0, 1)] (fun j => if j = (0, 1) then q2 else q1) (arE G mf wf) = [(q1, .inl (G.2.1 0, 30, .inl mf)), (q2, .inl (G.2.1 1, 30, .inl wf))] := rfl
  refine ⟨[(0, 0), (0, 1)], by decide, fun i => by simp [lvO], ?_, ?_⟩
  · rw [e]
    intro k q hk
    match k, hk with
    | 0, hk => cases hk; exact h0
    | 1, hk => cases hk; exact h1
    | k + 2, hk => exact absurd hk (by simp)
  · rw [e]
    refine ⟨fun i j x y hi hj hxy => ?_, fun k q hk => ?_⟩
    · match i, j, hi, hj with
      | 0, 0, _, _ => rfl
      | 1, 1, _, _ => rfl
      | 0, 1, hi, hj => cases hi; cases hj; exact absurd hxy hne
      | 1, 0, hi, hj => cases hi; cases hj; exact absurd hxy.symm hne
      | i + 2, _, hi, _ => exact absurd hi (by simp)
      | 0, j + 2, _, hj => exact absurd hj (by simp)
      | 1, j + 2, _, hj => exact absurd hj (by simp)
    · match k, hk with
      | 0, hk => cases hk; exact Or.inl rfl
      | 1, hk => cases hk; exact Or.inr rfl
      | k + 2, hk => exact absurd hk (by simp)
theorem Lw_0 : Lw 0 sg0 := ⟨⟨Qs_0, rfl⟩, ⟨fun _ _ => rfl, fun i hi => absurd hi (Nat.not_lt_zero i)⟩, rfl, fun a ha => absurd ha (Nat.not_lt_zero a), fun l hl => absurd hl (Nat.not_lt_zero l)⟩
theorem mR_0 {σ : Sg} (h1 : nSt σ = 0) (h2 : nLe σ = 0) (h3 : nEx σ = 0) (h4 : nCr σ = 0) (h5 : nCe σ = 0) : upd (fun _ => 0) 0 2 = mR σ := by
  funext x
  by_cases q : x = 0
  · subst q
    rw [pk_us]
    rfl
  · rw [pk_un q]
    unfold mR
    rw [h1, h2, h3, h4, h5, if_neg q]
    repeat' split
    all_goals first | rfl | omega
section BEGIN_
variable {p : Program} {l : Launch} {e : Env} {hR rc rs : Nat} {s : State} {m : MethodId} {args : Array Value} {below : List Frame} {meth : Method} {c : Code} {H : Heap} {locs : List Loc} {cells slots : Nat} {Q : State → Prop}
variable {G : GT} {A AO : Nat → Prop} {b d : Nat} {σ : Sg} {oad : I2 → Nat} {wf : Nat → Int32} {ls : Array Slot}
variable {sx L k i x9 w9 : Nat} {xs : Nat → Int32}
set_option maxHeartbeats 4000000 in
set_option maxRecDepth 100000 in
theorem law_st (hst : l.stackTraces = false) (hAg : ∀ q, A q → gA G q) (hA2 : ∀ q, (fun q => A q ∨ AO q) q → gA G q) (hdis : ∀ q, A q → ¬ AO q) (X : CF p s m args meth c cL_law 13 "CourseForgeLaw" (some .boolean)) (g0 : GG G s s.heap) (hX : va_X sx L xs s s.heap) (hxl : sx < s.heap.size) (hxA : ¬ (fun q => A q ∨ AO q) sx) (hL : L ≤ 2560) (hR9 : 20 ≤ hR) (c0 s0 : Nat) (hrc : c0 + 8 ≤ rc) (hrs : s0 + 1240 ≤ rs) (kend : ∀ (σ : Sg) (H : Heap) (locs : List Loc) (ls : Array Slot) (cells slots : Nat), LW G A AO b 0 σ oad (mR σ) wf H → nSt σ = 1 + pkN xs L 2 4 → va_S (fun q => A q ∨ AO q) s.heap H locs → lv_has ls 13 [(0, .ref sx), (1, .ref b), (2, .ref (oad (0, 0))), (3, .ref (oad (0, 1))), (4, .int 1), (5, .int (nI (1 + pkN xs L 2 4)))] → cells ≤ c0 + 8 → slots ≤ s0 + 1240 → W p l e (RM hR rc rs) s m args below meth c H locs cells slots Q (F0 m 135 ls [])) :
    ∀ (n j : Nat), j + n = 1 + pkN xs L 2 4 → ∀ (σ : Sg) (H : Heap) (locs : List Loc) (ls : Array Slot) (cells slots : Nat), LW G A AO b 0 σ oad (mR σ) wf H → nSt σ = j → nCo σ = 2 → va_S (fun q => A q ∨ AO q) s.heap H locs → lv_has ls 13 [(0, .ref sx), (1, .ref b), (2, .ref (oad (0, 0))), (3, .ref (oad (0, 1))), (4, .int 1), (5, .int (nI j))] → cells ≤ c0 + 2 * j → slots ≤ s0 + 310 * j → W p l e (RM hR rc rs) s m args below meth c H locs cells slots Q (F0 m 74 ls []) := by
  have hpk := pkN_lt (xs := xs) (L := L) (i := 2) (m := 4) (by omega)
  intro n
  induction n with
  | zero =>
    intro j ha σ H locs ls cells slots W0 hst9 hco hS hl hc hs
    refine lv_iload X.ex X.co dL_law_74 (lv_at hl 5 rfl) ?_
    refine lv_iconst (v := 1) X.ex X.co dL_law_76 (by decide) ?_
    refine lv_aload_n X.ex X.co dL_law_77 rfl (lv_at hl 0 rfl) ?_
    refine lv_iconst (v := 2) X.ex X.co dL_law_78 (by decide) ?_
    refine lv_iconst (v := 4) X.ex X.co dL_law_79 (by decide) ?_
    refine k_pickV X hX hxl hxA g0 hA2 hS hL (i := 2) (by omega) (k := 4) (by omega) (by omega) (by omega) hl.1 (Nat.le_of_ble_eq_true rfl) dL_law_80 (by omega) (by omega) ?_
    refine n_add X (x := 1) (y := pkN xs L 2 4) dL_law_83 ?_
    refine n_cmp_ge X (x := j) (y := 1 + (pkN xs L 2 4)) (tgt := 135) (by omega) (by omega) dL_law_84 (by decide) (fun c_1 => ?_) (fun c_1 => ?_)
    · have ha9 : j = 1 + pkN xs L 2 4 := by omega
      rw [ha9] at hl hst9
      exact kend σ H locs ls _ _ W0 hst9 hS (lv_sub hl [0, 1, 2, 3, 4, 5] rfl) (by omega) (by omega)
    · exact absurd c_1 (by omega)
  | succ n ih =>
    intro j ha σ H locs ls cells slots W0 hst9 hco hS hl hc hs
    refine lv_iload X.ex X.co dL_law_74 (lv_at hl 5 rfl) ?_
    refine lv_iconst (v := 1) X.ex X.co dL_law_76 (by decide) ?_
    refine lv_aload_n X.ex X.co dL_law_77 rfl (lv_at hl 0 rfl) ?_
    refine lv_iconst (v := 2) X.ex X.co dL_law_78 (by decide) ?_
    refine lv_iconst (v := 4) X.ex X.co dL_law_79 (by decide) ?_
    refine k_pickV X hX hxl hxA g0 hA2 hS hL (i := 2) (by omega) (k := 4) (by omega) (by omega) (by omega) hl.1 (Nat.le_of_ble_eq_true rfl) dL_law_80 (by omega) (by omega) ?_
    refine n_add X (x := 1) (y := pkN xs L 2 4) dL_law_83 ?_
    refine n_cmp_ge X (x := j) (y := 1 + (pkN xs L 2 4)) (tgt := 135) (by omega) (by omega) dL_law_84 (by decide) (fun c_1 => ?_) (fun c_1 => ?_)
    · exact absurd c_1 (by omega)
    · refine lv_iload X.ex X.co dL_law_87 (lv_at hl 4 rfl) ?_
      refine lv_if_eq (tgt := 119) X.ex X.co dL_law_89 (by decide) (fun c_2 => ?_) (fun c_2 => ?_)
      · exact absurd c_2 (by decide)
      · refine lv_aload_n X.ex X.co dL_law_92 rfl (lv_at hl 1 rfl) ?_
        refine lv_iconst (v := 1) X.ex X.co dL_law_93 (by decide) ?_
        refine lv_aload_n X.ex X.co dL_law_94 rfl (lv_at hl 0 rfl) ?_
        refine lv_bipush (v := 10) X.ex X.co dL_law_95 (by decide) ?_
        refine lv_iload X.ex X.co dL_law_97 (lv_at hl 5 rfl) ?_
        refine n_add X (x := 10) (y := j) dL_law_99 ?_
        refine lv_iconst (v := 2) X.ex X.co dL_law_100 (by decide) ?_
        refine k_pick X hX hxl hxA g0 hA2 hS hL (i := 10 + j) (by omega) (k := 2) (by omega) (by omega) (by omega) hl.1 (Nat.le_of_ble_eq_true rfl) dL_law_101 (by omega) (by omega) (fun p_3 hp_3 => ?_)
        refine lv_iconst (v := 0) X.ex X.co dL_law_104 (by decide) ?_
        refine lv_iconst (v := 0) X.ex X.co dL_law_105 (by decide) ?_
        refine lv_iconst (v := 0) X.ex X.co dL_law_106 (by decide) ?_
        obtain ⟨hv, τ, hs9, hL9, g0_, g1, g2, g3, g4, g5, g6, g7⟩ := s_addStudent W0.1 (q := p_3) (by omega) (by omega)
        refine k_call (n := 6) X mn_16 m_0 mn_15 ⟨by decide, by decide, by decide +kernel⟩ (by decide) mn_14 (c_L_deed_1 l hst G A hAg b σ W0.1.1.1.1 W0.1.1.1.2 W0.1.1.2 (nI p_3) 0 0 0) (g0.step hS hA2) W0 hdis hs9 hL9 hv (by omega) rfl hl.1 rfl (Nat.le_of_ble_eq_true rfl) dL_law_107 (by omega) (by omega) hS (fun q h => Or.inl h) (fun H locs W0 hz hk9 hS => ?_)
        refine lv_iload X.ex X.co dL_law_110 (lv_at hl 5 rfl) ?_
        refine n_cmp_ne X (x := nSt σ) (y := j) (tgt := 119) (by omega) (by omega) dL_law_112 (by decide) (fun c_4 => ?_) (fun c_4 => ?_)
        · exact absurd c_4 (by omega)
        · refine lv_iconst (v := 1) X.ex X.co dL_law_115 (by decide) ?_
          refine lv_goto (tgt := 120) X.ex X.co dL_law_116 (by decide) ?_
          refine lv_istore (lv' := [(4, .int 1), (0, .ref sx), (1, .ref b), (2, .ref (oad (0, 0))), (3, .ref (oad (0, 1))), (5, .int (nI j))]) X.ex X.co dL_law_120 hl (by decide) rfl (fun ls hl => ?_)
          refine lv_aload_n X.ex X.co dL_law_122 rfl (lv_at hl 3 rfl) ?_
          refine lv_iconst (v := 1) X.ex X.co dL_law_123 (by decide) ?_
          refine lv_dup2_11 X.ex X.co dL_law_124 rfl rfl ?_
          refine k_ml X g0.1 W0.2.2.2 1 (by omega) (mR_1 σ) dL_law_125 ?_
          refine lv_iconst (v := 1) X.ex X.co dL_law_126 (by decide) ?_
          refine n_add X (x := nSt σ) (y := 1) dL_law_127 ?_
          refine k_ms X g0.1 W0 hdis hS (fun q h => Or.inr h) 1 (by omega) (v := nI ((nSt σ) + 1)) dL_law_128 (fun H locs W0 hS => ?_)
          rw [mR_s (σ := σ) (τ := τ) (j := 1) (show nI (nSt σ + 1) = mR τ 1 by rw [mR_1, g1]) (Or.inl rfl) (Or.inr g2) g3 (Or.inr g4) (Or.inr g5) (fun _ _ => by rw [g6])] at W0
          refine lv_iinc (v := nI (j + 1)) (lv' := [(5, .int (nI (j + 1))), (4, .int 1), (0, .ref sx), (1, .ref b), (2, .ref (oad (0, 0))), (3, .ref (oad (0, 1)))]) X.ex X.co dL_law_129 hl (k := 5) rfl (n_inc _) (by decide) rfl (fun ls hl => ?_)
          refine lv_goto (tgt := 74) X.ex X.co dL_law_132 (by decide) ?_
          exact ih (j + 1) (by omega) τ H locs ls _ _ W0 (by omega) (by omega) hS (lv_sub hl [2, 3, 4, 5, 1, 0] rfl) (by omega) (by omega)
set_option maxHeartbeats 4000000 in
set_option maxRecDepth 100000 in
theorem law_co (hst : l.stackTraces = false) (hAg : ∀ q, A q → gA G q) (hA2 : ∀ q, (fun q => A q ∨ AO q) q → gA G q) (hdis : ∀ q, A q → ¬ AO q) (X : CF p s m args meth c cL_law 13 "CourseForgeLaw" (some .boolean)) (g0 : GG G s s.heap) (hX : va_X sx L xs s s.heap) (hxl : sx < s.heap.size) (hxA : ¬ (fun q => A q ∨ AO q) sx) (hL : L ≤ 2560) (hR9 : 20 ≤ hR) (W0 : LW G A AO b 0 sg0 oad (fun _ => 0) wf H) (hS : va_S (fun q => A q ∨ AO q) s.heap H locs) (hl : lv_has ls 13 [(0, .ref sx), (1, .ref b), (2, .ref (oad (0, 0))), (3, .ref (oad (0, 1)))]) (hrc : cells + 12 ≤ rc) (hrs : slots + 1860 ≤ rs) (kend : ∀ (σ : Sg) (H : Heap) (locs : List Loc) (ls : Array Slot) (cells1 slots1 : Nat), LW G A AO b 0 σ oad (mR σ) wf H → nSt σ = 1 + pkN xs L 2 4 → va_S (fun q => A q ∨ AO q) s.heap H locs → lv_has ls 13 [(0, .ref sx), (1, .ref b), (2, .ref (oad (0, 0))), (3, .ref (oad (0, 1))), (4, .int 1), (5, .int (nI (1 + pkN xs L 2 4)))] → cells1 ≤ cells + 12 → slots1 ≤ slots + 1860 → W p l e (RM hR rc rs) s m args below meth c H locs cells1 slots1 Q (F0 m 135 ls [])) : W p l e (RM hR rc rs) s m args below meth c H locs cells slots Q (F0 m 18 ls []) := by
  have hb := W0.1.1.1.1.1.1
  refine lv_aload_n X.ex X.co dL_law_18 rfl (lv_at hl 1 rfl) ?_
  refine lv_iconst (v := 0) X.ex X.co dL_law_19 (by decide) ?_
  refine lv_iconst (v := 0) X.ex X.co dL_law_20 (by decide) ?_
  refine lv_bipush (v := 20) X.ex X.co dL_law_21 (by decide) ?_
  refine lv_aload_n X.ex X.co dL_law_23 rfl (lv_at hl 0 rfl) ?_
  refine lv_iconst (v := 0) X.ex X.co dL_law_24 (by decide) ?_
  refine lv_bipush (v := 60) X.ex X.co dL_law_25 (by decide) ?_
  refine k_pick X hX hxl hxA g0 hA2 hS hL (i := 0) (by omega) (k := 60) (by omega) (by omega) (by omega) hl.1 (Nat.le_of_ble_eq_true rfl) dL_law_27 (by omega) (by omega) (fun p_1 hp_1 => ?_)
  refine n_add X (x := 20) (y := p_1) dL_law_30 ?_
  refine lv_iconst (v := 0) X.ex X.co dL_law_31 (by decide) ?_
  refine lv_iconst (v := 0) X.ex X.co dL_law_32 (by decide) ?_
  obtain ⟨hv, τ, hs9, hL9, g0_, g1, g2, g3, g4, g5, g6, g7⟩ := s_addCohort W0.1 (x := 0) (y := 20 + p_1) (by omega) (by omega) (by decide)
  refine k_call (n := 6) X mn_16 m_0 mn_15 ⟨by decide, by decide, by decide +kernel⟩ (by decide) mn_14 (c_L_deed_0 l hst G A hAg b sg0 W0.1.1.1.1 W0.1.1.1.2 W0.1.1.2 0 (nI (20 + p_1)) 0 0) (g0.step hS hA2) W0 hdis hs9 hL9 (hv.trans rfl) (by omega) rfl hl.1 rfl (Nat.le_of_ble_eq_true rfl) dL_law_33 (by omega) (by omega) hS (fun q h => Or.inl h) (fun H locs W0 hz hk9 hS => ?_)
  refine lv_if_ne (tgt := 64) X.ex X.co dL_law_36 (by decide) (fun c_2 => ?_) (fun c_2 => ?_)
  · exact absurd (by decide) c_2
  · refine lv_aload_n X.ex X.co dL_law_39 rfl (lv_at hl 1 rfl) ?_
    refine lv_iconst (v := 0) X.ex X.co dL_law_40 (by decide) ?_
    refine lv_aload_n X.ex X.co dL_law_41 rfl (lv_at hl 0 rfl) ?_
    refine lv_iconst (v := 1) X.ex X.co dL_law_42 (by decide) ?_
    refine lv_bipush (v := 10) X.ex X.co dL_law_43 (by decide) ?_
    refine k_pick X hX hxl hxA g0 hA2 hS hL (i := 1) (by omega) (k := 10) (by omega) (by omega) (by omega) hl.1 (Nat.le_of_ble_eq_true rfl) dL_law_45 (by omega) (by omega) (fun p_3 hp_3 => ?_)
    refine lv_sipush (v := 300) X.ex X.co dL_law_48 (by decide) ?_
    refine lv_iconst (v := 0) X.ex X.co dL_law_51 (by decide) ?_
    refine lv_iconst (v := 0) X.ex X.co dL_law_52 (by decide) ?_
    have e1 : nCo τ = 1 := g0_
    obtain ⟨hv, τ2, hs9, hL9, f0, f1, f2, f3, f4, f5, f6, f7⟩ := s_addCohort W0.1 (x := p_3) (y := 300) (by omega) (by omega) (by omega)
    refine k_call (n := 6) X mn_16 m_0 mn_15 ⟨by decide, by decide, by decide +kernel⟩ (by decide) mn_14 (c_L_deed_0 l hst G A hAg b τ W0.1.1.1.1 W0.1.1.1.2 W0.1.1.2 (nI p_3) 300 0 0) (g0.step hS hA2) W0 hdis hs9 hL9 (hv.trans (by rw [e1])) (by omega) rfl hl.1 rfl (Nat.le_of_ble_eq_true rfl) dL_law_53 (by omega) (by omega) hS (fun q h => Or.inl h) (fun H locs W0 hz hk9 hS => ?_)
    refine lv_iconst (v := 1) X.ex X.co dL_law_56 (by decide) ?_
    refine lv_icmp_ne (tgt := 64) X.ex X.co dL_law_57 (by decide) (fun c_4 => ?_) (fun c_4 => ?_)
    · exact absurd (by decide) c_4
    · refine lv_iconst (v := 1) X.ex X.co dL_law_60 (by decide) ?_
      refine lv_goto (tgt := 65) X.ex X.co dL_law_61 (by decide) ?_
      refine lv_istore (lv' := [(4, .int 1), (0, .ref sx), (1, .ref b), (2, .ref (oad (0, 0))), (3, .ref (oad (0, 1)))]) X.ex X.co dL_law_65 hl (by decide) rfl (fun ls hl => ?_)
      refine lv_aload_n X.ex X.co dL_law_67 rfl (lv_at hl 3 rfl) ?_
      refine lv_iconst (v := 0) X.ex X.co dL_law_68 (by decide) ?_
      refine lv_iconst (v := 2) X.ex X.co dL_law_69 (by decide) ?_
      refine k_ms X g0.1 W0 hdis hS (fun q h => Or.inr h) 0 (by omega) (v := 2) dL_law_70 (fun H locs W0 hS => ?_)
      rw [mR_0 (σ := τ2) (f1.trans g1) (f2.trans g2) (f3.trans g3) (f4.trans g4) (f5.trans g5)] at W0
      refine lv_iconst (v := 0) X.ex X.co dL_law_71 (by decide) ?_
      refine lv_istore (lv' := [(5, .int 0), (4, .int 1), (0, .ref sx), (1, .ref b), (2, .ref (oad (0, 0))), (3, .ref (oad (0, 1)))]) X.ex X.co dL_law_72 hl (by decide) rfl (fun ls hl => ?_)
      exact law_st hst hAg hA2 hdis X g0 hX hxl hxA hL hR9 (cells + 4) (slots + 620) (by omega) (by omega) (fun σ H locs ls cells1 slots1 W0 hst9 hS hl hc hs => kend σ H locs ls cells1 slots1 W0 hst9 hS hl (by omega) (by omega)) (1 + pkN xs L 2 4) 0 (by omega) τ2 H locs ls _ _ W0 (f1.trans g1) (by omega) hS (lv_sub hl [2, 3, 4, 5, 1, 0] rfl) (by omega) (by omega)
end BEGIN_
