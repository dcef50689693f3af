/-! ===== areMasteries ===== -/
theorem nI_ne5 {n : Nat} (h : n < 2 ^ 31) : ¬ nI n = -2005 := fun z => nI_pos h (by rw [z]; decide)
section MASTERIES
variable {p : Program} {l : Launch} {e : Env} {hR rc rs : Nat} {s : State} {m : MethodId} {args : Array Value} {below : List Frame} {meth : Method} {c : Code} {H : Heap} {locs : List Loc} {cells slots : Nat} {Q : State → Prop}
variable {G : GT} {A AO : Nat → Prop} {b d : Nat} {σ : Sg} {oad : I2 → Nat} {wf : Nat → Int32} {ls : Array Slot}
set_option maxHeartbeats 4000000 in
set_option maxRecDepth 100000 in
theorem am_in (hst : l.stackTraces = false) (hAg : ∀ q, A q → gA G q) (hdis : ∀ q, A q → ¬ AO q) (X : CF p s m args meth c cL_areMasteries 10 "CourseForgeLaw" (some .boolean)) (g0 : GG G s s.heap) (hR9 : 13 ≤ hR) (hd9 : d ≤ 1000) (u v M : Nat) (hu : u < nSt σ) (hv : v < nLe σ) (c0 s0 : Nat) (hrc : c0 + 24 ≤ rc) (hrs : s0 + 108 ≤ rs) (kend : ∀ (H : Heap) (locs : List Loc) (ls : Array Slot) (cells slots : Nat), LW G A AO b d σ oad (mR σ) wf H → va_S A s.heap H locs → lv_has ls 10 [(0, .ref b), (1, .ref (oad (0, 0))), (2, .int 1), (3, .int (nI u)), (5, .int (nI v)), (6, .int (nI M)), (7, .int (nI (masN σ v (nEx σ)))), (8, .int (nI (ansN σ u v (dayV σ) (nAn σ) (nEx σ)))), (9, .int (nI (nEx σ)))] → cells ≤ c0 + 24 → slots ≤ s0 + 108 → W p l e (RM hR rc rs) s m args below meth c H locs cells slots Q (F0 m 199 ls [])) :
    ∀ (n x : Nat), x + n = nEx σ → ∀ (H : Heap) (locs : List Loc) (ls : Array Slot) (cells slots : Nat), LW G A AO b d σ oad (mR σ) wf H → va_S A s.heap H locs → lv_has ls 10 [(0, .ref b), (1, .ref (oad (0, 0))), (2, .int 1), (3, .int (nI u)), (5, .int (nI v)), (6, .int (nI M)), (7, .int (nI (masN σ v x))), (8, .int (nI (ansN σ u v (dayV σ) (nAn σ) x))), (9, .int (nI x))] → cells ≤ c0 + 2 * x → slots ≤ s0 + 9 * x → W p l e (RM hR rc rs) s m args below meth c H locs cells slots Q (F0 m 129 ls []) := by
  intro n
  induction n with
  | zero =>
    intro x ha H locs ls cells slots W0 hS hl hc hs
    have hb := W0.1.1.1.1.1.1
    refine lv_iload X.ex X.co dL_areMasteries_129 (lv_at hl 8 rfl) ?_
    refine lv_aload_n X.ex X.co dL_areMasteries_131 rfl (lv_at hl 1 rfl) ?_
    refine lv_iconst (v := 3) X.ex X.co dL_areMasteries_132 (by decide) ?_
    refine k_ml X g0.1 W0.2.2.2 3 (by omega) (mR_3 σ) dL_areMasteries_133 ?_
    refine n_cmp_ge X (x := x) (y := nEx σ) (tgt := 199) (by omega) (by omega) dL_areMasteries_134 (by decide) (fun c_1 => ?_) (fun c_1 => ?_)
    · rw [show x = nEx σ by omega] at hl
      exact kend H locs ls _ _ W0 hS (lv_sub hl [0, 1, 2, 3, 4, 5, 6, 7, 8] rfl) (by omega) (by omega)
    · exact absurd c_1 (by omega)
  | succ n ih =>
    intro x ha H locs ls cells slots W0 hS hl hc hs
    have hb := W0.1.1.1.1.1.1
    have hmb := masN_b σ v x
    have hmA := ansN_le σ u v (dayV σ) (nAn σ) x
    have hle9 := W0.1.1.1.1.1.ex (show x < nEx σ by omega)
    by_cases hcx : les σ x = v
    · rcases hbx : bestS σ u x (dayV σ) (nAn σ) with _ | z
      · refine lv_iload X.ex X.co dL_areMasteries_129 (lv_at hl 8 rfl) ?_
        refine lv_aload_n X.ex X.co dL_areMasteries_131 rfl (lv_at hl 1 rfl) ?_
        refine lv_iconst (v := 3) X.ex X.co dL_areMasteries_132 (by decide) ?_
        refine k_ml X g0.1 W0.2.2.2 3 (by omega) (mR_3 σ) dL_areMasteries_133 ?_
        refine n_cmp_ge X (x := x) (y := nEx σ) (tgt := 199) (by omega) (by omega) dL_areMasteries_134 (by decide) (fun c_1 => ?_) (fun c_1 => ?_)
        · exact absurd c_1 (by omega)
        · refine lv_iload X.ex X.co dL_areMasteries_137 (lv_at hl 6 rfl) ?_
          refine lv_aload_n X.ex X.co dL_areMasteries_139 rfl (lv_at hl 1 rfl) ?_
          refine lv_bipush (v := 10) X.ex X.co dL_areMasteries_140 (by decide) ?_
          refine lv_iload X.ex X.co dL_areMasteries_142 (lv_at hl 8 rfl) ?_
          refine n_add X (x := 10) (y := x) dL_areMasteries_144 ?_
          refine k_ml X g0.1 W0.2.2.2 (10 + x) (by omega) (mR_e (σ := σ) (show x < nEx σ by omega)) dL_areMasteries_145 ?_
          refine lv_iload X.ex X.co dL_areMasteries_146 (lv_at hl 4 rfl) ?_
          refine n_cmp_ne X (x := les σ x) (y := v) (tgt := 155) (by omega) (by omega) dL_areMasteries_148 (by decide) (fun c_2 => ?_) (fun c_2 => ?_)
          · exact absurd hcx c_2
          · refine lv_iconst (v := 1) X.ex X.co dL_areMasteries_151 (by decide) ?_
            refine lv_goto (tgt := 156) X.ex X.co dL_areMasteries_152 (by decide) ?_
            refine n_add X (x := masN σ v x) (y := 1) dL_areMasteries_156 ?_
            refine lv_istore (lv' := [(7, .int (nI ((masN σ v x) + 1))), (0, .ref b), (1, .ref (oad (0, 0))), (2, .int 1), (3, .int (nI u)), (5, .int (nI v)), (6, .int (nI M)), (8, .int (nI (ansN σ u v (dayV σ) (nAn σ) x))), (9, .int (nI x))]) X.ex X.co dL_areMasteries_157 hl (by decide) rfl (fun ls hl => ?_)
            refine lv_iload X.ex X.co dL_areMasteries_159 (lv_at hl 7 rfl) ?_
            refine lv_aload_n X.ex X.co dL_areMasteries_161 rfl (lv_at hl 2 rfl) ?_
            refine lv_bipush (v := 10) X.ex X.co dL_areMasteries_162 (by decide) ?_
            refine lv_iload X.ex X.co dL_areMasteries_164 (lv_at hl 8 rfl) ?_
            refine n_add X (x := 10) (y := x) dL_areMasteries_166 ?_
            refine k_ml X g0.1 W0.2.2.2 (10 + x) (by omega) (mR_e (σ := σ) (show x < nEx σ by omega)) dL_areMasteries_167 ?_
            refine lv_iload X.ex X.co dL_areMasteries_168 (lv_at hl 5 rfl) ?_
            refine n_cmp_ne X (x := les σ x) (y := v) (tgt := 189) (by omega) (by omega) dL_areMasteries_170 (by decide) (fun c_3 => ?_) (fun c_3 => ?_)
            · exact absurd hcx c_3
            · refine lv_aload_n X.ex X.co dL_areMasteries_173 rfl (lv_at hl 1 rfl) ?_
              refine lv_bipush (v := 8) X.ex X.co dL_areMasteries_174 (by decide) ?_
              refine lv_iload_n X.ex X.co dL_areMasteries_176 rfl (lv_at hl 4 rfl) ?_
              refine lv_iload X.ex X.co dL_areMasteries_177 (lv_at hl 8 rfl) ?_
              refine k_call (n := 4) X mn_40 m_0 mn_39 ⟨by decide, by decide, by decide +kernel⟩ (by decide) mn_38 (c_L_ask_8 l hst G A hAg b σ W0.1.1.1.1 W0.1.1.1.2 W0.1.1.2 (nI u) (nI x)) (g0.step hS hAg) W0 hdis (lsq_be W0.1.1.2 _ _) W0.1 (q_be0 W0.1 (show u < nSt σ by omega) (show x < nEx σ by omega) hbx) (by omega) rfl hl.1 rfl (Nat.le_of_ble_eq_true rfl) dL_areMasteries_179 (by omega) (by omega) hS (fun q h => h) (fun H locs W0 hz hk9 hS => ?_)
              refine lv_if_lt (tgt := 189) X.ex X.co dL_areMasteries_182 (by decide) (fun c_4 => ?_) (fun c_4 => ?_)
              · refine lv_iconst (v := 0) X.ex X.co dL_areMasteries_189 (by decide) ?_
                refine n_add X (x := ansN σ u v (dayV σ) (nAn σ) x) (y := 0) dL_areMasteries_190 ?_
                refine lv_istore (lv' := [(8, .int (nI ((ansN σ u v (dayV σ) (nAn σ) x) + 0))), (7, .int (nI ((masN σ v x) + 1))), (0, .ref b), (1, .ref (oad (0, 0))), (2, .int 1), (3, .int (nI u)), (5, .int (nI v)), (6, .int (nI M)), (9, .int (nI x))]) X.ex X.co dL_areMasteries_191 hl (by decide) rfl (fun ls hl => ?_)
                refine lv_iinc (v := nI (x + 1)) (lv' := [(9, .int (nI (x + 1))), (8, .int (nI ((ansN σ u v (dayV σ) (nAn σ) x) + 0))), (7, .int (nI ((masN σ v x) + 1))), (0, .ref b), (1, .ref (oad (0, 0))), (2, .int 1), (3, .int (nI u)), (5, .int (nI v)), (6, .int (nI M))]) X.ex X.co dL_areMasteries_193 hl (k := 8) rfl (n_inc _) (by decide) rfl (fun ls hl => ?_)
                refine lv_goto (tgt := 129) X.ex X.co dL_areMasteries_196 (by decide) ?_
                have hm : masN σ v (x + 1) = (masN σ v x) + 1 := by simp only [masN]; exact if_pos hcx
                have hA9 : ansN σ u v (dayV σ) (nAn σ) (x + 1) = (ansN σ u v (dayV σ) (nAn σ) x) + 0 := by simp only [ansN]; exact if_neg (fun z => z.2 hbx)
                exact ih (x + 1) (by omega) H locs ls _ _ W0 hS (by rw [hm, hA9]; exact lv_sub hl [3, 4, 5, 6, 7, 8, 2, 1, 0] rfl) (by omega) (by omega)
              · exact absurd (by decide) c_4
      · have hz9 := bestS_b hbx
        refine lv_iload X.ex X.co dL_areMasteries_129 (lv_at hl 8 rfl) ?_
        refine lv_aload_n X.ex X.co dL_areMasteries_131 rfl (lv_at hl 1 rfl) ?_
        refine lv_iconst (v := 3) X.ex X.co dL_areMasteries_132 (by decide) ?_
        refine k_ml X g0.1 W0.2.2.2 3 (by omega) (mR_3 σ) dL_areMasteries_133 ?_
        refine n_cmp_ge X (x := x) (y := nEx σ) (tgt := 199) (by omega) (by omega) dL_areMasteries_134 (by decide) (fun c_5 => ?_) (fun c_5 => ?_)
        · exact absurd c_5 (by omega)
        · refine lv_iload X.ex X.co dL_areMasteries_137 (lv_at hl 6 rfl) ?_
          refine lv_aload_n X.ex X.co dL_areMasteries_139 rfl (lv_at hl 1 rfl) ?_
          refine lv_bipush (v := 10) X.ex X.co dL_areMasteries_140 (by decide) ?_
          refine lv_iload X.ex X.co dL_areMasteries_142 (lv_at hl 8 rfl) ?_
          refine n_add X (x := 10) (y := x) dL_areMasteries_144 ?_
          refine k_ml X g0.1 W0.2.2.2 (10 + x) (by omega) (mR_e (σ := σ) (show x < nEx σ by omega)) dL_areMasteries_145 ?_
          refine lv_iload X.ex X.co dL_areMasteries_146 (lv_at hl 4 rfl) ?_
          refine n_cmp_ne X (x := les σ x) (y := v) (tgt := 155) (by omega) (by omega) dL_areMasteries_148 (by decide) (fun c_6 => ?_) (fun c_6 => ?_)
          · exact absurd hcx c_6
          · refine lv_iconst (v := 1) X.ex X.co dL_areMasteries_151 (by decide) ?_
            refine lv_goto (tgt := 156) X.ex X.co dL_areMasteries_152 (by decide) ?_
            refine n_add X (x := masN σ v x) (y := 1) dL_areMasteries_156 ?_
            refine lv_istore (lv' := [(7, .int (nI ((masN σ v x) + 1))), (0, .ref b), (1, .ref (oad (0, 0))), (2, .int 1), (3, .int (nI u)), (5, .int (nI v)), (6, .int (nI M)), (8, .int (nI (ansN σ u v (dayV σ) (nAn σ) x))), (9, .int (nI x))]) X.ex X.co dL_areMasteries_157 hl (by decide) rfl (fun ls hl => ?_)
            refine lv_iload X.ex X.co dL_areMasteries_159 (lv_at hl 7 rfl) ?_
            refine lv_aload_n X.ex X.co dL_areMasteries_161 rfl (lv_at hl 2 rfl) ?_
            refine lv_bipush (v := 10) X.ex X.co dL_areMasteries_162 (by decide) ?_
            refine lv_iload X.ex X.co dL_areMasteries_164 (lv_at hl 8 rfl) ?_
            refine n_add X (x := 10) (y := x) dL_areMasteries_166 ?_
            refine k_ml X g0.1 W0.2.2.2 (10 + x) (by omega) (mR_e (σ := σ) (show x < nEx σ by omega)) dL_areMasteries_167 ?_
            refine lv_iload X.ex X.co dL_areMasteries_168 (lv_at hl 5 rfl) ?_
            refine n_cmp_ne X (x := les σ x) (y := v) (tgt := 189) (by omega) (by omega) dL_areMasteries_170 (by decide) (fun c_7 => ?_) (fun c_7 => ?_)
            · exact absurd hcx c_7
            · refine lv_aload_n X.ex X.co dL_areMasteries_173 rfl (lv_at hl 1 rfl) ?_
              refine lv_bipush (v := 8) X.ex X.co dL_areMasteries_174 (by decide) ?_
              refine lv_iload_n X.ex X.co dL_areMasteries_176 rfl (lv_at hl 4 rfl) ?_
              refine lv_iload X.ex X.co dL_areMasteries_177 (lv_at hl 8 rfl) ?_
              refine k_call (n := 4) X mn_40 m_0 mn_39 ⟨by decide, by decide, by decide +kernel⟩ (by decide) mn_38 (c_L_ask_8 l hst G A hAg b σ W0.1.1.1.1 W0.1.1.1.2 W0.1.1.2 (nI u) (nI x)) (g0.step hS hAg) W0 hdis (lsq_be W0.1.1.2 _ _) W0.1 (q_be1 W0.1 (show u < nSt σ by omega) (show x < nEx σ by omega) hbx) (by omega) rfl hl.1 rfl (Nat.le_of_ble_eq_true rfl) dL_areMasteries_179 (by omega) (by omega) hS (fun q h => h) (fun H locs W0 hz hk9 hS => ?_)
              refine n_if_lt X (x := z) (tgt := 189) (by omega) dL_areMasteries_182 (by decide) (fun c_8 => ?_) (fun c_8 => ?_)
              · exact c_8.elim
              · refine lv_iconst (v := 1) X.ex X.co dL_areMasteries_185 (by decide) ?_
                refine lv_goto (tgt := 190) X.ex X.co dL_areMasteries_186 (by decide) ?_
                refine n_add X (x := ansN σ u v (dayV σ) (nAn σ) x) (y := 1) dL_areMasteries_190 ?_
                refine lv_istore (lv' := [(8, .int (nI ((ansN σ u v (dayV σ) (nAn σ) x) + 1))), (7, .int (nI ((masN σ v x) + 1))), (0, .ref b), (1, .ref (oad (0, 0))), (2, .int 1), (3, .int (nI u)), (5, .int (nI v)), (6, .int (nI M)), (9, .int (nI x))]) X.ex X.co dL_areMasteries_191 hl (by decide) rfl (fun ls hl => ?_)
                refine lv_iinc (v := nI (x + 1)) (lv' := [(9, .int (nI (x + 1))), (8, .int (nI ((ansN σ u v (dayV σ) (nAn σ) x) + 1))), (7, .int (nI ((masN σ v x) + 1))), (0, .ref b), (1, .ref (oad (0, 0))), (2, .int 1), (3, .int (nI u)), (5, .int (nI v)), (6, .int (nI M))]) X.ex X.co dL_areMasteries_193 hl (k := 8) rfl (n_inc _) (by decide) rfl (fun ls hl => ?_)
                refine lv_goto (tgt := 129) X.ex X.co dL_areMasteries_196 (by decide) ?_
                have hm : masN σ v (x + 1) = (masN σ v x) + 1 := by simp only [masN]; exact if_pos hcx
                have hA9 : ansN σ u v (dayV σ) (nAn σ) (x + 1) = (ansN σ u v (dayV σ) (nAn σ) x) + 1 := by simp only [ansN]; exact if_pos ⟨hcx, fun z9 => by rw [hbx] at z9; cases z9⟩
                exact ih (x + 1) (by omega) H locs ls _ _ W0 hS (by rw [hm, hA9]; exact lv_sub hl [3, 4, 5, 6, 7, 8, 2, 1, 0] rfl) (by omega) (by omega)
    · refine lv_iload X.ex X.co dL_areMasteries_129 (lv_at hl 8 rfl) ?_
      refine lv_aload_n X.ex X.co dL_areMasteries_131 rfl (lv_at hl 1 rfl) ?_
      refine lv_iconst (v := 3) X.ex X.co dL_areMasteries_132 (by decide) ?_
      refine k_ml X g0.1 W0.2.2.2 3 (by omega) (mR_3 σ) dL_areMasteries_133 ?_
      refine n_cmp_ge X (x := x) (y := nEx σ) (tgt := 199) (by omega) (by omega) dL_areMasteries_134 (by decide) (fun c_9 => ?_) (fun c_9 => ?_)
      · exact absurd c_9 (by omega)
      · refine lv_iload X.ex X.co dL_areMasteries_137 (lv_at hl 6 rfl) ?_
        refine lv_aload_n X.ex X.co dL_areMasteries_139 rfl (lv_at hl 1 rfl) ?_
        refine lv_bipush (v := 10) X.ex X.co dL_areMasteries_140 (by decide) ?_
        refine lv_iload X.ex X.co dL_areMasteries_142 (lv_at hl 8 rfl) ?_
        refine n_add X (x := 10) (y := x) dL_areMasteries_144 ?_
        refine k_ml X g0.1 W0.2.2.2 (10 + x) (by omega) (mR_e (σ := σ) (show x < nEx σ by omega)) dL_areMasteries_145 ?_
        refine lv_iload X.ex X.co dL_areMasteries_146 (lv_at hl 4 rfl) ?_
        refine n_cmp_ne X (x := les σ x) (y := v) (tgt := 155) (by omega) (by omega) dL_areMasteries_148 (by decide) (fun c_10 => ?_) (fun c_10 => ?_)
        · refine lv_iconst (v := 0) X.ex X.co dL_areMasteries_155 (by decide) ?_
          refine n_add X (x := masN σ v x) (y := 0) dL_areMasteries_156 ?_
          refine lv_istore (lv' := [(7, .int (nI ((masN σ v x) + 0))), (0, .ref b), (1, .ref (oad (0, 0))), (2, .int 1), (3, .int (nI u)), (5, .int (nI v)), (6, .int (nI M)), (8, .int (nI (ansN σ u v (dayV σ) (nAn σ) x))), (9, .int (nI x))]) X.ex X.co dL_areMasteries_157 hl (by decide) rfl (fun ls hl => ?_)
          refine lv_iload X.ex X.co dL_areMasteries_159 (lv_at hl 7 rfl) ?_
          refine lv_aload_n X.ex X.co dL_areMasteries_161 rfl (lv_at hl 2 rfl) ?_
          refine lv_bipush (v := 10) X.ex X.co dL_areMasteries_162 (by decide) ?_
          refine lv_iload X.ex X.co dL_areMasteries_164 (lv_at hl 8 rfl) ?_
          refine n_add X (x := 10) (y := x) dL_areMasteries_166 ?_
          refine k_ml X g0.1 W0.2.2.2 (10 + x) (by omega) (mR_e (σ := σ) (show x < nEx σ by omega)) dL_areMasteries_167 ?_
          refine lv_iload X.ex X.co dL_areMasteries_168 (lv_at hl 5 rfl) ?_
          refine n_cmp_ne X (x := les σ x) (y := v) (tgt := 189) (by omega) (by omega) dL_areMasteries_170 (by decide) (fun c_11 => ?_) (fun c_11 => ?_)
          · refine lv_iconst (v := 0) X.ex X.co dL_areMasteries_189 (by decide) ?_
            refine n_add X (x := ansN σ u v (dayV σ) (nAn σ) x) (y := 0) dL_areMasteries_190 ?_
            refine lv_istore (lv' := [(8, .int (nI ((ansN σ u v (dayV σ) (nAn σ) x) + 0))), (7, .int (nI ((masN σ v x) + 0))), (0, .ref b), (1, .ref (oad (0, 0))), (2, .int 1), (3, .int (nI u)), (5, .int (nI v)), (6, .int (nI M)), (9, .int (nI x))]) X.ex X.co dL_areMasteries_191 hl (by decide) rfl (fun ls hl => ?_)
            refine lv_iinc (v := nI (x + 1)) (lv' := [(9, .int (nI (x + 1))), (8, .int (nI ((ansN σ u v (dayV σ) (nAn σ) x) + 0))), (7, .int (nI ((masN σ v x) + 0))), (0, .ref b), (1, .ref (oad (0, 0))), (2, .int 1), (3, .int (nI u)), (5, .int (nI v)), (6, .int (nI M))]) X.ex X.co dL_areMasteries_193 hl (k := 8) rfl (n_inc _) (by decide) rfl (fun ls hl => ?_)
            refine lv_goto (tgt := 129) X.ex X.co dL_areMasteries_196 (by decide) ?_
            have hm : masN σ v (x + 1) = (masN σ v x) + 0 := by simp only [masN]; exact if_neg hcx
            have hA9 : ansN σ u v (dayV σ) (nAn σ) (x + 1) = (ansN σ u v (dayV σ) (nAn σ) x) + 0 := by simp only [ansN]; exact if_neg (fun z => hcx z.1)
            exact ih (x + 1) (by omega) H locs ls _ _ W0 hS (by rw [hm, hA9]; exact lv_sub hl [3, 4, 5, 6, 7, 8, 2, 1, 0] rfl) (by omega) (by omega)
          · exact absurd c_11 hcx
        · exact absurd c_10 hcx
set_option maxHeartbeats 4000000 in
set_option maxRecDepth 100000 in
theorem am_l (hst : l.stackTraces = false) (hAg : ∀ q, A q → gA G q) (hdis : ∀ q, A q → ¬ AO q) (X : CF p s m args meth c cL_areMasteries 10 "CourseForgeLaw" (some .boolean)) (g0 : GG G s s.heap) (hR9 : 13 ≤ hR) (hd9 : d ≤ 1000) (u : Nat) (hu : u < nSt σ) (c0 s0 : Nat) (hrc : c0 + 216 ≤ rc) (hrs : s0 + 984 ≤ rs) (kend : ∀ (H : Heap) (locs : List Loc) (ls : Array Slot) (cells slots : Nat), LW G A AO b d σ oad (mR σ) wf H → va_S A s.heap H locs → lv_has ls 10 [(0, .ref b), (1, .ref (oad (0, 0))), (2, .int 1), (3, .int (nI u)), (5, .int (nI (nLe σ)))] → cells ≤ c0 + 216 → slots ≤ s0 + 984 → W p l e (RM hR rc rs) s m args below meth c H locs cells slots Q (F0 m 282 ls [])) :
    ∀ (n v : Nat), v + n = nLe σ → ∀ (H : Heap) (locs : List Loc) (ls : Array Slot) (cells slots : Nat), LW G A AO b d σ oad (mR σ) wf H → va_S A s.heap H locs → lv_has ls 10 [(0, .ref b), (1, .ref (oad (0, 0))), (2, .int 1), (3, .int (nI u)), (5, .int (nI v))] → cells ≤ c0 + 27 * v → slots ≤ s0 + 123 * v → W p l e (RM hR rc rs) s m args below meth c H locs cells slots Q (F0 m 97 ls []) := by
  intro n
  induction n with
  | zero =>
    intro v ha H locs ls cells slots W0 hS hl hc hs
    have hb := W0.1.1.1.1.1.1
    refine lv_iload X.ex X.co dL_areMasteries_97 (lv_at hl 4 rfl) ?_
    refine lv_aload_n X.ex X.co dL_areMasteries_99 rfl (lv_at hl 1 rfl) ?_
    refine lv_iconst (v := 2) X.ex X.co dL_areMasteries_100 (by decide) ?_
    refine k_ml X g0.1 W0.2.2.2 2 (by omega) (mR_2 σ) dL_areMasteries_101 ?_
    refine n_cmp_ge X (x := v) (y := nLe σ) (tgt := 282) (by omega) (by omega) dL_areMasteries_102 (by decide) (fun c_1 => ?_) (fun c_1 => ?_)
    · rw [show v = nLe σ by omega] at hl
      exact kend H locs ls _ _ W0 hS (lv_sub hl [0, 1, 2, 3, 4] rfl) (by omega) (by omega)
    · exact absurd c_1 (by omega)
  | succ n ih =>
    intro v ha H locs ls cells slots W0 hS hl hc hs
    have hb := W0.1.1.1.1.1.1
    refine lv_iload X.ex X.co dL_areMasteries_97 (lv_at hl 4 rfl) ?_
    refine lv_aload_n X.ex X.co dL_areMasteries_99 rfl (lv_at hl 1 rfl) ?_
    refine lv_iconst (v := 2) X.ex X.co dL_areMasteries_100 (by decide) ?_
    refine k_ml X g0.1 W0.2.2.2 2 (by omega) (mR_2 σ) dL_areMasteries_101 ?_
    refine n_cmp_ge X (x := v) (y := nLe σ) (tgt := 282) (by omega) (by omega) dL_areMasteries_102 (by decide) (fun c_1 => ?_) (fun c_1 => ?_)
    · exact absurd c_1 (by omega)
    · refine lv_iload_n X.ex X.co dL_areMasteries_105 rfl (lv_at hl 2 rfl) ?_
      refine lv_if_eq (tgt := 282) X.ex X.co dL_areMasteries_106 (by decide) (fun c_2 => ?_) (fun c_2 => ?_)
      · exact absurd c_2 (by decide)
      · refine lv_aload_n X.ex X.co dL_areMasteries_109 rfl (lv_at hl 0 rfl) ?_
        refine lv_bipush (v := 9) X.ex X.co dL_areMasteries_110 (by decide) ?_
        refine lv_iload_n X.ex X.co dL_areMasteries_112 rfl (lv_at hl 3 rfl) ?_
        refine lv_iload X.ex X.co dL_areMasteries_113 (lv_at hl 4 rfl) ?_
        obtain ⟨M, eM, hM1, hM2, hM3⟩ := mas_now W0.1 (by omega) u v
        refine k_call (n := 4) X mn_40 m_0 mn_39 ⟨by decide, by decide, by decide +kernel⟩ (by decide) mn_38 (c_L_ask_9 l hst G A hAg b σ W0.1.1.1.1 W0.1.1.1.2 W0.1.1.2 (nI u) (nI v)) (g0.step hS hAg) W0 hdis (lsq_ma W0.1.1.2 _ _) W0.1 ((q_ma W0.1 (show u < nSt σ by omega) (show v < nLe σ by omega)).trans eM) (by omega) rfl hl.1 rfl (Nat.le_of_ble_eq_true rfl) dL_areMasteries_115 (by omega) (by omega) hS (fun q h => h) (fun H locs W0 hz hk9 hS => ?_)
        refine lv_istore (lv' := [(6, .int (nI M)), (0, .ref b), (1, .ref (oad (0, 0))), (2, .int 1), (3, .int (nI u)), (5, .int (nI v))]) X.ex X.co dL_areMasteries_118 hl (by decide) rfl (fun ls hl => ?_)
        refine lv_iconst (v := 0) X.ex X.co dL_areMasteries_120 (by decide) ?_
        refine lv_istore (lv' := [(7, .int 0), (6, .int (nI M)), (0, .ref b), (1, .ref (oad (0, 0))), (2, .int 1), (3, .int (nI u)), (5, .int (nI v))]) X.ex X.co dL_areMasteries_121 hl (by decide) rfl (fun ls hl => ?_)
        refine lv_iconst (v := 0) X.ex X.co dL_areMasteries_123 (by decide) ?_
        refine lv_istore (lv' := [(8, .int 0), (7, .int 0), (6, .int (nI M)), (0, .ref b), (1, .ref (oad (0, 0))), (2, .int 1), (3, .int (nI u)), (5, .int (nI v))]) X.ex X.co dL_areMasteries_124 hl (by decide) rfl (fun ls hl => ?_)
        refine lv_iconst (v := 0) X.ex X.co dL_areMasteries_126 (by decide) ?_
        refine lv_istore (lv' := [(9, .int 0), (8, .int 0), (7, .int 0), (6, .int (nI M)), (0, .ref b), (1, .ref (oad (0, 0))), (2, .int 1), (3, .int (nI u)), (5, .int (nI v))]) X.ex X.co dL_areMasteries_127 hl (by decide) rfl (fun ls hl => ?_)
        refine am_in hst hAg hdis X g0 hR9 hd9 u v M hu (by omega) (cells + 2) (slots + 9) (by omega) (by omega) (fun H locs ls cells1 slots1 W0 hS hl hc1 hs1 => ?_) (nEx σ) 0 (by omega) H locs ls _ _ W0 hS (lv_sub hl [4, 5, 6, 7, 8, 3, 2, 1, 0] rfl) (by omega) (by omega)
        have hmb := masN_b σ v (nEx σ)
        have hmA := ansN_le σ u v (dayV σ) (nAn σ) (nEx σ)
        have hdv := Nat.div_le_self (100 * ansN σ u v (dayV σ) (nAn σ) (nEx σ)) (masN σ v (nEx σ))
        rcases Nat.eq_zero_or_pos (masN σ v (nEx σ)) with h0 | h0
        · have hM4 := hM2 h0
          refine lv_iload X.ex X.co dL_areMasteries_199 (lv_at hl 5 rfl) ?_
          refine lv_aload_n X.ex X.co dL_areMasteries_201 rfl (lv_at hl 0 rfl) ?_
          refine lv_bipush (v := 10) X.ex X.co dL_areMasteries_202 (by decide) ?_
          refine lv_iload_n X.ex X.co dL_areMasteries_204 rfl (lv_at hl 3 rfl) ?_
          refine lv_iload X.ex X.co dL_areMasteries_205 (lv_at hl 4 rfl) ?_
          refine k_call (n := 4) X mn_40 m_0 mn_39 ⟨by decide, by decide, by decide +kernel⟩ (by decide) mn_38 (c_L_ask_10 l hst G A hAg b σ W0.1.1.1.1 W0.1.1.1.2 W0.1.1.2 (nI u) (nI v)) (g0.step hS hAg) W0 hdis (lsq_ma W0.1.1.2 _ _) W0.1 ((q_ma W0.1 (show u < nSt σ by omega) (show v < nLe σ by omega)).trans eM) (by omega) rfl hl.1 rfl (Nat.le_of_ble_eq_true rfl) dL_areMasteries_207 (by omega) (by omega) hS (fun q h => h) (fun H locs W0 hz hk9 hS => ?_)
          refine n_cmp_ne X (x := M) (y := M) (tgt := 274) (by omega) (by omega) dL_areMasteries_210 (by decide) (fun c_3 => ?_) (fun c_3 => ?_)
          · exact absurd rfl c_3
          · refine lv_iload X.ex X.co dL_areMasteries_213 (lv_at hl 5 rfl) ?_
            refine n_if_lt X (x := M) (tgt := 274) (by omega) dL_areMasteries_215 (by decide) (fun c_4 => ?_) (fun c_4 => ?_)
            · exact c_4.elim
            · refine lv_iload X.ex X.co dL_areMasteries_218 (lv_at hl 5 rfl) ?_
              refine lv_bipush (v := 100) X.ex X.co dL_areMasteries_220 (by decide) ?_
              refine n_cmp_gt X (x := M) (y := 100) (tgt := 274) (by omega) (by omega) dL_areMasteries_222 (by decide) (fun c_5 => ?_) (fun c_5 => ?_)
              · exact absurd c_5 (by omega)
              · refine lv_iload X.ex X.co dL_areMasteries_225 (lv_at hl 6 rfl) ?_
                refine n_if_gt X (x := masN σ v (nEx σ)) (tgt := 237) (by omega) dL_areMasteries_227 (by decide) (fun c_6 => ?_) (fun c_6 => ?_)
                · exact absurd c_6 (by omega)
                · refine lv_iload X.ex X.co dL_areMasteries_230 (lv_at hl 5 rfl) ?_
                  refine lv_bipush (v := 100) X.ex X.co dL_areMasteries_232 (by decide) ?_
                  refine n_cmp_ne X (x := M) (y := 100) (tgt := 274) (by omega) (by omega) dL_areMasteries_234 (by decide) (fun c_7 => ?_) (fun c_7 => ?_)
                  · exact absurd c_7 (by omega)
                  · refine lv_iload X.ex X.co dL_areMasteries_237 (lv_at hl 6 rfl) ?_
                    refine n_if_eq X (x := masN σ v (nEx σ)) (tgt := 252) (by omega) dL_areMasteries_239 (by decide) (fun c_8 => ?_) (fun c_8 => ?_)
                    · refine lv_iload X.ex X.co dL_areMasteries_252 (lv_at hl 6 rfl) ?_
                      refine n_if_eq X (x := masN σ v (nEx σ)) (tgt := 270) (by omega) dL_areMasteries_254 (by decide) (fun c_9 => ?_) (fun c_9 => ?_)
                      · refine lv_iconst (v := 1) X.ex X.co dL_areMasteries_270 (by decide) ?_
                        refine lv_goto (tgt := 275) X.ex X.co dL_areMasteries_271 (by decide) ?_
                        refine lv_istore_n (lv' := [(2, .int 1), (0, .ref b), (1, .ref (oad (0, 0))), (3, .int (nI u)), (5, .int (nI v)), (6, .int (nI M)), (7, .int (nI (masN σ v (nEx σ)))), (8, .int (nI (ansN σ u v (dayV σ) (nAn σ) (nEx σ)))), (9, .int (nI (nEx σ)))]) X.ex X.co dL_areMasteries_275 rfl hl (by decide) rfl (fun ls hl => ?_)
                        refine lv_iinc (v := nI (v + 1)) (lv' := [(5, .int (nI (v + 1))), (2, .int 1), (0, .ref b), (1, .ref (oad (0, 0))), (3, .int (nI u)), (6, .int (nI M)), (7, .int (nI (masN σ v (nEx σ)))), (8, .int (nI (ansN σ u v (dayV σ) (nAn σ) (nEx σ)))), (9, .int (nI (nEx σ)))]) X.ex X.co dL_areMasteries_276 hl (k := 4) rfl (n_inc _) (by decide) rfl (fun ls hl => ?_)
                        refine lv_goto (tgt := 97) X.ex X.co dL_areMasteries_279 (by decide) ?_
                        exact ih (v + 1) (by omega) H locs ls _ _ W0 hS (lv_sub hl [2, 3, 1, 4, 0] rfl) (by omega) (by omega)
                      · exact absurd c_9 (by omega)
                    · exact absurd c_8 (by omega)
        · have hM4 := hM3 h0
          refine lv_iload X.ex X.co dL_areMasteries_199 (lv_at hl 5 rfl) ?_
          refine lv_aload_n X.ex X.co dL_areMasteries_201 rfl (lv_at hl 0 rfl) ?_
          refine lv_bipush (v := 10) X.ex X.co dL_areMasteries_202 (by decide) ?_
          refine lv_iload_n X.ex X.co dL_areMasteries_204 rfl (lv_at hl 3 rfl) ?_
          refine lv_iload X.ex X.co dL_areMasteries_205 (lv_at hl 4 rfl) ?_
          refine k_call (n := 4) X mn_40 m_0 mn_39 ⟨by decide, by decide, by decide +kernel⟩ (by decide) mn_38 (c_L_ask_10 l hst G A hAg b σ W0.1.1.1.1 W0.1.1.1.2 W0.1.1.2 (nI u) (nI v)) (g0.step hS hAg) W0 hdis (lsq_ma W0.1.1.2 _ _) W0.1 ((q_ma W0.1 (show u < nSt σ by omega) (show v < nLe σ by omega)).trans eM) (by omega) rfl hl.1 rfl (Nat.le_of_ble_eq_true rfl) dL_areMasteries_207 (by omega) (by omega) hS (fun q h => h) (fun H locs W0 hz hk9 hS => ?_)
          refine n_cmp_ne X (x := M) (y := M) (tgt := 274) (by omega) (by omega) dL_areMasteries_210 (by decide) (fun c_10 => ?_) (fun c_10 => ?_)
          · exact absurd rfl c_10
          · refine lv_iload X.ex X.co dL_areMasteries_213 (lv_at hl 5 rfl) ?_
            refine n_if_lt X (x := M) (tgt := 274) (by omega) dL_areMasteries_215 (by decide) (fun c_11 => ?_) (fun c_11 => ?_)
            · exact c_11.elim
            · refine lv_iload X.ex X.co dL_areMasteries_218 (lv_at hl 5 rfl) ?_
              refine lv_bipush (v := 100) X.ex X.co dL_areMasteries_220 (by decide) ?_
              refine n_cmp_gt X (x := M) (y := 100) (tgt := 274) (by omega) (by omega) dL_areMasteries_222 (by decide) (fun c_12 => ?_) (fun c_12 => ?_)
              · exact absurd c_12 (by omega)
              · refine lv_iload X.ex X.co dL_areMasteries_225 (lv_at hl 6 rfl) ?_
                refine n_if_gt X (x := masN σ v (nEx σ)) (tgt := 237) (by omega) dL_areMasteries_227 (by decide) (fun c_13 => ?_) (fun c_13 => ?_)
                · refine lv_iload X.ex X.co dL_areMasteries_237 (lv_at hl 6 rfl) ?_
                  refine n_if_eq X (x := masN σ v (nEx σ)) (tgt := 252) (by omega) dL_areMasteries_239 (by decide) (fun c_14 => ?_) (fun c_14 => ?_)
                  · exact absurd c_14 (by omega)
                  · refine lv_iload X.ex X.co dL_areMasteries_242 (lv_at hl 7 rfl) ?_
                    refine n_if_gt X (x := ansN σ u v (dayV σ) (nAn σ) (nEx σ)) (tgt := 252) (by omega) dL_areMasteries_244 (by decide) (fun c_15 => ?_) (fun c_15 => ?_)
                    · refine lv_iload X.ex X.co dL_areMasteries_252 (lv_at hl 6 rfl) ?_
                      refine n_if_eq X (x := masN σ v (nEx σ)) (tgt := 270) (by omega) dL_areMasteries_254 (by decide) (fun c_16 => ?_) (fun c_16 => ?_)
                      · exact absurd c_16 (by omega)
                      · refine lv_iload X.ex X.co dL_areMasteries_257 (lv_at hl 5 rfl) ?_
                        refine lv_bipush (v := 100) X.ex X.co dL_areMasteries_259 (by decide) ?_
                        refine lv_iload X.ex X.co dL_areMasteries_261 (lv_at hl 7 rfl) ?_
                        refine n_mul X (x := 100) (y := ansN σ u v (dayV σ) (nAn σ) (nEx σ)) dL_areMasteries_263 ?_
                        refine lv_iload X.ex X.co dL_areMasteries_264 (lv_at hl 6 rfl) ?_
                        refine n_div X (x := 100 * (ansN σ u v (dayV σ) (nAn σ) (nEx σ))) (y := masN σ v (nEx σ)) (by omega) h0 (by omega) dL_areMasteries_266 ?_
                        refine n_cmp_gt X (x := M) (y := (100 * (ansN σ u v (dayV σ) (nAn σ) (nEx σ))) / (masN σ v (nEx σ))) (tgt := 274) (by omega) (by omega) dL_areMasteries_267 (by decide) (fun c_17 => ?_) (fun c_17 => ?_)
                        · exact absurd c_17 (Nat.not_lt.mpr hM4)
                        · refine lv_iconst (v := 1) X.ex X.co dL_areMasteries_270 (by decide) ?_
                          refine lv_goto (tgt := 275) X.ex X.co dL_areMasteries_271 (by decide) ?_
                          refine lv_istore_n (lv' := [(2, .int 1), (0, .ref b), (1, .ref (oad (0, 0))), (3, .int (nI u)), (5, .int (nI v)), (6, .int (nI M)), (7, .int (nI (masN σ v (nEx σ)))), (8, .int (nI (ansN σ u v (dayV σ) (nAn σ) (nEx σ)))), (9, .int (nI (nEx σ)))]) X.ex X.co dL_areMasteries_275 rfl hl (by decide) rfl (fun ls hl => ?_)
                          refine lv_iinc (v := nI (v + 1)) (lv' := [(5, .int (nI (v + 1))), (2, .int 1), (0, .ref b), (1, .ref (oad (0, 0))), (3, .int (nI u)), (6, .int (nI M)), (7, .int (nI (masN σ v (nEx σ)))), (8, .int (nI (ansN σ u v (dayV σ) (nAn σ) (nEx σ)))), (9, .int (nI (nEx σ)))]) X.ex X.co dL_areMasteries_276 hl (k := 4) rfl (n_inc _) (by decide) rfl (fun ls hl => ?_)
                          refine lv_goto (tgt := 97) X.ex X.co dL_areMasteries_279 (by decide) ?_
                          exact ih (v + 1) (by omega) H locs ls _ _ W0 hS (lv_sub hl [2, 3, 1, 4, 0] rfl) (by omega) (by omega)
                    · refine lv_iload X.ex X.co dL_areMasteries_247 (lv_at hl 5 rfl) ?_
                      refine n_if_ne X (x := M) (tgt := 274) (by omega) dL_areMasteries_249 (by decide) (fun c_18 => ?_) (fun c_18 => ?_)
                      · exact absurd (by rw [c_15] at hM4; simpa using hM4 : M = 0) (by omega)
                      · refine lv_iload X.ex X.co dL_areMasteries_252 (lv_at hl 6 rfl) ?_
                        refine n_if_eq X (x := masN σ v (nEx σ)) (tgt := 270) (by omega) dL_areMasteries_254 (by decide) (fun c_19 => ?_) (fun c_19 => ?_)
                        · exact absurd c_19 (by omega)
                        · refine lv_iload X.ex X.co dL_areMasteries_257 (lv_at hl 5 rfl) ?_
                          refine lv_bipush (v := 100) X.ex X.co dL_areMasteries_259 (by decide) ?_
                          refine lv_iload X.ex X.co dL_areMasteries_261 (lv_at hl 7 rfl) ?_
                          refine n_mul X (x := 100) (y := ansN σ u v (dayV σ) (nAn σ) (nEx σ)) dL_areMasteries_263 ?_
                          refine lv_iload X.ex X.co dL_areMasteries_264 (lv_at hl 6 rfl) ?_
                          refine n_div X (x := 100 * (ansN σ u v (dayV σ) (nAn σ) (nEx σ))) (y := masN σ v (nEx σ)) (by omega) h0 (by omega) dL_areMasteries_266 ?_
                          refine n_cmp_gt X (x := M) (y := (100 * (ansN σ u v (dayV σ) (nAn σ) (nEx σ))) / (masN σ v (nEx σ))) (tgt := 274) (by omega) (by omega) dL_areMasteries_267 (by decide) (fun c_20 => ?_) (fun c_20 => ?_)
                          · exact absurd c_20 (Nat.not_lt.mpr hM4)
                          · refine lv_iconst (v := 1) X.ex X.co dL_areMasteries_270 (by decide) ?_
                            refine lv_goto (tgt := 275) X.ex X.co dL_areMasteries_271 (by decide) ?_
                            refine lv_istore_n (lv' := [(2, .int 1), (0, .ref b), (1, .ref (oad (0, 0))), (3, .int (nI u)), (5, .int (nI v)), (6, .int (nI M)), (7, .int (nI (masN σ v (nEx σ)))), (8, .int (nI (ansN σ u v (dayV σ) (nAn σ) (nEx σ)))), (9, .int (nI (nEx σ)))]) X.ex X.co dL_areMasteries_275 rfl hl (by decide) rfl (fun ls hl => ?_)
                            refine lv_iinc (v := nI (v + 1)) (lv' := [(5, .int (nI (v + 1))), (2, .int 1), (0, .ref b), (1, .ref (oad (0, 0))), (3, .int (nI u)), (6, .int (nI M)), (7, .int (nI (masN σ v (nEx σ)))), (8, .int (nI (ansN σ u v (dayV σ) (nAn σ) (nEx σ)))), (9, .int (nI (nEx σ)))]) X.ex X.co dL_areMasteries_276 hl (k := 4) rfl (n_inc _) (by decide) rfl (fun ls hl => ?_)
                            refine lv_goto (tgt := 97) X.ex X.co dL_areMasteries_279 (by decide) ?_
                            exact ih (v + 1) (by omega) H locs ls _ _ W0 hS (lv_sub hl [2, 3, 1, 4, 0] rfl) (by omega) (by omega)
                · exact absurd c_13 (by omega)
set_option maxHeartbeats 4000000 in
set_option maxRecDepth 100000 in
theorem am_e (hst : l.stackTraces = false) (hAg : ∀ q, A q → gA G q) (hdis : ∀ q, A q → ¬ AO q) (X : CF p s m args meth c cL_areMasteries 10 "CourseForgeLaw" (some .boolean)) (g0 : GG G s s.heap) (hR9 : 13 ≤ hR) (hd9 : d ≤ 1000) (u : Nat) (hu : u < nSt σ) (c0 s0 : Nat) (hrc : c0 + 84 ≤ rc) (hrs : s0 + 468 ≤ rs) (kend : ∀ (H : Heap) (locs : List Loc) (ls : Array Slot) (cells slots : Nat), LW G A AO b d σ oad (mR σ) wf H → va_S A s.heap H locs → lv_has ls 10 [(0, .ref b), (1, .ref (oad (0, 0))), (2, .int 1), (3, .int (nI u)), (5, .int (nI (nEx σ)))] → cells ≤ c0 + 84 → slots ≤ s0 + 468 → W p l e (RM hR rc rs) s m args below meth c H locs cells slots Q (F0 m 393 ls [])) :
    ∀ (n x : Nat), x + n = nEx σ → ∀ (H : Heap) (locs : List Loc) (ls : Array Slot) (cells slots : Nat), LW G A AO b d σ oad (mR σ) wf H → va_S A s.heap H locs → lv_has ls 10 [(0, .ref b), (1, .ref (oad (0, 0))), (2, .int 1), (3, .int (nI u)), (5, .int (nI x))] → cells ≤ c0 + 7 * x → slots ≤ s0 + 39 * x → W p l e (RM hR rc rs) s m args below meth c H locs cells slots Q (F0 m 285 ls []) := by
  intro n
  induction n with
  | zero =>
    intro x ha H locs ls cells slots W0 hS hl hc hs
    have hb := W0.1.1.1.1.1.1
    refine lv_iload X.ex X.co dL_areMasteries_285 (lv_at hl 4 rfl) ?_
    refine lv_aload_n X.ex X.co dL_areMasteries_287 rfl (lv_at hl 1 rfl) ?_
    refine lv_iconst (v := 3) X.ex X.co dL_areMasteries_288 (by decide) ?_
    refine k_ml X g0.1 W0.2.2.2 3 (by omega) (mR_3 σ) dL_areMasteries_289 ?_
    refine n_cmp_ge X (x := x) (y := nEx σ) (tgt := 393) (by omega) (by omega) dL_areMasteries_290 (by decide) (fun c_1 => ?_) (fun c_1 => ?_)
    · rw [show x = nEx σ by omega] at hl
      exact kend H locs ls _ _ W0 hS (lv_sub hl [0, 1, 2, 3, 4] rfl) (by omega) (by omega)
    · exact absurd c_1 (by omega)
  | succ n ih =>
    intro x ha H locs ls cells slots W0 hS hl hc hs
    have hb := W0.1.1.1.1.1.1
    rcases hbx : bestS σ u x (dayV σ) (nAn σ) with _ | z
    · refine lv_iload X.ex X.co dL_areMasteries_285 (lv_at hl 4 rfl) ?_
      refine lv_aload_n X.ex X.co dL_areMasteries_287 rfl (lv_at hl 1 rfl) ?_
      refine lv_iconst (v := 3) X.ex X.co dL_areMasteries_288 (by decide) ?_
      refine k_ml X g0.1 W0.2.2.2 3 (by omega) (mR_3 σ) dL_areMasteries_289 ?_
      refine n_cmp_ge X (x := x) (y := nEx σ) (tgt := 393) (by omega) (by omega) dL_areMasteries_290 (by decide) (fun c_1 => ?_) (fun c_1 => ?_)
      · exact absurd c_1 (by omega)
      · refine lv_iload_n X.ex X.co dL_areMasteries_293 rfl (lv_at hl 2 rfl) ?_
        refine lv_if_eq (tgt := 393) X.ex X.co dL_areMasteries_294 (by decide) (fun c_2 => ?_) (fun c_2 => ?_)
        · exact absurd c_2 (by decide)
        · refine lv_aload_n X.ex X.co dL_areMasteries_297 rfl (lv_at hl 0 rfl) ?_
          refine lv_bipush (v := 8) X.ex X.co dL_areMasteries_298 (by decide) ?_
          refine lv_iload_n X.ex X.co dL_areMasteries_300 rfl (lv_at hl 3 rfl) ?_
          refine lv_iload X.ex X.co dL_areMasteries_301 (lv_at hl 4 rfl) ?_
          refine k_call (n := 4) X mn_40 m_0 mn_39 ⟨by decide, by decide, by decide +kernel⟩ (by decide) mn_38 (c_L_ask_8 l hst G A hAg b σ W0.1.1.1.1 W0.1.1.1.2 W0.1.1.2 (nI u) (nI x)) (g0.step hS hAg) W0 hdis (lsq_be W0.1.1.2 _ _) W0.1 (q_be0 W0.1 (show u < nSt σ by omega) (show x < nEx σ by omega) hbx) (by omega) rfl hl.1 rfl (Nat.le_of_ble_eq_true rfl) dL_areMasteries_303 (by omega) (by omega) hS (fun q h => h) (fun H locs W0 hz hk9 hS => ?_)
          refine lv_istore (lv' := [(6, .int (-2005)), (0, .ref b), (1, .ref (oad (0, 0))), (2, .int 1), (3, .int (nI u)), (5, .int (nI x))]) X.ex X.co dL_areMasteries_306 hl (by decide) rfl (fun ls hl => ?_)
          refine lv_iload X.ex X.co dL_areMasteries_308 (lv_at hl 0 rfl) ?_
          refine lv_sipush (v := (-2005)) X.ex X.co dL_areMasteries_310 (by decide) ?_
          refine lv_icmp_eq (tgt := 329) X.ex X.co dL_areMasteries_313 (by decide) (fun c_3 => ?_) (fun c_3 => ?_)
          · rcases why_4 σ u x with hw | hw | hw | hw
            · refine lv_aload_n X.ex X.co dL_areMasteries_329 rfl (lv_at hl 1 rfl) ?_
              refine lv_iconst (v := 2) X.ex X.co dL_areMasteries_330 (by decide) ?_
              refine lv_iload_n X.ex X.co dL_areMasteries_331 rfl (lv_at hl 4 rfl) ?_
              refine lv_iload X.ex X.co dL_areMasteries_332 (lv_at hl 5 rfl) ?_
              refine k_call (n := 4) X mn_40 m_0 mn_39 ⟨by decide, by decide, by decide +kernel⟩ (by decide) mn_38 (c_L_ask_2 l hst G A hAg b σ W0.1.1.1.1 W0.1.1.1.2 W0.1.1.2 (nI u) (nI x)) (g0.step hS hAg) W0 hdis (lsq_re W0.1.1.2 _ _) W0.1 ((q_re W0.1 (show u < nSt σ by omega) (show x < nEx σ by omega)).trans hw) (by omega) rfl hl.1 rfl (Nat.le_of_ble_eq_true rfl) dL_areMasteries_334 (by omega) (by omega) hS (fun q h => h) (fun H locs W0 hz hk9 hS => ?_)
              refine lv_bipush (v := 45) X.ex X.co dL_areMasteries_337 (by decide) ?_
              refine lv_icmp_eq (tgt := 381) X.ex X.co dL_areMasteries_339 (by decide) (fun c_4 => ?_) (fun c_4 => ?_)
              · refine lv_iconst (v := 1) X.ex X.co dL_areMasteries_381 (by decide) ?_
                refine lv_goto (tgt := 386) X.ex X.co dL_areMasteries_382 (by decide) ?_
                refine lv_istore_n (lv' := [(2, .int 1), (6, .int (-2005)), (0, .ref b), (1, .ref (oad (0, 0))), (3, .int (nI u)), (5, .int (nI x))]) X.ex X.co dL_areMasteries_386 rfl hl (by decide) rfl (fun ls hl => ?_)
                refine lv_iinc (v := nI (x + 1)) (lv' := [(5, .int (nI (x + 1))), (2, .int 1), (6, .int (-2005)), (0, .ref b), (1, .ref (oad (0, 0))), (3, .int (nI u))]) X.ex X.co dL_areMasteries_387 hl (k := 5) rfl (n_inc _) (by decide) rfl (fun ls hl => ?_)
                refine lv_goto (tgt := 285) X.ex X.co dL_areMasteries_390 (by decide) ?_
                exact ih (x + 1) (by omega) H locs ls _ _ W0 hS (lv_sub hl [3, 4, 1, 5, 0] rfl) (by omega) (by omega)
              · exact absurd (by decide) c_4
            · refine lv_aload_n X.ex X.co dL_areMasteries_329 rfl (lv_at hl 1 rfl) ?_
              refine lv_iconst (v := 2) X.ex X.co dL_areMasteries_330 (by decide) ?_
              refine lv_iload_n X.ex X.co dL_areMasteries_331 rfl (lv_at hl 4 rfl) ?_
              refine lv_iload X.ex X.co dL_areMasteries_332 (lv_at hl 5 rfl) ?_
              refine k_call (n := 4) X mn_40 m_0 mn_39 ⟨by decide, by decide, by decide +kernel⟩ (by decide) mn_38 (c_L_ask_2 l hst G A hAg b σ W0.1.1.1.1 W0.1.1.1.2 W0.1.1.2 (nI u) (nI x)) (g0.step hS hAg) W0 hdis (lsq_re W0.1.1.2 _ _) W0.1 ((q_re W0.1 (show u < nSt σ by omega) (show x < nEx σ by omega)).trans hw) (by omega) rfl hl.1 rfl (Nat.le_of_ble_eq_true rfl) dL_areMasteries_334 (by omega) (by omega) hS (fun q h => h) (fun H locs W0 hz hk9 hS => ?_)
              refine lv_bipush (v := 45) X.ex X.co dL_areMasteries_337 (by decide) ?_
              refine lv_icmp_eq (tgt := 381) X.ex X.co dL_areMasteries_339 (by decide) (fun c_5 => ?_) (fun c_5 => ?_)
              · exact absurd c_5 (by decide)
              · refine lv_aload_n X.ex X.co dL_areMasteries_342 rfl (lv_at hl 1 rfl) ?_
                refine lv_iconst (v := 2) X.ex X.co dL_areMasteries_343 (by decide) ?_
                refine lv_iload_n X.ex X.co dL_areMasteries_344 rfl (lv_at hl 4 rfl) ?_
                refine lv_iload X.ex X.co dL_areMasteries_345 (lv_at hl 5 rfl) ?_
                refine k_call (n := 4) X mn_40 m_0 mn_39 ⟨by decide, by decide, by decide +kernel⟩ (by decide) mn_38 (c_L_ask_2 l hst G A hAg b σ W0.1.1.1.1 W0.1.1.1.2 W0.1.1.2 (nI u) (nI x)) (g0.step hS hAg) W0 hdis (lsq_re W0.1.1.2 _ _) W0.1 ((q_re W0.1 (show u < nSt σ by omega) (show x < nEx σ by omega)).trans hw) (by omega) rfl hl.1 rfl (Nat.le_of_ble_eq_true rfl) dL_areMasteries_347 (by omega) (by omega) hS (fun q h => h) (fun H locs W0 hz hk9 hS => ?_)
                refine lv_bipush (v := 100) X.ex X.co dL_areMasteries_350 (by decide) ?_
                refine lv_icmp_eq (tgt := 381) X.ex X.co dL_areMasteries_352 (by decide) (fun c_6 => ?_) (fun c_6 => ?_)
                · refine lv_iconst (v := 1) X.ex X.co dL_areMasteries_381 (by decide) ?_
                  refine lv_goto (tgt := 386) X.ex X.co dL_areMasteries_382 (by decide) ?_
                  refine lv_istore_n (lv' := [(2, .int 1), (6, .int (-2005)), (0, .ref b), (1, .ref (oad (0, 0))), (3, .int (nI u)), (5, .int (nI x))]) X.ex X.co dL_areMasteries_386 rfl hl (by decide) rfl (fun ls hl => ?_)
                  refine lv_iinc (v := nI (x + 1)) (lv' := [(5, .int (nI (x + 1))), (2, .int 1), (6, .int (-2005)), (0, .ref b), (1, .ref (oad (0, 0))), (3, .int (nI u))]) X.ex X.co dL_areMasteries_387 hl (k := 5) rfl (n_inc _) (by decide) rfl (fun ls hl => ?_)
                  refine lv_goto (tgt := 285) X.ex X.co dL_areMasteries_390 (by decide) ?_
                  exact ih (x + 1) (by omega) H locs ls _ _ W0 hS (lv_sub hl [3, 4, 1, 5, 0] rfl) (by omega) (by omega)
                · exact absurd (by decide) c_6
            · refine lv_aload_n X.ex X.co dL_areMasteries_329 rfl (lv_at hl 1 rfl) ?_
              refine lv_iconst (v := 2) X.ex X.co dL_areMasteries_330 (by decide) ?_
              refine lv_iload_n X.ex X.co dL_areMasteries_331 rfl (lv_at hl 4 rfl) ?_
              refine lv_iload X.ex X.co dL_areMasteries_332 (lv_at hl 5 rfl) ?_
              refine k_call (n := 4) X mn_40 m_0 mn_39 ⟨by decide, by decide, by decide +kernel⟩ (by decide) mn_38 (c_L_ask_2 l hst G A hAg b σ W0.1.1.1.1 W0.1.1.1.2 W0.1.1.2 (nI u) (nI x)) (g0.step hS hAg) W0 hdis (lsq_re W0.1.1.2 _ _) W0.1 ((q_re W0.1 (show u < nSt σ by omega) (show x < nEx σ by omega)).trans hw) (by omega) rfl hl.1 rfl (Nat.le_of_ble_eq_true rfl) dL_areMasteries_334 (by omega) (by omega) hS (fun q h => h) (fun H locs W0 hz hk9 hS => ?_)
              refine lv_bipush (v := 45) X.ex X.co dL_areMasteries_337 (by decide) ?_
              refine lv_icmp_eq (tgt := 381) X.ex X.co dL_areMasteries_339 (by decide) (fun c_7 => ?_) (fun c_7 => ?_)
              · exact absurd c_7 (by decide)
              · refine lv_aload_n X.ex X.co dL_areMasteries_342 rfl (lv_at hl 1 rfl) ?_
                refine lv_iconst (v := 2) X.ex X.co dL_areMasteries_343 (by decide) ?_
                refine lv_iload_n X.ex X.co dL_areMasteries_344 rfl (lv_at hl 4 rfl) ?_
                refine lv_iload X.ex X.co dL_areMasteries_345 (lv_at hl 5 rfl) ?_
                refine k_call (n := 4) X mn_40 m_0 mn_39 ⟨by decide, by decide, by decide +kernel⟩ (by decide) mn_38 (c_L_ask_2 l hst G A hAg b σ W0.1.1.1.1 W0.1.1.1.2 W0.1.1.2 (nI u) (nI x)) (g0.step hS hAg) W0 hdis (lsq_re W0.1.1.2 _ _) W0.1 ((q_re W0.1 (show u < nSt σ by omega) (show x < nEx σ by omega)).trans hw) (by omega) rfl hl.1 rfl (Nat.le_of_ble_eq_true rfl) dL_areMasteries_347 (by omega) (by omega) hS (fun q h => h) (fun H locs W0 hz hk9 hS => ?_)
                refine lv_bipush (v := 100) X.ex X.co dL_areMasteries_350 (by decide) ?_
                refine lv_icmp_eq (tgt := 381) X.ex X.co dL_areMasteries_352 (by decide) (fun c_8 => ?_) (fun c_8 => ?_)
                · exact absurd c_8 (by decide)
                · refine lv_aload_n X.ex X.co dL_areMasteries_355 rfl (lv_at hl 1 rfl) ?_
                  refine lv_iconst (v := 2) X.ex X.co dL_areMasteries_356 (by decide) ?_
                  refine lv_iload_n X.ex X.co dL_areMasteries_357 rfl (lv_at hl 4 rfl) ?_
                  refine lv_iload X.ex X.co dL_areMasteries_358 (lv_at hl 5 rfl) ?_
                  refine k_call (n := 4) X mn_40 m_0 mn_39 ⟨by decide, by decide, by decide +kernel⟩ (by decide) mn_38 (c_L_ask_2 l hst G A hAg b σ W0.1.1.1.1 W0.1.1.1.2 W0.1.1.2 (nI u) (nI x)) (g0.step hS hAg) W0 hdis (lsq_re W0.1.1.2 _ _) W0.1 ((q_re W0.1 (show u < nSt σ by omega) (show x < nEx σ by omega)).trans hw) (by omega) rfl hl.1 rfl (Nat.le_of_ble_eq_true rfl) dL_areMasteries_360 (by omega) (by omega) hS (fun q h => h) (fun H locs W0 hz hk9 hS => ?_)
                  refine lv_bipush (v := 99) X.ex X.co dL_areMasteries_363 (by decide) ?_
                  refine lv_icmp_eq (tgt := 381) X.ex X.co dL_areMasteries_365 (by decide) (fun c_9 => ?_) (fun c_9 => ?_)
                  · refine lv_iconst (v := 1) X.ex X.co dL_areMasteries_381 (by decide) ?_
                    refine lv_goto (tgt := 386) X.ex X.co dL_areMasteries_382 (by decide) ?_
                    refine lv_istore_n (lv' := [(2, .int 1), (6, .int (-2005)), (0, .ref b), (1, .ref (oad (0, 0))), (3, .int (nI u)), (5, .int (nI x))]) X.ex X.co dL_areMasteries_386 rfl hl (by decide) rfl (fun ls hl => ?_)
                    refine lv_iinc (v := nI (x + 1)) (lv' := [(5, .int (nI (x + 1))), (2, .int 1), (6, .int (-2005)), (0, .ref b), (1, .ref (oad (0, 0))), (3, .int (nI u))]) X.ex X.co dL_areMasteries_387 hl (k := 5) rfl (n_inc _) (by decide) rfl (fun ls hl => ?_)
                    refine lv_goto (tgt := 285) X.ex X.co dL_areMasteries_390 (by decide) ?_
                    exact ih (x + 1) (by omega) H locs ls _ _ W0 hS (lv_sub hl [3, 4, 1, 5, 0] rfl) (by omega) (by omega)
                  · exact absurd (by decide) c_9
            · refine lv_aload_n X.ex X.co dL_areMasteries_329 rfl (lv_at hl 1 rfl) ?_
              refine lv_iconst (v := 2) X.ex X.co dL_areMasteries_330 (by decide) ?_
              refine lv_iload_n X.ex X.co dL_areMasteries_331 rfl (lv_at hl 4 rfl) ?_
              refine lv_iload X.ex X.co dL_areMasteries_332 (lv_at hl 5 rfl) ?_
              refine k_call (n := 4) X mn_40 m_0 mn_39 ⟨by decide, by decide, by decide +kernel⟩ (by decide) mn_38 (c_L_ask_2 l hst G A hAg b σ W0.1.1.1.1 W0.1.1.1.2 W0.1.1.2 (nI u) (nI x)) (g0.step hS hAg) W0 hdis (lsq_re W0.1.1.2 _ _) W0.1 ((q_re W0.1 (show u < nSt σ by omega) (show x < nEx σ by omega)).trans hw) (by omega) rfl hl.1 rfl (Nat.le_of_ble_eq_true rfl) dL_areMasteries_334 (by omega) (by omega) hS (fun q h => h) (fun H locs W0 hz hk9 hS => ?_)
              refine lv_bipush (v := 45) X.ex X.co dL_areMasteries_337 (by decide) ?_
              refine lv_icmp_eq (tgt := 381) X.ex X.co dL_areMasteries_339 (by decide) (fun c_10 => ?_) (fun c_10 => ?_)
              · exact absurd c_10 (by decide)
              · refine lv_aload_n X.ex X.co dL_areMasteries_342 rfl (lv_at hl 1 rfl) ?_
                refine lv_iconst (v := 2) X.ex X.co dL_areMasteries_343 (by decide) ?_
                refine lv_iload_n X.ex X.co dL_areMasteries_344 rfl (lv_at hl 4 rfl) ?_
                refine lv_iload X.ex X.co dL_areMasteries_345 (lv_at hl 5 rfl) ?_
                refine k_call (n := 4) X mn_40 m_0 mn_39 ⟨by decide, by decide, by decide +kernel⟩ (by decide) mn_38 (c_L_ask_2 l hst G A hAg b σ W0.1.1.1.1 W0.1.1.1.2 W0.1.1.2 (nI u) (nI x)) (g0.step hS hAg) W0 hdis (lsq_re W0.1.1.2 _ _) W0.1 ((q_re W0.1 (show u < nSt σ by omega) (show x < nEx σ by omega)).trans hw) (by omega) rfl hl.1 rfl (Nat.le_of_ble_eq_true rfl) dL_areMasteries_347 (by omega) (by omega) hS (fun q h => h) (fun H locs W0 hz hk9 hS => ?_)
                refine lv_bipush (v := 100) X.ex X.co dL_areMasteries_350 (by decide) ?_
                refine lv_icmp_eq (tgt := 381) X.ex X.co dL_areMasteries_352 (by decide) (fun c_11 => ?_) (fun c_11 => ?_)
                · exact absurd c_11 (by decide)
                · refine lv_aload_n X.ex X.co dL_areMasteries_355 rfl (lv_at hl 1 rfl) ?_
                  refine lv_iconst (v := 2) X.ex X.co dL_areMasteries_356 (by decide) ?_
                  refine lv_iload_n X.ex X.co dL_areMasteries_357 rfl (lv_at hl 4 rfl) ?_
                  refine lv_iload X.ex X.co dL_areMasteries_358 (lv_at hl 5 rfl) ?_
                  refine k_call (n := 4) X mn_40 m_0 mn_39 ⟨by decide, by decide, by decide +kernel⟩ (by decide) mn_38 (c_L_ask_2 l hst G A hAg b σ W0.1.1.1.1 W0.1.1.1.2 W0.1.1.2 (nI u) (nI x)) (g0.step hS hAg) W0 hdis (lsq_re W0.1.1.2 _ _) W0.1 ((q_re W0.1 (show u < nSt σ by omega) (show x < nEx σ by omega)).trans hw) (by omega) rfl hl.1 rfl (Nat.le_of_ble_eq_true rfl) dL_areMasteries_360 (by omega) (by omega) hS (fun q h => h) (fun H locs W0 hz hk9 hS => ?_)
                  refine lv_bipush (v := 99) X.ex X.co dL_areMasteries_363 (by decide) ?_
                  refine lv_icmp_eq (tgt := 381) X.ex X.co dL_areMasteries_365 (by decide) (fun c_12 => ?_) (fun c_12 => ?_)
                  · exact absurd c_12 (by decide)
                  · refine lv_aload_n X.ex X.co dL_areMasteries_368 rfl (lv_at hl 1 rfl) ?_
                    refine lv_iconst (v := 2) X.ex X.co dL_areMasteries_369 (by decide) ?_
                    refine lv_iload_n X.ex X.co dL_areMasteries_370 rfl (lv_at hl 4 rfl) ?_
                    refine lv_iload X.ex X.co dL_areMasteries_371 (lv_at hl 5 rfl) ?_
                    refine k_call (n := 4) X mn_40 m_0 mn_39 ⟨by decide, by decide, by decide +kernel⟩ (by decide) mn_38 (c_L_ask_2 l hst G A hAg b σ W0.1.1.1.1 W0.1.1.1.2 W0.1.1.2 (nI u) (nI x)) (g0.step hS hAg) W0 hdis (lsq_re W0.1.1.2 _ _) W0.1 ((q_re W0.1 (show u < nSt σ by omega) (show x < nEx σ by omega)).trans hw) (by omega) rfl hl.1 rfl (Nat.le_of_ble_eq_true rfl) dL_areMasteries_373 (by omega) (by omega) hS (fun q h => h) (fun H locs W0 hz hk9 hS => ?_)
                    refine lv_bipush (v := 112) X.ex X.co dL_areMasteries_376 (by decide) ?_
                    refine lv_icmp_ne (tgt := 385) X.ex X.co dL_areMasteries_378 (by decide) (fun c_13 => ?_) (fun c_13 => ?_)
                    · exact absurd (by decide) c_13
                    · refine lv_iconst (v := 1) X.ex X.co dL_areMasteries_381 (by decide) ?_
                      refine lv_goto (tgt := 386) X.ex X.co dL_areMasteries_382 (by decide) ?_
                      refine lv_istore_n (lv' := [(2, .int 1), (6, .int (-2005)), (0, .ref b), (1, .ref (oad (0, 0))), (3, .int (nI u)), (5, .int (nI x))]) X.ex X.co dL_areMasteries_386 rfl hl (by decide) rfl (fun ls hl => ?_)
                      refine lv_iinc (v := nI (x + 1)) (lv' := [(5, .int (nI (x + 1))), (2, .int 1), (6, .int (-2005)), (0, .ref b), (1, .ref (oad (0, 0))), (3, .int (nI u))]) X.ex X.co dL_areMasteries_387 hl (k := 5) rfl (n_inc _) (by decide) rfl (fun ls hl => ?_)
                      refine lv_goto (tgt := 285) X.ex X.co dL_areMasteries_390 (by decide) ?_
                      exact ih (x + 1) (by omega) H locs ls _ _ W0 hS (lv_sub hl [3, 4, 1, 5, 0] rfl) (by omega) (by omega)
          · exact absurd (by decide) c_3
    · have hz9 := bestS_b hbx
      refine lv_iload X.ex X.co dL_areMasteries_285 (lv_at hl 4 rfl) ?_
      refine lv_aload_n X.ex X.co dL_areMasteries_287 rfl (lv_at hl 1 rfl) ?_
      refine lv_iconst (v := 3) X.ex X.co dL_areMasteries_288 (by decide) ?_
      refine k_ml X g0.1 W0.2.2.2 3 (by omega) (mR_3 σ) dL_areMasteries_289 ?_
      refine n_cmp_ge X (x := x) (y := nEx σ) (tgt := 393) (by omega) (by omega) dL_areMasteries_290 (by decide) (fun c_14 => ?_) (fun c_14 => ?_)
      · exact absurd c_14 (by omega)
      · refine lv_iload_n X.ex X.co dL_areMasteries_293 rfl (lv_at hl 2 rfl) ?_
        refine lv_if_eq (tgt := 393) X.ex X.co dL_areMasteries_294 (by decide) (fun c_15 => ?_) (fun c_15 => ?_)
        · exact absurd c_15 (by decide)
        · refine lv_aload_n X.ex X.co dL_areMasteries_297 rfl (lv_at hl 0 rfl) ?_
          refine lv_bipush (v := 8) X.ex X.co dL_areMasteries_298 (by decide) ?_
          refine lv_iload_n X.ex X.co dL_areMasteries_300 rfl (lv_at hl 3 rfl) ?_
          refine lv_iload X.ex X.co dL_areMasteries_301 (lv_at hl 4 rfl) ?_
          refine k_call (n := 4) X mn_40 m_0 mn_39 ⟨by decide, by decide, by decide +kernel⟩ (by decide) mn_38 (c_L_ask_8 l hst G A hAg b σ W0.1.1.1.1 W0.1.1.1.2 W0.1.1.2 (nI u) (nI x)) (g0.step hS hAg) W0 hdis (lsq_be W0.1.1.2 _ _) W0.1 (q_be1 W0.1 (show u < nSt σ by omega) (show x < nEx σ by omega) hbx) (by omega) rfl hl.1 rfl (Nat.le_of_ble_eq_true rfl) dL_areMasteries_303 (by omega) (by omega) hS (fun q h => h) (fun H locs W0 hz hk9 hS => ?_)
          refine lv_istore (lv' := [(6, .int (nI z)), (0, .ref b), (1, .ref (oad (0, 0))), (2, .int 1), (3, .int (nI u)), (5, .int (nI x))]) X.ex X.co dL_areMasteries_306 hl (by decide) rfl (fun ls hl => ?_)
          refine lv_iload X.ex X.co dL_areMasteries_308 (lv_at hl 0 rfl) ?_
          refine lv_sipush (v := (-2005)) X.ex X.co dL_areMasteries_310 (by decide) ?_
          refine lv_icmp_eq (tgt := 329) X.ex X.co dL_areMasteries_313 (by decide) (fun c_16 => ?_) (fun c_16 => ?_)
          · exact absurd c_16 (nI_ne5 (by omega))
          · refine lv_aload_n X.ex X.co dL_areMasteries_316 rfl (lv_at hl 1 rfl) ?_
            refine lv_bipush (v := 6) X.ex X.co dL_areMasteries_317 (by decide) ?_
            refine lv_iload X.ex X.co dL_areMasteries_319 (lv_at hl 0 rfl) ?_
            refine lv_iconst (v := 0) X.ex X.co dL_areMasteries_321 (by decide) ?_
            refine k_call (n := 4) X mn_40 m_0 mn_39 ⟨by decide, by decide, by decide +kernel⟩ (by decide) mn_38 (c_L_ask_6 l hst G A hAg b σ W0.1.1.1.1 W0.1.1.1.2 W0.1.1.2 (nI z) 0) (g0.step hS hAg) W0 hdis (lsq_st W0.1.1.2 _) W0.1 ((q_st W0.1 (show z < nAn σ by omega)).trans (by rw [bestS_st hbx])) (by omega) rfl hl.1 rfl (Nat.le_of_ble_eq_true rfl) dL_areMasteries_322 (by omega) (by omega) hS (fun q h => h) (fun H locs W0 hz hk9 hS => ?_)
            refine lv_iload_n X.ex X.co dL_areMasteries_325 rfl (lv_at hl 4 rfl) ?_
            refine n_cmp_ne X (x := u) (y := u) (tgt := 385) (by omega) (by omega) dL_areMasteries_326 (by decide) (fun c_17 => ?_) (fun c_17 => ?_)
            · exact absurd rfl c_17
            · rcases why_4 σ u x with hw | hw | hw | hw
              · refine lv_aload_n X.ex X.co dL_areMasteries_329 rfl (lv_at hl 1 rfl) ?_
                refine lv_iconst (v := 2) X.ex X.co dL_areMasteries_330 (by decide) ?_
                refine lv_iload_n X.ex X.co dL_areMasteries_331 rfl (lv_at hl 4 rfl) ?_
                refine lv_iload X.ex X.co dL_areMasteries_332 (lv_at hl 5 rfl) ?_
                refine k_call (n := 4) X mn_40 m_0 mn_39 ⟨by decide, by decide, by decide +kernel⟩ (by decide) mn_38 (c_L_ask_2 l hst G A hAg b σ W0.1.1.1.1 W0.1.1.1.2 W0.1.1.2 (nI u) (nI x)) (g0.step hS hAg) W0 hdis (lsq_re W0.1.1.2 _ _) W0.1 ((q_re W0.1 (show u < nSt σ by omega) (show x < nEx σ by omega)).trans hw) (by omega) rfl hl.1 rfl (Nat.le_of_ble_eq_true rfl) dL_areMasteries_334 (by omega) (by omega) hS (fun q h => h) (fun H locs W0 hz hk9 hS => ?_)
                refine lv_bipush (v := 45) X.ex X.co dL_areMasteries_337 (by decide) ?_
                refine lv_icmp_eq (tgt := 381) X.ex X.co dL_areMasteries_339 (by decide) (fun c_18 => ?_) (fun c_18 => ?_)
                · refine lv_iconst (v := 1) X.ex X.co dL_areMasteries_381 (by decide) ?_
                  refine lv_goto (tgt := 386) X.ex X.co dL_areMasteries_382 (by decide) ?_
                  refine lv_istore_n (lv' := [(2, .int 1), (6, .int (nI z)), (0, .ref b), (1, .ref (oad (0, 0))), (3, .int (nI u)), (5, .int (nI x))]) X.ex X.co dL_areMasteries_386 rfl hl (by decide) rfl (fun ls hl => ?_)
                  refine lv_iinc (v := nI (x + 1)) (lv' := [(5, .int (nI (x + 1))), (2, .int 1), (6, .int (nI z)), (0, .ref b), (1, .ref (oad (0, 0))), (3, .int (nI u))]) X.ex X.co dL_areMasteries_387 hl (k := 5) rfl (n_inc _) (by decide) rfl (fun ls hl => ?_)
                  refine lv_goto (tgt := 285) X.ex X.co dL_areMasteries_390 (by decide) ?_
                  exact ih (x + 1) (by omega) H locs ls _ _ W0 hS (lv_sub hl [3, 4, 1, 5, 0] rfl) (by omega) (by omega)
                · exact absurd (by decide) c_18
              · refine lv_aload_n X.ex X.co dL_areMasteries_329 rfl (lv_at hl 1 rfl) ?_
                refine lv_iconst (v := 2) X.ex X.co dL_areMasteries_330 (by decide) ?_
                refine lv_iload_n X.ex X.co dL_areMasteries_331 rfl (lv_at hl 4 rfl) ?_
                refine lv_iload X.ex X.co dL_areMasteries_332 (lv_at hl 5 rfl) ?_
                refine k_call (n := 4) X mn_40 m_0 mn_39 ⟨by decide, by decide, by decide +kernel⟩ (by decide) mn_38 (c_L_ask_2 l hst G A hAg b σ W0.1.1.1.1 W0.1.1.1.2 W0.1.1.2 (nI u) (nI x)) (g0.step hS hAg) W0 hdis (lsq_re W0.1.1.2 _ _) W0.1 ((q_re W0.1 (show u < nSt σ by omega) (show x < nEx σ by omega)).trans hw) (by omega) rfl hl.1 rfl (Nat.le_of_ble_eq_true rfl) dL_areMasteries_334 (by omega) (by omega) hS (fun q h => h) (fun H locs W0 hz hk9 hS => ?_)
                refine lv_bipush (v := 45) X.ex X.co dL_areMasteries_337 (by decide) ?_
                refine lv_icmp_eq (tgt := 381) X.ex X.co dL_areMasteries_339 (by decide) (fun c_19 => ?_) (fun c_19 => ?_)
                · exact absurd c_19 (by decide)
                · refine lv_aload_n X.ex X.co dL_areMasteries_342 rfl (lv_at hl 1 rfl) ?_
                  refine lv_iconst (v := 2) X.ex X.co dL_areMasteries_343 (by decide) ?_
                  refine lv_iload_n X.ex X.co dL_areMasteries_344 rfl (lv_at hl 4 rfl) ?_
                  refine lv_iload X.ex X.co dL_areMasteries_345 (lv_at hl 5 rfl) ?_
                  refine k_call (n := 4) X mn_40 m_0 mn_39 ⟨by decide, by decide, by decide +kernel⟩ (by decide) mn_38 (c_L_ask_2 l hst G A hAg b σ W0.1.1.1.1 W0.1.1.1.2 W0.1.1.2 (nI u) (nI x)) (g0.step hS hAg) W0 hdis (lsq_re W0.1.1.2 _ _) W0.1 ((q_re W0.1 (show u < nSt σ by omega) (show x < nEx σ by omega)).trans hw) (by omega) rfl hl.1 rfl (Nat.le_of_ble_eq_true rfl) dL_areMasteries_347 (by omega) (by omega) hS (fun q h => h) (fun H locs W0 hz hk9 hS => ?_)
                  refine lv_bipush (v := 100) X.ex X.co dL_areMasteries_350 (by decide) ?_
                  refine lv_icmp_eq (tgt := 381) X.ex X.co dL_areMasteries_352 (by decide) (fun c_20 => ?_) (fun c_20 => ?_)
                  · refine lv_iconst (v := 1) X.ex X.co dL_areMasteries_381 (by decide) ?_
                    refine lv_goto (tgt := 386) X.ex X.co dL_areMasteries_382 (by decide) ?_
                    refine lv_istore_n (lv' := [(2, .int 1), (6, .int (nI z)), (0, .ref b), (1, .ref (oad (0, 0))), (3, .int (nI u)), (5, .int (nI x))]) X.ex X.co dL_areMasteries_386 rfl hl (by decide) rfl (fun ls hl => ?_)
                    refine lv_iinc (v := nI (x + 1)) (lv' := [(5, .int (nI (x + 1))), (2, .int 1), (6, .int (nI z)), (0, .ref b), (1, .ref (oad (0, 0))), (3, .int (nI u))]) X.ex X.co dL_areMasteries_387 hl (k := 5) rfl (n_inc _) (by decide) rfl (fun ls hl => ?_)
                    refine lv_goto (tgt := 285) X.ex X.co dL_areMasteries_390 (by decide) ?_
                    exact ih (x + 1) (by omega) H locs ls _ _ W0 hS (lv_sub hl [3, 4, 1, 5, 0] rfl) (by omega) (by omega)
                  · exact absurd (by decide) c_20
              · refine lv_aload_n X.ex X.co dL_areMasteries_329 rfl (lv_at hl 1 rfl) ?_
                refine lv_iconst (v := 2) X.ex X.co dL_areMasteries_330 (by decide) ?_
                refine lv_iload_n X.ex X.co dL_areMasteries_331 rfl (lv_at hl 4 rfl) ?_
                refine lv_iload X.ex X.co dL_areMasteries_332 (lv_at hl 5 rfl) ?_
                refine k_call (n := 4) X mn_40 m_0 mn_39 ⟨by decide, by decide, by decide +kernel⟩ (by decide) mn_38 (c_L_ask_2 l hst G A hAg b σ W0.1.1.1.1 W0.1.1.1.2 W0.1.1.2 (nI u) (nI x)) (g0.step hS hAg) W0 hdis (lsq_re W0.1.1.2 _ _) W0.1 ((q_re W0.1 (show u < nSt σ by omega) (show x < nEx σ by omega)).trans hw) (by omega) rfl hl.1 rfl (Nat.le_of_ble_eq_true rfl) dL_areMasteries_334 (by omega) (by omega) hS (fun q h => h) (fun H locs W0 hz hk9 hS => ?_)
                refine lv_bipush (v := 45) X.ex X.co dL_areMasteries_337 (by decide) ?_
                refine lv_icmp_eq (tgt := 381) X.ex X.co dL_areMasteries_339 (by decide) (fun c_21 => ?_) (fun c_21 => ?_)
                · exact absurd c_21 (by decide)
                · refine lv_aload_n X.ex X.co dL_areMasteries_342 rfl (lv_at hl 1 rfl) ?_
                  refine lv_iconst (v := 2) X.ex X.co dL_areMasteries_343 (by decide) ?_
                  refine lv_iload_n X.ex X.co dL_areMasteries_344 rfl (lv_at hl 4 rfl) ?_
                  refine lv_iload X.ex X.co dL_areMasteries_345 (lv_at hl 5 rfl) ?_
                  refine k_call (n := 4) X mn_40 m_0 mn_39 ⟨by decide, by decide, by decide +kernel⟩ (by decide) mn_38 (c_L_ask_2 l hst G A hAg b σ W0.1.1.1.1 W0.1.1.1.2 W0.1.1.2 (nI u) (nI x)) (g0.step hS hAg) W0 hdis (lsq_re W0.1.1.2 _ _) W0.1 ((q_re W0.1 (show u < nSt σ by omega) (show x < nEx σ by omega)).trans hw) (by omega) rfl hl.1 rfl (Nat.le_of_ble_eq_true rfl) dL_areMasteries_347 (by omega) (by omega) hS (fun q h => h) (fun H locs W0 hz hk9 hS => ?_)
                  refine lv_bipush (v := 100) X.ex X.co dL_areMasteries_350 (by decide) ?_
                  refine lv_icmp_eq (tgt := 381) X.ex X.co dL_areMasteries_352 (by decide) (fun c_22 => ?_) (fun c_22 => ?_)
                  · exact absurd c_22 (by decide)
                  · refine lv_aload_n X.ex X.co dL_areMasteries_355 rfl (lv_at hl 1 rfl) ?_
                    refine lv_iconst (v := 2) X.ex X.co dL_areMasteries_356 (by decide) ?_
                    refine lv_iload_n X.ex X.co dL_areMasteries_357 rfl (lv_at hl 4 rfl) ?_
                    refine lv_iload X.ex X.co dL_areMasteries_358 (lv_at hl 5 rfl) ?_
                    refine k_call (n := 4) X mn_40 m_0 mn_39 ⟨by decide, by decide, by decide +kernel⟩ (by decide) mn_38 (c_L_ask_2 l hst G A hAg b σ W0.1.1.1.1 W0.1.1.1.2 W0.1.1.2 (nI u) (nI x)) (g0.step hS hAg) W0 hdis (lsq_re W0.1.1.2 _ _) W0.1 ((q_re W0.1 (show u < nSt σ by omega) (show x < nEx σ by omega)).trans hw) (by omega) rfl hl.1 rfl (Nat.le_of_ble_eq_true rfl) dL_areMasteries_360 (by omega) (by omega) hS (fun q h => h) (fun H locs W0 hz hk9 hS => ?_)
                    refine lv_bipush (v := 99) X.ex X.co dL_areMasteries_363 (by decide) ?_
                    refine lv_icmp_eq (tgt := 381) X.ex X.co dL_areMasteries_365 (by decide) (fun c_23 => ?_) (fun c_23 => ?_)
                    · refine lv_iconst (v := 1) X.ex X.co dL_areMasteries_381 (by decide) ?_
                      refine lv_goto (tgt := 386) X.ex X.co dL_areMasteries_382 (by decide) ?_
                      refine lv_istore_n (lv' := [(2, .int 1), (6, .int (nI z)), (0, .ref b), (1, .ref (oad (0, 0))), (3, .int (nI u)), (5, .int (nI x))]) X.ex X.co dL_areMasteries_386 rfl hl (by decide) rfl (fun ls hl => ?_)
                      refine lv_iinc (v := nI (x + 1)) (lv' := [(5, .int (nI (x + 1))), (2, .int 1), (6, .int (nI z)), (0, .ref b), (1, .ref (oad (0, 0))), (3, .int (nI u))]) X.ex X.co dL_areMasteries_387 hl (k := 5) rfl (n_inc _) (by decide) rfl (fun ls hl => ?_)
                      refine lv_goto (tgt := 285) X.ex X.co dL_areMasteries_390 (by decide) ?_
                      exact ih (x + 1) (by omega) H locs ls _ _ W0 hS (lv_sub hl [3, 4, 1, 5, 0] rfl) (by omega) (by omega)
                    · exact absurd (by decide) c_23
              · refine lv_aload_n X.ex X.co dL_areMasteries_329 rfl (lv_at hl 1 rfl) ?_
                refine lv_iconst (v := 2) X.ex X.co dL_areMasteries_330 (by decide) ?_
                refine lv_iload_n X.ex X.co dL_areMasteries_331 rfl (lv_at hl 4 rfl) ?_
                refine lv_iload X.ex X.co dL_areMasteries_332 (lv_at hl 5 rfl) ?_
                refine k_call (n := 4) X mn_40 m_0 mn_39 ⟨by decide, by decide, by decide +kernel⟩ (by decide) mn_38 (c_L_ask_2 l hst G A hAg b σ W0.1.1.1.1 W0.1.1.1.2 W0.1.1.2 (nI u) (nI x)) (g0.step hS hAg) W0 hdis (lsq_re W0.1.1.2 _ _) W0.1 ((q_re W0.1 (show u < nSt σ by omega) (show x < nEx σ by omega)).trans hw) (by omega) rfl hl.1 rfl (Nat.le_of_ble_eq_true rfl) dL_areMasteries_334 (by omega) (by omega) hS (fun q h => h) (fun H locs W0 hz hk9 hS => ?_)
                refine lv_bipush (v := 45) X.ex X.co dL_areMasteries_337 (by decide) ?_
                refine lv_icmp_eq (tgt := 381) X.ex X.co dL_areMasteries_339 (by decide) (fun c_24 => ?_) (fun c_24 => ?_)
                · exact absurd c_24 (by decide)
                · refine lv_aload_n X.ex X.co dL_areMasteries_342 rfl (lv_at hl 1 rfl) ?_
                  refine lv_iconst (v := 2) X.ex X.co dL_areMasteries_343 (by decide) ?_
                  refine lv_iload_n X.ex X.co dL_areMasteries_344 rfl (lv_at hl 4 rfl) ?_
                  refine lv_iload X.ex X.co dL_areMasteries_345 (lv_at hl 5 rfl) ?_
                  refine k_call (n := 4) X mn_40 m_0 mn_39 ⟨by decide, by decide, by decide +kernel⟩ (by decide) mn_38 (c_L_ask_2 l hst G A hAg b σ W0.1.1.1.1 W0.1.1.1.2 W0.1.1.2 (nI u) (nI x)) (g0.step hS hAg) W0 hdis (lsq_re W0.1.1.2 _ _) W0.1 ((q_re W0.1 (show u < nSt σ by omega) (show x < nEx σ by omega)).trans hw) (by omega) rfl hl.1 rfl (Nat.le_of_ble_eq_true rfl) dL_areMasteries_347 (by omega) (by omega) hS (fun q h => h) (fun H locs W0 hz hk9 hS => ?_)
                  refine lv_bipush (v := 100) X.ex X.co dL_areMasteries_350 (by decide) ?_
                  refine lv_icmp_eq (tgt := 381) X.ex X.co dL_areMasteries_352 (by decide) (fun c_25 => ?_) (fun c_25 => ?_)
                  · exact absurd c_25 (by decide)
                  · refine lv_aload_n X.ex X.co dL_areMasteries_355 rfl (lv_at hl 1 rfl) ?_
                    refine lv_iconst (v := 2) X.ex X.co dL_areMasteries_356 (by decide) ?_
                    refine lv_iload_n X.ex X.co dL_areMasteries_357 rfl (lv_at hl 4 rfl) ?_
                    refine lv_iload X.ex X.co dL_areMasteries_358 (lv_at hl 5 rfl) ?_
                    refine k_call (n := 4) X mn_40 m_0 mn_39 ⟨by decide, by decide, by decide +kernel⟩ (by decide) mn_38 (c_L_ask_2 l hst G A hAg b σ W0.1.1.1.1 W0.1.1.1.2 W0.1.1.2 (nI u) (nI x)) (g0.step hS hAg) W0 hdis (lsq_re W0.1.1.2 _ _) W0.1 ((q_re W0.1 (show u < nSt σ by omega) (show x < nEx σ by omega)).trans hw) (by omega) rfl hl.1 rfl (Nat.le_of_ble_eq_true rfl) dL_areMasteries_360 (by omega) (by omega) hS (fun q h => h) (fun H locs W0 hz hk9 hS => ?_)
                    refine lv_bipush (v := 99) X.ex X.co dL_areMasteries_363 (by decide) ?_
                    refine lv_icmp_eq (tgt := 381) X.ex X.co dL_areMasteries_365 (by decide) (fun c_26 => ?_) (fun c_26 => ?_)
                    · exact absurd c_26 (by decide)
                    · refine lv_aload_n X.ex X.co dL_areMasteries_368 rfl (lv_at hl 1 rfl) ?_
                      refine lv_iconst (v := 2) X.ex X.co dL_areMasteries_369 (by decide) ?_
                      refine lv_iload_n X.ex X.co dL_areMasteries_370 rfl (lv_at hl 4 rfl) ?_
                      refine lv_iload X.ex X.co dL_areMasteries_371 (lv_at hl 5 rfl) ?_
                      refine k_call (n := 4) X mn_40 m_0 mn_39 ⟨by decide, by decide, by decide +kernel⟩ (by decide) mn_38 (c_L_ask_2 l hst G A hAg b σ W0.1.1.1.1 W0.1.1.1.2 W0.1.1.2 (nI u) (nI x)) (g0.step hS hAg) W0 hdis (lsq_re W0.1.1.2 _ _) W0.1 ((q_re W0.1 (show u < nSt σ by omega) (show x < nEx σ by omega)).trans hw) (by omega) rfl hl.1 rfl (Nat.le_of_ble_eq_true rfl) dL_areMasteries_373 (by omega) (by omega) hS (fun q h => h) (fun H locs W0 hz hk9 hS => ?_)
                      refine lv_bipush (v := 112) X.ex X.co dL_areMasteries_376 (by decide) ?_
                      refine lv_icmp_ne (tgt := 385) X.ex X.co dL_areMasteries_378 (by decide) (fun c_27 => ?_) (fun c_27 => ?_)
                      · exact absurd (by decide) c_27
                      · refine lv_iconst (v := 1) X.ex X.co dL_areMasteries_381 (by decide) ?_
                        refine lv_goto (tgt := 386) X.ex X.co dL_areMasteries_382 (by decide) ?_
                        refine lv_istore_n (lv' := [(2, .int 1), (6, .int (nI z)), (0, .ref b), (1, .ref (oad (0, 0))), (3, .int (nI u)), (5, .int (nI x))]) X.ex X.co dL_areMasteries_386 rfl hl (by decide) rfl (fun ls hl => ?_)
                        refine lv_iinc (v := nI (x + 1)) (lv' := [(5, .int (nI (x + 1))), (2, .int 1), (6, .int (nI z)), (0, .ref b), (1, .ref (oad (0, 0))), (3, .int (nI u))]) X.ex X.co dL_areMasteries_387 hl (k := 5) rfl (n_inc _) (by decide) rfl (fun ls hl => ?_)
                        refine lv_goto (tgt := 285) X.ex X.co dL_areMasteries_390 (by decide) ?_
                        exact ih (x + 1) (by omega) H locs ls _ _ W0 hS (lv_sub hl [3, 4, 1, 5, 0] rfl) (by omega) (by omega)
set_option maxHeartbeats 4000000 in
set_option maxRecDepth 100000 in
theorem am_s (hst : l.stackTraces = false) (hAg : ∀ q, A q → gA G q) (hdis : ∀ q, A q → ¬ AO q) (X : CF p s m args meth c cL_areMasteries 10 "CourseForgeLaw" (some .boolean)) (g0 : GG G s s.heap) (hR9 : 13 ≤ hR) (hd9 : d ≤ 1000)  (c0 s0 : Nat) (hrc : c0 + 2408 ≤ rc) (hrs : s0 + 11664 ≤ rs) (kend : ∀ (H : Heap) (locs : List Loc) (ls : Array Slot) (cells slots : Nat), LW G A AO b d σ oad (mR σ) wf H → va_S A s.heap H locs → lv_has ls 10 [(0, .ref b), (1, .ref (oad (0, 0))), (2, .int 1), (3, .int (nI (nSt σ)))] → cells ≤ c0 + 2408 → slots ≤ s0 + 11664 → W p l e (RM hR rc rs) s m args below meth c H locs cells slots Q (F0 m 399 ls [])) :
    ∀ (n u : Nat), u + n = nSt σ → ∀ (H : Heap) (locs : List Loc) (ls : Array Slot) (cells slots : Nat), LW G A AO b d σ oad (mR σ) wf H → va_S A s.heap H locs → lv_has ls 10 [(0, .ref b), (1, .ref (oad (0, 0))), (2, .int 1), (3, .int (nI u))] → cells ≤ c0 + 301 * u → slots ≤ s0 + 1458 * u → W p l e (RM hR rc rs) s m args below meth c H locs cells slots Q (F0 m 55 ls []) := by
  intro n
  induction n with
  | zero =>
    intro u ha H locs ls cells slots W0 hS hl hc hs
    have hb := W0.1.1.1.1.1.1
    refine lv_iload_n X.ex X.co dL_areMasteries_55 rfl (lv_at hl 3 rfl) ?_
    refine lv_aload_n X.ex X.co dL_areMasteries_56 rfl (lv_at hl 1 rfl) ?_
    refine lv_iconst (v := 1) X.ex X.co dL_areMasteries_57 (by decide) ?_
    refine k_ml X g0.1 W0.2.2.2 1 (by omega) (mR_1 σ) dL_areMasteries_58 ?_
    refine n_cmp_ge X (x := u) (y := nSt σ) (tgt := 399) (by omega) (by omega) dL_areMasteries_59 (by decide) (fun c_1 => ?_) (fun c_1 => ?_)
    · rw [show u = nSt σ by omega] at hl
      exact kend H locs ls _ _ W0 hS (lv_sub hl [0, 1, 2, 3] rfl) (by omega) (by omega)
    · exact absurd c_1 (by omega)
  | succ n ih =>
    intro u ha H locs ls cells slots W0 hS hl hc hs
    have hb := W0.1.1.1.1.1.1
    have hop := opnS_b σ u (nLe σ)
    refine lv_iload_n X.ex X.co dL_areMasteries_55 rfl (lv_at hl 3 rfl) ?_
    refine lv_aload_n X.ex X.co dL_areMasteries_56 rfl (lv_at hl 1 rfl) ?_
    refine lv_iconst (v := 1) X.ex X.co dL_areMasteries_57 (by decide) ?_
    refine k_ml X g0.1 W0.2.2.2 1 (by omega) (mR_1 σ) dL_areMasteries_58 ?_
    refine n_cmp_ge X (x := u) (y := nSt σ) (tgt := 399) (by omega) (by omega) dL_areMasteries_59 (by decide) (fun c_1 => ?_) (fun c_1 => ?_)
    · exact absurd c_1 (by omega)
    · refine lv_iload_n X.ex X.co dL_areMasteries_62 rfl (lv_at hl 2 rfl) ?_
      refine lv_if_eq (tgt := 399) X.ex X.co dL_areMasteries_63 (by decide) (fun c_2 => ?_) (fun c_2 => ?_)
      · exact absurd c_2 (by decide)
      · refine lv_aload_n X.ex X.co dL_areMasteries_66 rfl (lv_at hl 0 rfl) ?_
        refine lv_iconst (v := 1) X.ex X.co dL_areMasteries_67 (by decide) ?_
        refine lv_iload_n X.ex X.co dL_areMasteries_68 rfl (lv_at hl 3 rfl) ?_
        refine lv_iconst (v := 0) X.ex X.co dL_areMasteries_69 (by decide) ?_
        refine k_call (n := 4) X mn_40 m_0 mn_39 ⟨by decide, by decide, by decide +kernel⟩ (by decide) mn_38 (c_L_ask_1 l hst G A hAg b σ W0.1.1.1.1 W0.1.1.1.2 W0.1.1.2 (nI u) 0) (g0.step hS hAg) W0 hdis (lsq_op W0.1.1.2 _) W0.1 (q_op W0.1 (show u < nSt σ by omega)) (by omega) rfl hl.1 rfl (Nat.le_of_ble_eq_true rfl) dL_areMasteries_70 (by omega) (by omega) hS (fun q h => h) (fun H locs W0 hz hk9 hS => ?_)
        refine lv_istore (lv' := [(4, .int (nI (opnS σ u (nLe σ)))), (0, .ref b), (1, .ref (oad (0, 0))), (2, .int 1), (3, .int (nI u))]) X.ex X.co dL_areMasteries_73 hl (by decide) rfl (fun ls hl => ?_)
        refine lv_iload X.ex X.co dL_areMasteries_75 (lv_at hl 0 rfl) ?_
        refine n_if_lt X (x := opnS σ u (nLe σ)) (tgt := 92) (by omega) dL_areMasteries_77 (by decide) (fun c_3 => ?_) (fun c_3 => ?_)
        · exact c_3.elim
        · refine lv_iload X.ex X.co dL_areMasteries_80 (lv_at hl 0 rfl) ?_
          refine lv_aload_n X.ex X.co dL_areMasteries_82 rfl (lv_at hl 2 rfl) ?_
          refine lv_iconst (v := 2) X.ex X.co dL_areMasteries_83 (by decide) ?_
          refine k_ml X g0.1 W0.2.2.2 2 (by omega) (mR_2 σ) dL_areMasteries_84 ?_
          refine n_cmp_gt X (x := opnS σ u (nLe σ)) (y := nLe σ) (tgt := 92) (by omega) (by omega) dL_areMasteries_85 (by decide) (fun c_4 => ?_) (fun c_4 => ?_)
          · exact absurd c_4 (by omega)
          · refine lv_iconst (v := 1) X.ex X.co dL_areMasteries_88 (by decide) ?_
            refine lv_goto (tgt := 93) X.ex X.co dL_areMasteries_89 (by decide) ?_
            refine lv_istore_n (lv' := [(2, .int 1), (4, .int (nI (opnS σ u (nLe σ)))), (0, .ref b), (1, .ref (oad (0, 0))), (3, .int (nI u))]) X.ex X.co dL_areMasteries_93 rfl hl (by decide) rfl (fun ls hl => ?_)
            refine lv_iconst (v := 0) X.ex X.co dL_areMasteries_94 (by decide) ?_
            refine lv_istore (lv' := [(5, .int 0), (2, .int 1), (4, .int (nI (opnS σ u (nLe σ)))), (0, .ref b), (1, .ref (oad (0, 0))), (3, .int (nI u))]) X.ex X.co dL_areMasteries_95 hl (by decide) rfl (fun ls hl => ?_)
            refine am_l hst hAg hdis X g0 hR9 hd9 u (show u < nSt σ by omega) (cells + 1) (slots + 6) (by omega) (by omega) (fun H locs ls cells1 slots1 W0 hS hl hc1 hs1 => ?_) (nLe σ) 0 (by omega) H locs ls _ _ W0 hS (lv_sub hl [3, 4, 1, 5, 0] rfl) (by omega) (by omega)
            refine lv_iconst (v := 0) X.ex X.co dL_areMasteries_282 (by decide) ?_
            refine lv_istore (lv' := [(5, .int 0), (0, .ref b), (1, .ref (oad (0, 0))), (2, .int 1), (3, .int (nI u))]) X.ex X.co dL_areMasteries_283 hl (by decide) rfl (fun ls hl => ?_)
            refine am_e hst hAg hdis X g0 hR9 hd9 u (show u < nSt σ by omega) (cells + 1 + 216) (slots + 6 + 984) (by omega) (by omega) (fun H locs ls cells2 slots2 W0 hS hl hc2 hs2 => ?_) (nEx σ) 0 (by omega) H locs ls _ _ W0 hS (lv_sub hl [1, 2, 3, 4, 0] rfl) (by omega) (by omega)
            refine lv_iinc (v := nI (u + 1)) (lv' := [(3, .int (nI (u + 1))), (0, .ref b), (1, .ref (oad (0, 0))), (2, .int 1), (5, .int (nI (nEx σ)))]) X.ex X.co dL_areMasteries_393 hl (k := 3) rfl (n_inc _) (by decide) rfl (fun ls hl => ?_)
            refine lv_goto (tgt := 55) X.ex X.co dL_areMasteries_396 (by decide) ?_
            exact ih (u + 1) (by omega) H locs ls _ _ W0 hS (lv_sub hl [1, 2, 3, 0] rfl) (by omega) (by omega)
set_option maxHeartbeats 4000000 in
set_option maxRecDepth 100000 in
theorem c_L_areMasteries (l : Launch) (hst : l.stackTraces = false) (G : GT) (A AO : Nat → Prop) (hAg : ∀ q, A q → gA G q) (hdis : ∀ q, A q → ¬ AO q) (b d : Nat) (σ : Sg) (oad : I2 → Nat) (wf : Nat → Int32) (hd9 : d ≤ 1000) : cM l yL_areMasteries cL_areMasteries 10 (some .boolean) 13 2500 12000 G [.ref b, .ref (oad (0, 0))] (fun H => LW G A AO b d σ oad (mR σ) wf H) (fun v H => v = some (.int 1) ∧ LW G A AO b d σ oad (mR σ) wf H) A := by
  refine mk_m (by decide) (Nat.le_of_ble_eq_true rfl) ?_
  intro p e s m args below meth c X ls hl g0 W0 hnm
  have hS : va_S A s.heap s.heap [] := va_S.rf
  have hb := W0.1.1.1.1.1.1
  have hl : lv_has ls 10 [(0, .ref b), (1, .ref (oad (0, 0)))] := hl
  show W p l e (RM 13 2500 12000) s m args below meth c s.heap [] 0 0 (MQ below (cQ (fun v H => v = some (.int 1) ∧ LW G A AO b d σ oad (mR σ) wf H) A) args s 2500 12000 A) (F0 m 0 ls [])
  refine lv_aload_n X.ex X.co dL_areMasteries_0 rfl (lv_at hl 0 rfl) ?_
  refine lv_bipush (v := 9) X.ex X.co dL_areMasteries_1 (by decide) ?_
  refine lv_aload_n X.ex X.co dL_areMasteries_3 rfl (lv_at hl 1 rfl) ?_
  refine lv_iconst (v := 1) X.ex X.co dL_areMasteries_4 (by decide) ?_
  refine k_ml X g0.1 W0.2.2.2 1 (by omega) (mR_1 σ) dL_areMasteries_5 ?_
  refine lv_iconst (v := 0) X.ex X.co dL_areMasteries_6 (by decide) ?_
  refine k_call (n := 4) X mn_40 m_0 mn_39 ⟨by decide, by decide, by decide +kernel⟩ (by decide) mn_38 (c_L_ask_9 l hst G A hAg b σ W0.1.1.1.1 W0.1.1.1.2 W0.1.1.2 (nI (nSt σ)) 0) (g0.step hS hAg) W0 hdis (lsq_ma W0.1.1.2 _ _) W0.1 (q_ma8 W0.1 _) (by omega) rfl hl.1 rfl (Nat.le_of_ble_eq_true rfl) dL_areMasteries_7 (by omega) (by omega) hS (fun q h => h) (fun H locs W0 hz hk9 hS => ?_)
  refine lv_sipush (v := (-2001)) X.ex X.co dL_areMasteries_10 (by decide) ?_
  refine lv_icmp_ne (tgt := 51) X.ex X.co dL_areMasteries_13 (by decide) (fun c_1 => ?_) (fun c_1 => ?_)
  · exact absurd (by decide) c_1
  · refine lv_aload_n X.ex X.co dL_areMasteries_16 rfl (lv_at hl 0 rfl) ?_
    refine lv_bipush (v := 9) X.ex X.co dL_areMasteries_17 (by decide) ?_
    refine lv_iconst (v := 0) X.ex X.co dL_areMasteries_19 (by decide) ?_
    refine lv_aload_n X.ex X.co dL_areMasteries_20 rfl (lv_at hl 1 rfl) ?_
    refine lv_iconst (v := 2) X.ex X.co dL_areMasteries_21 (by decide) ?_
    refine k_ml X g0.1 W0.2.2.2 2 (by omega) (mR_2 σ) dL_areMasteries_22 ?_
    refine k_call (n := 4) X mn_40 m_0 mn_39 ⟨by decide, by decide, by decide +kernel⟩ (by decide) mn_38 (c_L_ask_9 l hst G A hAg b σ W0.1.1.1.1 W0.1.1.1.2 W0.1.1.2 0 (nI (nLe σ))) (g0.step hS hAg) W0 hdis (lsq_ma W0.1.1.2 _ _) W0.1 (q_ma9 W0.1 _) (by omega) rfl hl.1 rfl (Nat.le_of_ble_eq_true rfl) dL_areMasteries_23 (by omega) (by omega) hS (fun q h => h) (fun H locs W0 hz hk9 hS => ?_)
    refine lv_sipush (v := (-2001)) X.ex X.co dL_areMasteries_26 (by decide) ?_
    refine lv_icmp_ne (tgt := 51) X.ex X.co dL_areMasteries_29 (by decide) (fun c_2 => ?_) (fun c_2 => ?_)
    · exact absurd (by decide) c_2
    · refine lv_aload_n X.ex X.co dL_areMasteries_32 rfl (lv_at hl 0 rfl) ?_
      refine lv_iconst (v := 1) X.ex X.co dL_areMasteries_33 (by decide) ?_
      refine lv_aload_n X.ex X.co dL_areMasteries_34 rfl (lv_at hl 1 rfl) ?_
      refine lv_iconst (v := 1) X.ex X.co dL_areMasteries_35 (by decide) ?_
      refine k_ml X g0.1 W0.2.2.2 1 (by omega) (mR_1 σ) dL_areMasteries_36 ?_
      refine lv_iconst (v := 0) X.ex X.co dL_areMasteries_37 (by decide) ?_
      refine k_call (n := 4) X mn_40 m_0 mn_39 ⟨by decide, by decide, by decide +kernel⟩ (by decide) mn_38 (c_L_ask_1 l hst G A hAg b σ W0.1.1.1.1 W0.1.1.1.2 W0.1.1.2 (nI (nSt σ)) 0) (g0.step hS hAg) W0 hdis (lsq_op W0.1.1.2 _) W0.1 (q_op9 W0.1) (by omega) rfl hl.1 rfl (Nat.le_of_ble_eq_true rfl) dL_areMasteries_38 (by omega) (by omega) hS (fun q h => h) (fun H locs W0 hz hk9 hS => ?_)
      refine lv_sipush (v := (-2001)) X.ex X.co dL_areMasteries_41 (by decide) ?_
      refine lv_icmp_ne (tgt := 51) X.ex X.co dL_areMasteries_44 (by decide) (fun c_3 => ?_) (fun c_3 => ?_)
      · exact absurd (by decide) c_3
      · refine lv_iconst (v := 1) X.ex X.co dL_areMasteries_47 (by decide) ?_
        refine lv_goto (tgt := 52) X.ex X.co dL_areMasteries_48 (by decide) ?_
        refine lv_istore_n (lv' := [(2, .int 1), (0, .ref b), (1, .ref (oad (0, 0)))]) X.ex X.co dL_areMasteries_52 rfl hl (by decide) rfl (fun ls hl => ?_)
        refine lv_iconst (v := 0) X.ex X.co dL_areMasteries_53 (by decide) ?_
        refine lv_istore_n (lv' := [(3, .int 0), (2, .int 1), (0, .ref b), (1, .ref (oad (0, 0)))]) X.ex X.co dL_areMasteries_54 rfl hl (by decide) rfl (fun ls hl => ?_)
        refine am_s hst hAg hdis X g0 (by omega) hd9 5 24 (by omega) (by omega) (fun H locs ls cells1 slots1 W0 hS hl hc1 hs1 => ?_) (nSt σ) 0 (by omega) H locs ls _ _ W0 hS (lv_sub hl [2, 3, 1, 0] rfl) (by omega) (by omega)
        refine lv_iload_n X.ex X.co dL_areMasteries_399 rfl (lv_at hl 2 rfl) ?_
        exact c_i X hS rfl rfl ⟨rfl, W0⟩ (by omega) (by omega) dL_areMasteries_400
end MASTERIES
