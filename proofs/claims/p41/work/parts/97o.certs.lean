/-! ===== areCertificates ===== -/
def WF (σ : Sg) (wf : Nat → Int32) : Prop := ∀ c, ¬ wf c = 0 → c < nCe σ ∧ ¬ σ.2 41 c = 0
theorem WF_up {σ : Sg} {wf : Nat → Int32} (h : WF σ wf) {x : Nat} {v : Int32} (hv : ¬ v = 0 → x < nCe σ ∧ ¬ σ.2 41 x = 0) : WF σ (upd wf x v) := fun c hc => by
  by_cases q : c = x
  · subst q
    rw [pk_us] at hc
    exact hv hc
  · rw [pk_un q] at hc
    exact h c hc
theorem w_fcmp {p : Program} {l : Launch} {e : Env} {R : Room} {s : State} {m : MethodId} {args : Array Value} {below : List Frame} {meth : Method} {c : Code} {H : Heap} {locs : List Loc} {cells slots : Nat} {Q : State → Prop} {cc : ByteArray} {pc nL : Nat} {ls : Array Slot} {rest : List Value} {own : String} {ret : Option FieldType} (X : CF p s m args meth c cc nL own ret) {x : UInt32} {op : CmpOp} (hx : FP.Core.fIsNaN x = false) (hdg : decode cc pc = .ok (.fcmp op, 1))
    (k : W p l e R s m args below meth c H locs cells slots Q (F0 m (pc + 1) ls (.int 0 :: rest))) : W p l e R s m args below meth c H locs cells slots Q (F0 m pc ls (.float x :: .float x :: rest)) := by
  refine lv_fcmp X.ex X.co hdg ?_
  have h1 : FP.fcmp x x = some .eq := FP.Core.fcmp_refl hx
  rw [h1]
  exact k
section CERTS
variable {p : Program} {l : Launch} {e : Env} {hR rc rs : Nat} {s : State} {m : MethodId} {args : Array Value} {below : List Frame} {meth : Method} {c : Code} {H : Heap} {locs : List Loc} {cells slots : Nat} {Q : State → Prop}
variable {G : GT} {A AO : Nat → Prop} {b d : Nat} {σ : Sg} {oad : I2 → Nat} {wf : Nat → Int32} {ls : Array Slot}
set_option maxHeartbeats 4000000 in
set_option maxRecDepth 100000 in
theorem ac_c (hst : l.stackTraces = false) (hAg : ∀ q, A q → gA G q) (hdis : ∀ q, A q → ¬ AO q) (X : CF p s m args meth c cL_areCertificates 8 "CourseForgeLaw" (some .boolean)) (g0 : GG G s s.heap) (hR9 : 13 ≤ hR) (hd9 : d ≤ 1000) (hA2 : ∀ q, (fun q => A q ∨ AO q) q → gA G q)  (c0 s0 : Nat) (hrc : c0 + 30 ≤ rc) (hrs : s0 + 180 ≤ rs) (kend : ∀ (wf : Nat → Int32), WF σ wf → ∀ (H : Heap) (locs : List Loc) (ls : Array Slot) (cells slots : Nat), LW G A AO b d σ oad (mR σ) wf H → va_S (fun q => A q ∨ AO q) s.heap H locs → lv_has ls 8 [(0, .ref b), (1, .ref (oad (0, 0))), (2, .ref (oad (0, 1))), (3, .int (nI (revS σ (nCe σ)))), (4, .int 1), (5, .int (nI (nCe σ)))] → cells ≤ c0 + 30 → slots ≤ s0 + 180 → W p l e (RM hR rc rs) s m args below meth c H locs cells slots Q (F0 m 114 ls [])) :
    ∀ (n x : Nat), x + n = nCe σ → ∀ (wf : Nat → Int32), WF σ wf → ∀ (H : Heap) (locs : List Loc) (ls : Array Slot) (cells slots : Nat), LW G A AO b d σ oad (mR σ) wf H → va_S (fun q => A q ∨ AO q) s.heap H locs → lv_has ls 8 [(0, .ref b), (1, .ref (oad (0, 0))), (2, .ref (oad (0, 1))), (3, .int (nI (revS σ x))), (4, .int 1), (5, .int (nI x))] → cells ≤ c0 + 1 * x → slots ≤ s0 + 6 * x → W p l e (RM hR rc rs) s m args below meth c H locs cells slots Q (F0 m 44 ls []) := by
  intro n
  induction n with
  | zero =>
    intro x ha wf hwf H locs ls cells slots W0 hS hl hc hs
    have hb := W0.1.1.1.1.1.1
    refine lv_iload X.ex X.co dL_areCertificates_44 (lv_at hl 5 rfl) ?_
    refine lv_aload_n X.ex X.co dL_areCertificates_46 rfl (lv_at hl 1 rfl) ?_
    refine lv_iconst (v := 5) X.ex X.co dL_areCertificates_47 (by decide) ?_
    refine k_ml X g0.1 W0.2.2.2 5 (by omega) (mR_5 σ) dL_areCertificates_48 ?_
    refine n_cmp_ge X (x := x) (y := nCe σ) (tgt := 114) (by omega) (by omega) dL_areCertificates_49 (by decide) (fun c_1 => ?_) (fun c_1 => ?_)
    · rw [show x = nCe σ by omega] at hl
      exact kend wf hwf H locs ls _ _ W0 hS (lv_sub hl [0, 1, 2, 3, 4, 5] rfl) (by omega) (by omega)
    · exact absurd c_1 (by omega)
  | succ n ih =>
    intro x ha wf hwf H locs ls cells slots W0 hS hl hc hs
    have hb := W0.1.1.1.1.1.1
    have hrb := revS_b σ x
    by_cases hzc : σ.2 41 x = 0
    · refine lv_iload X.ex X.co dL_areCertificates_44 (lv_at hl 5 rfl) ?_
      refine lv_aload_n X.ex X.co dL_areCertificates_46 rfl (lv_at hl 1 rfl) ?_
      refine lv_iconst (v := 5) X.ex X.co dL_areCertificates_47 (by decide) ?_
      refine k_ml X g0.1 W0.2.2.2 5 (by omega) (mR_5 σ) dL_areCertificates_48 ?_
      refine n_cmp_ge X (x := x) (y := nCe σ) (tgt := 114) (by omega) (by omega) dL_areCertificates_49 (by decide) (fun c_1 => ?_) (fun c_1 => ?_)
      · exact absurd c_1 (by omega)
      · refine lv_iload X.ex X.co dL_areCertificates_52 (lv_at hl 4 rfl) ?_
        refine lv_if_eq (tgt := 114) X.ex X.co dL_areCertificates_54 (by decide) (fun c_2 => ?_) (fun c_2 => ?_)
        · exact absurd c_2 (by decide)
        · refine lv_aload_n X.ex X.co dL_areCertificates_57 rfl (lv_at hl 0 rfl) ?_
          refine lv_bipush (v := 13) X.ex X.co dL_areCertificates_58 (by decide) ?_
          refine lv_iload X.ex X.co dL_areCertificates_60 (lv_at hl 5 rfl) ?_
          refine lv_iconst (v := 0) X.ex X.co dL_areCertificates_62 (by decide) ?_
          refine k_call (n := 4) X mn_40 m_0 mn_39 ⟨by decide, by decide, by decide +kernel⟩ (by decide) mn_38 (c_L_ask_13 l hst G A hAg b σ W0.1.1.1.1 W0.1.1.1.2 W0.1.1.2 (nI x) 0) (g0.step hS hA2) W0 hdis (lsq_ds W0.1.1.2 _) W0.1 ((q_ds W0.1 (show x < nCe σ by omega)).trans (by rw [decide_eq_true hzc])) (by omega) rfl hl.1 rfl (Nat.le_of_ble_eq_true rfl) dL_areCertificates_63 (by omega) (by omega) hS (fun q h => Or.inl h) (fun H locs W0 hz hk9 hS => ?_)
          refine lv_istore (lv' := [(6, .int 1), (0, .ref b), (1, .ref (oad (0, 0))), (2, .ref (oad (0, 1))), (3, .int (nI (revS σ x))), (4, .int 1), (5, .int (nI x))]) X.ex X.co dL_areCertificates_66 hl (by decide) rfl (fun ls hl => ?_)
          refine lv_aload_n X.ex X.co dL_areCertificates_68 rfl (lv_at hl 3 rfl) ?_
          refine lv_iload X.ex X.co dL_areCertificates_69 (lv_at hl 6 rfl) ?_
          refine k_wl X g0.1 W0.2.2.2 x (by omega) rfl dL_areCertificates_71 ?_
          refine lv_if_eq (tgt := 80) X.ex X.co dL_areCertificates_72 (by decide) (fun c_3 => ?_) (fun c_3 => ?_)
          · refine lv_iconst (v := 1) X.ex X.co dL_areCertificates_80 (by decide) ?_
            refine lv_goto (tgt := 85) X.ex X.co dL_areCertificates_81 (by decide) ?_
            refine lv_istore (lv' := [(4, .int 1), (6, .int 1), (0, .ref b), (1, .ref (oad (0, 0))), (2, .ref (oad (0, 1))), (3, .int (nI (revS σ x))), (5, .int (nI x))]) X.ex X.co dL_areCertificates_85 hl (by decide) rfl (fun ls hl => ?_)
            refine lv_aload_n X.ex X.co dL_areCertificates_87 rfl (lv_at hl 4 rfl) ?_
            refine lv_iload X.ex X.co dL_areCertificates_88 (lv_at hl 6 rfl) ?_
            refine lv_iload X.ex X.co dL_areCertificates_90 (lv_at hl 1 rfl) ?_
            refine lv_if_ne (tgt := 99) X.ex X.co dL_areCertificates_92 (by decide) (fun c_4 => ?_) (fun c_4 => ?_)
            · refine lv_iconst (v := 0) X.ex X.co dL_areCertificates_99 (by decide) ?_
              refine k_ws X g0.1 W0 hdis hS (fun q h => Or.inr h) x (by omega) (v := 0) (by decide) dL_areCertificates_100 (fun H locs W0 hS => ?_)
              refine lv_iload_n X.ex X.co dL_areCertificates_101 rfl (lv_at hl 5 rfl) ?_
              refine lv_iconst (v := 1) X.ex X.co dL_areCertificates_102 (by decide) ?_
              refine lv_iload X.ex X.co dL_areCertificates_103 (lv_at hl 1 rfl) ?_
              refine lv_isub X.ex X.co dL_areCertificates_105 (top_eq (y := 0) (by decide) ?_)
              refine n_add X (x := revS σ x) (y := 0) dL_areCertificates_106 ?_
              refine lv_istore_n (lv' := [(3, .int (nI ((revS σ x) + 0))), (4, .int 1), (6, .int 1), (0, .ref b), (1, .ref (oad (0, 0))), (2, .ref (oad (0, 1))), (5, .int (nI x))]) X.ex X.co dL_areCertificates_107 rfl hl (by decide) rfl (fun ls hl => ?_)
              refine lv_iinc (v := nI (x + 1)) (lv' := [(5, .int (nI (x + 1))), (3, .int (nI ((revS σ x) + 0))), (4, .int 1), (6, .int 1), (0, .ref b), (1, .ref (oad (0, 0))), (2, .ref (oad (0, 1)))]) X.ex X.co dL_areCertificates_108 hl (k := 6) rfl (n_inc _) (by decide) rfl (fun ls hl => ?_)
              refine lv_goto (tgt := 44) X.ex X.co dL_areCertificates_111 (by decide) ?_
              have hr9 : revS σ (x + 1) = (revS σ x) + 0 := by simp [revS, hzc]
              exact ih (x + 1) (by omega) (upd wf x 0) (WF_up hwf (fun z => absurd rfl z)) H locs ls _ _ W0 hS (by rw [hr9]; exact lv_sub hl [4, 5, 6, 1, 2, 0] rfl) (by omega) (by omega)
            · exact absurd c_4 (by decide)
          · exact absurd hzc (hwf x c_3).2
    · refine lv_iload X.ex X.co dL_areCertificates_44 (lv_at hl 5 rfl) ?_
      refine lv_aload_n X.ex X.co dL_areCertificates_46 rfl (lv_at hl 1 rfl) ?_
      refine lv_iconst (v := 5) X.ex X.co dL_areCertificates_47 (by decide) ?_
      refine k_ml X g0.1 W0.2.2.2 5 (by omega) (mR_5 σ) dL_areCertificates_48 ?_
      refine n_cmp_ge X (x := x) (y := nCe σ) (tgt := 114) (by omega) (by omega) dL_areCertificates_49 (by decide) (fun c_5 => ?_) (fun c_5 => ?_)
      · exact absurd c_5 (by omega)
      · refine lv_iload X.ex X.co dL_areCertificates_52 (lv_at hl 4 rfl) ?_
        refine lv_if_eq (tgt := 114) X.ex X.co dL_areCertificates_54 (by decide) (fun c_6 => ?_) (fun c_6 => ?_)
        · exact absurd c_6 (by decide)
        · refine lv_aload_n X.ex X.co dL_areCertificates_57 rfl (lv_at hl 0 rfl) ?_
          refine lv_bipush (v := 13) X.ex X.co dL_areCertificates_58 (by decide) ?_
          refine lv_iload X.ex X.co dL_areCertificates_60 (lv_at hl 5 rfl) ?_
          refine lv_iconst (v := 0) X.ex X.co dL_areCertificates_62 (by decide) ?_
          refine k_call (n := 4) X mn_40 m_0 mn_39 ⟨by decide, by decide, by decide +kernel⟩ (by decide) mn_38 (c_L_ask_13 l hst G A hAg b σ W0.1.1.1.1 W0.1.1.1.2 W0.1.1.2 (nI x) 0) (g0.step hS hA2) W0 hdis (lsq_ds W0.1.1.2 _) W0.1 ((q_ds W0.1 (show x < nCe σ by omega)).trans (by rw [decide_eq_false hzc])) (by omega) rfl hl.1 rfl (Nat.le_of_ble_eq_true rfl) dL_areCertificates_63 (by omega) (by omega) hS (fun q h => Or.inl h) (fun H locs W0 hz hk9 hS => ?_)
          refine lv_istore (lv' := [(6, .int 0), (0, .ref b), (1, .ref (oad (0, 0))), (2, .ref (oad (0, 1))), (3, .int (nI (revS σ x))), (4, .int 1), (5, .int (nI x))]) X.ex X.co dL_areCertificates_66 hl (by decide) rfl (fun ls hl => ?_)
          refine lv_aload_n X.ex X.co dL_areCertificates_68 rfl (lv_at hl 3 rfl) ?_
          refine lv_iload X.ex X.co dL_areCertificates_69 (lv_at hl 6 rfl) ?_
          refine k_wl X g0.1 W0.2.2.2 x (by omega) rfl dL_areCertificates_71 ?_
          refine lv_if_eq (tgt := 80) X.ex X.co dL_areCertificates_72 (by decide) (fun c_7 => ?_) (fun c_7 => ?_)
          · refine lv_iconst (v := 1) X.ex X.co dL_areCertificates_80 (by decide) ?_
            refine lv_goto (tgt := 85) X.ex X.co dL_areCertificates_81 (by decide) ?_
            refine lv_istore (lv' := [(4, .int 1), (6, .int 0), (0, .ref b), (1, .ref (oad (0, 0))), (2, .ref (oad (0, 1))), (3, .int (nI (revS σ x))), (5, .int (nI x))]) X.ex X.co dL_areCertificates_85 hl (by decide) rfl (fun ls hl => ?_)
            refine lv_aload_n X.ex X.co dL_areCertificates_87 rfl (lv_at hl 4 rfl) ?_
            refine lv_iload X.ex X.co dL_areCertificates_88 (lv_at hl 6 rfl) ?_
            refine lv_iload X.ex X.co dL_areCertificates_90 (lv_at hl 1 rfl) ?_
            refine lv_if_ne (tgt := 99) X.ex X.co dL_areCertificates_92 (by decide) (fun c_8 => ?_) (fun c_8 => ?_)
            · exact absurd (by decide) c_8
            · refine lv_iconst (v := 1) X.ex X.co dL_areCertificates_95 (by decide) ?_
              refine lv_goto (tgt := 100) X.ex X.co dL_areCertificates_96 (by decide) ?_
              refine k_ws X g0.1 W0 hdis hS (fun q h => Or.inr h) x (by omega) (v := 1) (by decide) dL_areCertificates_100 (fun H locs W0 hS => ?_)
              refine lv_iload_n X.ex X.co dL_areCertificates_101 rfl (lv_at hl 5 rfl) ?_
              refine lv_iconst (v := 1) X.ex X.co dL_areCertificates_102 (by decide) ?_
              refine lv_iload X.ex X.co dL_areCertificates_103 (lv_at hl 1 rfl) ?_
              refine lv_isub X.ex X.co dL_areCertificates_105 (top_eq (y := 1) (by decide) ?_)
              refine n_add X (x := revS σ x) (y := 1) dL_areCertificates_106 ?_
              refine lv_istore_n (lv' := [(3, .int (nI ((revS σ x) + 1))), (4, .int 1), (6, .int 0), (0, .ref b), (1, .ref (oad (0, 0))), (2, .ref (oad (0, 1))), (5, .int (nI x))]) X.ex X.co dL_areCertificates_107 rfl hl (by decide) rfl (fun ls hl => ?_)
              refine lv_iinc (v := nI (x + 1)) (lv' := [(5, .int (nI (x + 1))), (3, .int (nI ((revS σ x) + 1))), (4, .int 1), (6, .int 0), (0, .ref b), (1, .ref (oad (0, 0))), (2, .ref (oad (0, 1)))]) X.ex X.co dL_areCertificates_108 hl (k := 6) rfl (n_inc _) (by decide) rfl (fun ls hl => ?_)
              refine lv_goto (tgt := 44) X.ex X.co dL_areCertificates_111 (by decide) ?_
              have hr9 : revS σ (x + 1) = (revS σ x) + 1 := by simp [revS, hzc]
              exact ih (x + 1) (by omega) (upd wf x 1) (WF_up hwf (fun _ => ⟨by omega, hzc⟩)) H locs ls _ _ W0 hS (by rw [hr9]; exact lv_sub hl [4, 5, 6, 1, 2, 0] rfl) (by omega) (by omega)
          · refine lv_iload X.ex X.co dL_areCertificates_75 (lv_at hl 0 rfl) ?_
            refine lv_if_ne (tgt := 84) X.ex X.co dL_areCertificates_77 (by decide) (fun c_9 => ?_) (fun c_9 => ?_)
            · exact absurd (by decide) c_9
            · refine lv_iconst (v := 1) X.ex X.co dL_areCertificates_80 (by decide) ?_
              refine lv_goto (tgt := 85) X.ex X.co dL_areCertificates_81 (by decide) ?_
              refine lv_istore (lv' := [(4, .int 1), (6, .int 0), (0, .ref b), (1, .ref (oad (0, 0))), (2, .ref (oad (0, 1))), (3, .int (nI (revS σ x))), (5, .int (nI x))]) X.ex X.co dL_areCertificates_85 hl (by decide) rfl (fun ls hl => ?_)
              refine lv_aload_n X.ex X.co dL_areCertificates_87 rfl (lv_at hl 4 rfl) ?_
              refine lv_iload X.ex X.co dL_areCertificates_88 (lv_at hl 6 rfl) ?_
              refine lv_iload X.ex X.co dL_areCertificates_90 (lv_at hl 1 rfl) ?_
              refine lv_if_ne (tgt := 99) X.ex X.co dL_areCertificates_92 (by decide) (fun c_10 => ?_) (fun c_10 => ?_)
              · exact absurd (by decide) c_10
              · refine lv_iconst (v := 1) X.ex X.co dL_areCertificates_95 (by decide) ?_
                refine lv_goto (tgt := 100) X.ex X.co dL_areCertificates_96 (by decide) ?_
                refine k_ws X g0.1 W0 hdis hS (fun q h => Or.inr h) x (by omega) (v := 1) (by decide) dL_areCertificates_100 (fun H locs W0 hS => ?_)
                refine lv_iload_n X.ex X.co dL_areCertificates_101 rfl (lv_at hl 5 rfl) ?_
                refine lv_iconst (v := 1) X.ex X.co dL_areCertificates_102 (by decide) ?_
                refine lv_iload X.ex X.co dL_areCertificates_103 (lv_at hl 1 rfl) ?_
                refine lv_isub X.ex X.co dL_areCertificates_105 (top_eq (y := 1) (by decide) ?_)
                refine n_add X (x := revS σ x) (y := 1) dL_areCertificates_106 ?_
                refine lv_istore_n (lv' := [(3, .int (nI ((revS σ x) + 1))), (4, .int 1), (6, .int 0), (0, .ref b), (1, .ref (oad (0, 0))), (2, .ref (oad (0, 1))), (5, .int (nI x))]) X.ex X.co dL_areCertificates_107 rfl hl (by decide) rfl (fun ls hl => ?_)
                refine lv_iinc (v := nI (x + 1)) (lv' := [(5, .int (nI (x + 1))), (3, .int (nI ((revS σ x) + 1))), (4, .int 1), (6, .int 0), (0, .ref b), (1, .ref (oad (0, 0))), (2, .ref (oad (0, 1)))]) X.ex X.co dL_areCertificates_108 hl (k := 6) rfl (n_inc _) (by decide) rfl (fun ls hl => ?_)
                refine lv_goto (tgt := 44) X.ex X.co dL_areCertificates_111 (by decide) ?_
                have hr9 : revS σ (x + 1) = (revS σ x) + 1 := by simp [revS, hzc]
                exact ih (x + 1) (by omega) (upd wf x 1) (WF_up hwf (fun _ => ⟨by omega, hzc⟩)) H locs ls _ _ W0 hS (by rw [hr9]; exact lv_sub hl [4, 5, 6, 1, 2, 0] rfl) (by omega) (by omega)
set_option maxHeartbeats 4000000 in
set_option maxRecDepth 100000 in
theorem ac_k (hst : l.stackTraces = false) (hAg : ∀ q, A q → gA G q) (hdis : ∀ q, A q → ¬ AO q) (X : CF p s m args meth c cL_areCertificates 8 "CourseForgeLaw" (some .boolean)) (g0 : GG G s s.heap) (hR9 : 13 ≤ hR) (hd9 : d ≤ 1000) (hA2 : ∀ q, (fun q => A q ∨ AO q) q → gA G q) (u : Nat) (hu : u < nSt σ) (c0 s0 : Nat) (hrc : c0 + 8 ≤ rc) (hrs : s0 + 48 ≤ rs) (kend : ∀ (H : Heap) (locs : List Loc) (ls : Array Slot) (cells slots : Nat), LW G A AO b d σ oad (mR σ) wf H → va_S (fun q => A q ∨ AO q) s.heap H locs → lv_has ls 8 [(0, .ref b), (1, .ref (oad (0, 0))), (2, .ref (oad (0, 1))), (3, .int (nI (revS σ (nCe σ)))), (4, .int 1), (5, .int (nI u)), (6, .int (nI (nCr σ)))] → cells ≤ c0 + 8 → slots ≤ s0 + 48 → W p l e (RM hR rc rs) s m args below meth c H locs cells slots Q (F0 m 205 ls [])) :
    ∀ (n v : Nat), v + n = nCr σ → ∀ (H : Heap) (locs : List Loc) (ls : Array Slot) (cells slots : Nat), LW G A AO b d σ oad (mR σ) wf H → va_S (fun q => A q ∨ AO q) s.heap H locs → lv_has ls 8 [(0, .ref b), (1, .ref (oad (0, 0))), (2, .ref (oad (0, 1))), (3, .int (nI (revS σ (nCe σ)))), (4, .int 1), (5, .int (nI u)), (6, .int (nI v))] → cells ≤ c0 + 2 * v → slots ≤ s0 + 12 * v → W p l e (RM hR rc rs) s m args below meth c H locs cells slots Q (F0 m 133 ls []) := by
  intro n
  induction n with
  | zero =>
    intro v ha H locs ls cells slots W0 hS hl hc hs
    have hb := W0.1.1.1.1.1.1
    refine lv_iload X.ex X.co dL_areCertificates_133 (lv_at hl 6 rfl) ?_
    refine lv_aload_n X.ex X.co dL_areCertificates_135 rfl (lv_at hl 1 rfl) ?_
    refine lv_iconst (v := 4) X.ex X.co dL_areCertificates_136 (by decide) ?_
    refine k_ml X g0.1 W0.2.2.2 4 (by omega) (mR_4 σ) dL_areCertificates_137 ?_
    refine n_cmp_ge X (x := v) (y := nCr σ) (tgt := 205) (by omega) (by omega) dL_areCertificates_138 (by decide) (fun c_1 => ?_) (fun c_1 => ?_)
    · rw [show v = nCr σ by omega] at hl
      exact kend H locs ls _ _ W0 hS (lv_sub hl [0, 1, 2, 3, 4, 5, 6] rfl) (by omega) (by omega)
    · exact absurd c_1 (by omega)
  | succ n ih =>
    intro v ha H locs ls cells slots W0 hS hl hc hs
    have hb := W0.1.1.1.1.1.1
    rcases hbx : stdS σ u v (nCe σ) with _ | z
    · refine lv_iload X.ex X.co dL_areCertificates_133 (lv_at hl 6 rfl) ?_
      refine lv_aload_n X.ex X.co dL_areCertificates_135 rfl (lv_at hl 1 rfl) ?_
      refine lv_iconst (v := 4) X.ex X.co dL_areCertificates_136 (by decide) ?_
      refine k_ml X g0.1 W0.2.2.2 4 (by omega) (mR_4 σ) dL_areCertificates_137 ?_
      refine n_cmp_ge X (x := v) (y := nCr σ) (tgt := 205) (by omega) (by omega) dL_areCertificates_138 (by decide) (fun c_1 => ?_) (fun c_1 => ?_)
      · exact absurd c_1 (by omega)
      · refine lv_iload X.ex X.co dL_areCertificates_141 (lv_at hl 4 rfl) ?_
        refine lv_if_eq (tgt := 205) X.ex X.co dL_areCertificates_143 (by decide) (fun c_2 => ?_) (fun c_2 => ?_)
        · exact absurd c_2 (by decide)
        · refine lv_aload_n X.ex X.co dL_areCertificates_146 rfl (lv_at hl 0 rfl) ?_
          refine lv_bipush (v := 14) X.ex X.co dL_areCertificates_147 (by decide) ?_
          refine lv_iload X.ex X.co dL_areCertificates_149 (lv_at hl 5 rfl) ?_
          refine lv_iload X.ex X.co dL_areCertificates_151 (lv_at hl 6 rfl) ?_
          refine k_call (n := 4) X mn_40 m_0 mn_39 ⟨by decide, by decide, by decide +kernel⟩ (by decide) mn_38 (c_L_ask_14 l hst G A hAg b σ W0.1.1.1.1 W0.1.1.1.2 W0.1.1.2 (nI u) (nI v)) (g0.step hS hA2) W0 hdis (lsq_ce W0.1.1.2 _ _) W0.1 (q_ce0 W0.1 (show u < nSt σ by omega) (show v < nCr σ by omega) hbx) (by omega) rfl hl.1 rfl (Nat.le_of_ble_eq_true rfl) dL_areCertificates_153 (by omega) (by omega) hS (fun q h => Or.inl h) (fun H locs W0 hz hk9 hS => ?_)
          refine lv_istore (lv' := [(7, .int (-2005)), (0, .ref b), (1, .ref (oad (0, 0))), (2, .ref (oad (0, 1))), (3, .int (nI (revS σ (nCe σ)))), (4, .int 1), (5, .int (nI u)), (6, .int (nI v))]) X.ex X.co dL_areCertificates_156 hl (by decide) rfl (fun ls hl => ?_)
          refine lv_iload X.ex X.co dL_areCertificates_158 (lv_at hl 0 rfl) ?_
          refine lv_sipush (v := (-2005)) X.ex X.co dL_areCertificates_160 (by decide) ?_
          refine lv_icmp_eq (tgt := 192) X.ex X.co dL_areCertificates_163 (by decide) (fun c_3 => ?_) (fun c_3 => ?_)
          · refine lv_iconst (v := 1) X.ex X.co dL_areCertificates_192 (by decide) ?_
            refine lv_goto (tgt := 197) X.ex X.co dL_areCertificates_193 (by decide) ?_
            refine lv_istore (lv' := [(4, .int 1), (7, .int (-2005)), (0, .ref b), (1, .ref (oad (0, 0))), (2, .ref (oad (0, 1))), (3, .int (nI (revS σ (nCe σ)))), (5, .int (nI u)), (6, .int (nI v))]) X.ex X.co dL_areCertificates_197 hl (by decide) rfl (fun ls hl => ?_)
            refine lv_iinc (v := nI (v + 1)) (lv' := [(6, .int (nI (v + 1))), (4, .int 1), (7, .int (-2005)), (0, .ref b), (1, .ref (oad (0, 0))), (2, .ref (oad (0, 1))), (3, .int (nI (revS σ (nCe σ)))), (5, .int (nI u))]) X.ex X.co dL_areCertificates_199 hl (k := 7) rfl (n_inc _) (by decide) rfl (fun ls hl => ?_)
            refine lv_goto (tgt := 133) X.ex X.co dL_areCertificates_202 (by decide) ?_
            exact ih (v + 1) (by omega) H locs ls _ _ W0 hS (lv_sub hl [3, 4, 5, 6, 1, 7, 0] rfl) (by omega) (by omega)
          · exact absurd (by decide) c_3
    · have hz9 := stdS_some hbx
      refine lv_iload X.ex X.co dL_areCertificates_133 (lv_at hl 6 rfl) ?_
      refine lv_aload_n X.ex X.co dL_areCertificates_135 rfl (lv_at hl 1 rfl) ?_
      refine lv_iconst (v := 4) X.ex X.co dL_areCertificates_136 (by decide) ?_
      refine k_ml X g0.1 W0.2.2.2 4 (by omega) (mR_4 σ) dL_areCertificates_137 ?_
      refine n_cmp_ge X (x := v) (y := nCr σ) (tgt := 205) (by omega) (by omega) dL_areCertificates_138 (by decide) (fun c_4 => ?_) (fun c_4 => ?_)
      · exact absurd c_4 (by omega)
      · refine lv_iload X.ex X.co dL_areCertificates_141 (lv_at hl 4 rfl) ?_
        refine lv_if_eq (tgt := 205) X.ex X.co dL_areCertificates_143 (by decide) (fun c_5 => ?_) (fun c_5 => ?_)
        · exact absurd c_5 (by decide)
        · refine lv_aload_n X.ex X.co dL_areCertificates_146 rfl (lv_at hl 0 rfl) ?_
          refine lv_bipush (v := 14) X.ex X.co dL_areCertificates_147 (by decide) ?_
          refine lv_iload X.ex X.co dL_areCertificates_149 (lv_at hl 5 rfl) ?_
          refine lv_iload X.ex X.co dL_areCertificates_151 (lv_at hl 6 rfl) ?_
          refine k_call (n := 4) X mn_40 m_0 mn_39 ⟨by decide, by decide, by decide +kernel⟩ (by decide) mn_38 (c_L_ask_14 l hst G A hAg b σ W0.1.1.1.1 W0.1.1.1.2 W0.1.1.2 (nI u) (nI v)) (g0.step hS hA2) W0 hdis (lsq_ce W0.1.1.2 _ _) W0.1 (q_ce1 W0.1 (show u < nSt σ by omega) (show v < nCr σ by omega) hbx) (by omega) rfl hl.1 rfl (Nat.le_of_ble_eq_true rfl) dL_areCertificates_153 (by omega) (by omega) hS (fun q h => Or.inl h) (fun H locs W0 hz hk9 hS => ?_)
          refine lv_istore (lv' := [(7, .int (nI z)), (0, .ref b), (1, .ref (oad (0, 0))), (2, .ref (oad (0, 1))), (3, .int (nI (revS σ (nCe σ)))), (4, .int 1), (5, .int (nI u)), (6, .int (nI v))]) X.ex X.co dL_areCertificates_156 hl (by decide) rfl (fun ls hl => ?_)
          refine lv_iload X.ex X.co dL_areCertificates_158 (lv_at hl 0 rfl) ?_
          refine lv_sipush (v := (-2005)) X.ex X.co dL_areCertificates_160 (by decide) ?_
          refine lv_icmp_eq (tgt := 192) X.ex X.co dL_areCertificates_163 (by decide) (fun c_6 => ?_) (fun c_6 => ?_)
          · exact absurd c_6 (nI_ne5 (by omega))
          · refine lv_iload X.ex X.co dL_areCertificates_166 (lv_at hl 0 rfl) ?_
            refine n_if_lt X (x := z) (tgt := 196) (by omega) dL_areCertificates_168 (by decide) (fun c_7 => ?_) (fun c_7 => ?_)
            · exact c_7.elim
            · refine lv_iload X.ex X.co dL_areCertificates_171 (lv_at hl 0 rfl) ?_
              refine lv_aload_n X.ex X.co dL_areCertificates_173 rfl (lv_at hl 2 rfl) ?_
              refine lv_iconst (v := 5) X.ex X.co dL_areCertificates_174 (by decide) ?_
              refine k_ml X g0.1 W0.2.2.2 5 (by omega) (mR_5 σ) dL_areCertificates_175 ?_
              refine n_cmp_ge X (x := z) (y := nCe σ) (tgt := 196) (by omega) (by omega) dL_areCertificates_176 (by decide) (fun c_8 => ?_) (fun c_8 => ?_)
              · exact absurd c_8 (by omega)
              · refine lv_aload_n X.ex X.co dL_areCertificates_179 rfl (lv_at hl 1 rfl) ?_
                refine lv_bipush (v := 13) X.ex X.co dL_areCertificates_180 (by decide) ?_
                refine lv_iload X.ex X.co dL_areCertificates_182 (lv_at hl 0 rfl) ?_
                refine lv_iconst (v := 0) X.ex X.co dL_areCertificates_184 (by decide) ?_
                refine k_call (n := 4) X mn_40 m_0 mn_39 ⟨by decide, by decide, by decide +kernel⟩ (by decide) mn_38 (c_L_ask_13 l hst G A hAg b σ W0.1.1.1.1 W0.1.1.1.2 W0.1.1.2 (nI z) 0) (g0.step hS hA2) W0 hdis (lsq_ds W0.1.1.2 _) W0.1 ((q_ds W0.1 hz9.1).trans (by rw [decide_eq_true hz9.2.2.2])) (by omega) rfl hl.1 rfl (Nat.le_of_ble_eq_true rfl) dL_areCertificates_185 (by omega) (by omega) hS (fun q h => Or.inl h) (fun H locs W0 hz hk9 hS => ?_)
                refine lv_iconst (v := 1) X.ex X.co dL_areCertificates_188 (by decide) ?_
                refine lv_icmp_ne (tgt := 196) X.ex X.co dL_areCertificates_189 (by decide) (fun c_9 => ?_) (fun c_9 => ?_)
                · exact absurd (by decide) c_9
                · refine lv_iconst (v := 1) X.ex X.co dL_areCertificates_192 (by decide) ?_
                  refine lv_goto (tgt := 197) X.ex X.co dL_areCertificates_193 (by decide) ?_
                  refine lv_istore (lv' := [(4, .int 1), (7, .int (nI z)), (0, .ref b), (1, .ref (oad (0, 0))), (2, .ref (oad (0, 1))), (3, .int (nI (revS σ (nCe σ)))), (5, .int (nI u)), (6, .int (nI v))]) X.ex X.co dL_areCertificates_197 hl (by decide) rfl (fun ls hl => ?_)
                  refine lv_iinc (v := nI (v + 1)) (lv' := [(6, .int (nI (v + 1))), (4, .int 1), (7, .int (nI z)), (0, .ref b), (1, .ref (oad (0, 0))), (2, .ref (oad (0, 1))), (3, .int (nI (revS σ (nCe σ)))), (5, .int (nI u))]) X.ex X.co dL_areCertificates_199 hl (k := 7) rfl (n_inc _) (by decide) rfl (fun ls hl => ?_)
                  refine lv_goto (tgt := 133) X.ex X.co dL_areCertificates_202 (by decide) ?_
                  exact ih (v + 1) (by omega) H locs ls _ _ W0 hS (lv_sub hl [3, 4, 5, 6, 1, 7, 0] rfl) (by omega) (by omega)
set_option maxHeartbeats 4000000 in
set_option maxRecDepth 100000 in
theorem ac_s (hst : l.stackTraces = false) (hAg : ∀ q, A q → gA G q) (hdis : ∀ q, A q → ¬ AO q) (X : CF p s m args meth c cL_areCertificates 8 "CourseForgeLaw" (some .boolean)) (g0 : GG G s s.heap) (hR9 : 13 ≤ hR) (hd9 : d ≤ 1000) (hA2 : ∀ q, (fun q => A q ∨ AO q) q → gA G q)  (c0 s0 : Nat) (hrc : c0 + 64 ≤ rc) (hrs : s0 + 384 ≤ rs) (kend : ∀ (H : Heap) (locs : List Loc) (ls : Array Slot) (cells slots : Nat), LW G A AO b d σ oad (mR σ) wf H → va_S (fun q => A q ∨ AO q) s.heap H locs → lv_has ls 8 [(0, .ref b), (1, .ref (oad (0, 0))), (2, .ref (oad (0, 1))), (3, .int (nI (revS σ (nCe σ)))), (4, .int 1), (5, .int (nI (nSt σ)))] → cells ≤ c0 + 64 → slots ≤ s0 + 384 → W p l e (RM hR rc rs) s m args below meth c H locs cells slots Q (F0 m 211 ls [])) :
    ∀ (n u : Nat), u + n = nSt σ → ∀ (H : Heap) (locs : List Loc) (ls : Array Slot) (cells slots : Nat), LW G A AO b d σ oad (mR σ) wf H → va_S (fun q => A q ∨ AO q) s.heap H locs → lv_has ls 8 [(0, .ref b), (1, .ref (oad (0, 0))), (2, .ref (oad (0, 1))), (3, .int (nI (revS σ (nCe σ)))), (4, .int 1), (5, .int (nI u))] → cells ≤ c0 + 8 * u → slots ≤ s0 + 48 * u → W p l e (RM hR rc rs) s m args below meth c H locs cells slots Q (F0 m 117 ls []) := by
  intro n
  induction n with
  | zero =>
    intro u ha H locs ls cells slots W0 hS hl hc hs
    have hb := W0.1.1.1.1.1.1
    refine lv_iload X.ex X.co dL_areCertificates_117 (lv_at hl 5 rfl) ?_
    refine lv_aload_n X.ex X.co dL_areCertificates_119 rfl (lv_at hl 1 rfl) ?_
    refine lv_iconst (v := 1) X.ex X.co dL_areCertificates_120 (by decide) ?_
    refine k_ml X g0.1 W0.2.2.2 1 (by omega) (mR_1 σ) dL_areCertificates_121 ?_
    refine n_cmp_ge X (x := u) (y := nSt σ) (tgt := 211) (by omega) (by omega) dL_areCertificates_122 (by decide) (fun c_1 => ?_) (fun c_1 => ?_)
    · rw [show u = nSt σ by omega] at hl
      exact kend H locs ls _ _ W0 hS (lv_sub hl [0, 1, 2, 3, 4, 5] rfl) (by omega) (by omega)
    · exact absurd c_1 (by omega)
  | succ n ih =>
    intro u ha H locs ls cells slots W0 hS hl hc hs
    have hb := W0.1.1.1.1.1.1
    refine lv_iload X.ex X.co dL_areCertificates_117 (lv_at hl 5 rfl) ?_
    refine lv_aload_n X.ex X.co dL_areCertificates_119 rfl (lv_at hl 1 rfl) ?_
    refine lv_iconst (v := 1) X.ex X.co dL_areCertificates_120 (by decide) ?_
    refine k_ml X g0.1 W0.2.2.2 1 (by omega) (mR_1 σ) dL_areCertificates_121 ?_
    refine n_cmp_ge X (x := u) (y := nSt σ) (tgt := 211) (by omega) (by omega) dL_areCertificates_122 (by decide) (fun c_1 => ?_) (fun c_1 => ?_)
    · exact absurd c_1 (by omega)
    · refine lv_iload X.ex X.co dL_areCertificates_125 (lv_at hl 4 rfl) ?_
      refine lv_if_eq (tgt := 211) X.ex X.co dL_areCertificates_127 (by decide) (fun c_2 => ?_) (fun c_2 => ?_)
      · exact absurd c_2 (by decide)
      · refine lv_iconst (v := 0) X.ex X.co dL_areCertificates_130 (by decide) ?_
        refine lv_istore (lv' := [(6, .int 0), (0, .ref b), (1, .ref (oad (0, 0))), (2, .ref (oad (0, 1))), (3, .int (nI (revS σ (nCe σ)))), (4, .int 1), (5, .int (nI u))]) X.ex X.co dL_areCertificates_131 hl (by decide) rfl (fun ls hl => ?_)
        refine ac_k hst hAg hdis X g0 hR9 hd9 hA2 u (show u < nSt σ by omega) cells slots (by omega) (by omega) (fun H locs ls cells1 slots1 W0 hS hl hc1 hs1 => ?_) (nCr σ) 0 (by omega) H locs ls _ _ W0 hS (lv_sub hl [1, 2, 3, 4, 5, 6, 0] rfl) (by omega) (by omega)
        refine lv_iinc (v := nI (u + 1)) (lv' := [(5, .int (nI (u + 1))), (0, .ref b), (1, .ref (oad (0, 0))), (2, .ref (oad (0, 1))), (3, .int (nI (revS σ (nCe σ)))), (4, .int 1), (6, .int (nI (nCr σ)))]) X.ex X.co dL_areCertificates_205 hl (k := 5) rfl (n_inc _) (by decide) rfl (fun ls hl => ?_)
        refine lv_goto (tgt := 117) X.ex X.co dL_areCertificates_208 (by decide) ?_
        exact ih (u + 1) (by omega) H locs ls _ _ W0 hS (lv_sub hl [1, 2, 3, 4, 5, 0] rfl) (by omega) (by omega)
set_option maxHeartbeats 4000000 in
set_option maxRecDepth 100000 in
theorem c_L_areCertificates (l : Launch) (hst : l.stackTraces = false) (G : GT) (A AO : Nat → Prop) (hAg : ∀ q, A q → gA G q) (hA2 : ∀ q, (fun q => A q ∨ AO q) q → gA G q) (hdis : ∀ q, A q → ¬ AO q) (b d : Nat) (σ : Sg) (oad : I2 → Nat) (wf : Nat → Int32) (hd9 : d ≤ 1000) : cM l yL_areCertificates cL_areCertificates 8 (some .boolean) 13 120 700 G [.ref b, .ref (oad (0, 0)), .ref (oad (0, 1))] (fun H => LW G A AO b d σ oad (mR σ) wf H ∧ WF σ wf) (fun v H => v = some (.int 1) ∧ ∃ wf, LW G A AO b d σ oad (mR σ) wf H ∧ WF σ wf) (fun q => A q ∨ AO q) := by
  refine mk_m (by decide) (Nat.le_of_ble_eq_true rfl) ?_
  intro p e s m args below meth c X ls hl g0 W0 hnm
  obtain ⟨W0, hwf⟩ := W0
  have hS : va_S (fun q => A q ∨ AO q) s.heap s.heap [] := va_S.rf
  have hb := W0.1.1.1.1.1.1
  have hl : lv_has ls 8 [(0, .ref b), (1, .ref (oad (0, 0))), (2, .ref (oad (0, 1)))] := hl
  show W p l e (RM 13 120 700) s m args below meth c s.heap [] 0 0 (MQ below (cQ (fun v H => v = some (.int 1) ∧ ∃ wf, LW G A AO b d σ oad (mR σ) wf H ∧ WF σ wf) (fun q => A q ∨ AO q)) args s 120 700 (fun q => A q ∨ AO q)) (F0 m 0 ls [])
  refine lv_iconst (v := 0) X.ex X.co dL_areCertificates_0 (by decide) ?_
  refine lv_istore_n (lv' := [(3, .int 0), (0, .ref b), (1, .ref (oad (0, 0))), (2, .ref (oad (0, 1)))]) X.ex X.co dL_areCertificates_1 rfl hl (by decide) rfl (fun ls hl => ?_)
  refine lv_aload_n X.ex X.co dL_areCertificates_2 rfl (lv_at hl 1 rfl) ?_
  refine lv_bipush (v := 13) X.ex X.co dL_areCertificates_3 (by decide) ?_
  refine lv_aload_n X.ex X.co dL_areCertificates_5 rfl (lv_at hl 2 rfl) ?_
  refine lv_iconst (v := 5) X.ex X.co dL_areCertificates_6 (by decide) ?_
  refine k_ml X g0.1 W0.2.2.2 5 (by omega) (mR_5 σ) dL_areCertificates_7 ?_
  refine lv_iconst (v := 0) X.ex X.co dL_areCertificates_8 (by decide) ?_
  refine k_call (n := 4) X mn_40 m_0 mn_39 ⟨by decide, by decide, by decide +kernel⟩ (by decide) mn_38 (c_L_ask_13 l hst G A hAg b σ W0.1.1.1.1 W0.1.1.1.2 W0.1.1.2 (nI (nCe σ)) 0) (g0.step hS hA2) W0 hdis (lsq_ds W0.1.1.2 _) W0.1 (q_ds9 W0.1) (by omega) rfl hl.1 rfl (Nat.le_of_ble_eq_true rfl) dL_areCertificates_9 (by omega) (by omega) hS (fun q h => Or.inl h) (fun H locs W0 hz hk9 hS => ?_)
  refine lv_sipush (v := (-2001)) X.ex X.co dL_areCertificates_12 (by decide) ?_
  refine lv_icmp_ne (tgt := 38) X.ex X.co dL_areCertificates_15 (by decide) (fun c_1 => ?_) (fun c_1 => ?_)
  · exact absurd (by decide) c_1
  · refine lv_aload_n X.ex X.co dL_areCertificates_18 rfl (lv_at hl 1 rfl) ?_
    refine lv_bipush (v := 14) X.ex X.co dL_areCertificates_19 (by decide) ?_
    refine lv_aload_n X.ex X.co dL_areCertificates_21 rfl (lv_at hl 2 rfl) ?_
    refine lv_iconst (v := 1) X.ex X.co dL_areCertificates_22 (by decide) ?_
    refine k_ml X g0.1 W0.2.2.2 1 (by omega) (mR_1 σ) dL_areCertificates_23 ?_
    refine lv_iconst (v := 0) X.ex X.co dL_areCertificates_24 (by decide) ?_
    refine k_call (n := 4) X mn_40 m_0 mn_39 ⟨by decide, by decide, by decide +kernel⟩ (by decide) mn_38 (c_L_ask_14 l hst G A hAg b σ W0.1.1.1.1 W0.1.1.1.2 W0.1.1.2 (nI (nSt σ)) 0) (g0.step hS hA2) W0 hdis (lsq_ce W0.1.1.2 _ _) W0.1 (q_ce9 W0.1 _) (by omega) rfl hl.1 rfl (Nat.le_of_ble_eq_true rfl) dL_areCertificates_25 (by omega) (by omega) hS (fun q h => Or.inl h) (fun H locs W0 hz hk9 hS => ?_)
    refine lv_sipush (v := (-2001)) X.ex X.co dL_areCertificates_28 (by decide) ?_
    refine lv_icmp_ne (tgt := 38) X.ex X.co dL_areCertificates_31 (by decide) (fun c_2 => ?_) (fun c_2 => ?_)
    · exact absurd (by decide) c_2
    · refine lv_iconst (v := 1) X.ex X.co dL_areCertificates_34 (by decide) ?_
      refine lv_goto (tgt := 39) X.ex X.co dL_areCertificates_35 (by decide) ?_
      refine lv_istore (lv' := [(4, .int 1), (3, .int 0), (0, .ref b), (1, .ref (oad (0, 0))), (2, .ref (oad (0, 1)))]) X.ex X.co dL_areCertificates_39 hl (by decide) rfl (fun ls hl => ?_)
      refine lv_iconst (v := 0) X.ex X.co dL_areCertificates_41 (by decide) ?_
      refine lv_istore (lv' := [(5, .int 0), (4, .int 1), (3, .int 0), (0, .ref b), (1, .ref (oad (0, 0))), (2, .ref (oad (0, 1)))]) X.ex X.co dL_areCertificates_42 hl (by decide) rfl (fun ls hl => ?_)
      refine ac_c hst hAg hdis X g0 (by omega) hd9 hA2 2 12 (by omega) (by omega) (fun wf hwf H locs ls cells1 slots1 W0 hS hl hc1 hs1 => ?_) (nCe σ) 0 (by omega) wf hwf H locs ls _ _ W0 hS (lv_sub hl [3, 4, 5, 2, 1, 0] rfl) (by omega) (by omega)
      refine lv_iconst (v := 0) X.ex X.co dL_areCertificates_114 (by decide) ?_
      refine lv_istore (lv' := [(5, .int 0), (0, .ref b), (1, .ref (oad (0, 0))), (2, .ref (oad (0, 1))), (3, .int (nI (revS σ (nCe σ)))), (4, .int 1)]) X.ex X.co dL_areCertificates_115 hl (by decide) rfl (fun ls hl => ?_)
      refine ac_s hst hAg hdis X g0 (by omega) hd9 hA2 (2 + 30) (12 + 180) (by omega) (by omega) (fun H locs ls cells2 slots2 W0 hS hl hc2 hs2 => ?_) (nSt σ) 0 (by omega) H locs ls _ _ W0 hS (lv_sub hl [1, 2, 3, 4, 5, 0] rfl) (by omega) (by omega)
      have hrb := revS_b σ (nCe σ)
      refine lv_iload X.ex X.co dL_areCertificates_211 (lv_at hl 4 rfl) ?_
      refine lv_if_eq (tgt := 253) X.ex X.co dL_areCertificates_213 (by decide) (fun c_3 => ?_) (fun c_3 => ?_)
      · exact absurd c_3 (by decide)
      · refine lv_aload_n X.ex X.co dL_areCertificates_216 rfl (lv_at hl 0 rfl) ?_
        refine k_cnt X ce_X9_revoked mn_74 (c_X9_revoked l G A hAg b σ W0.1.1.1.1 W0.1.1.1.2 W0.1.1.2) (g0.step hS hA2) W0 hdis (r := fRevoked σ) rfl (v := nI (revS σ (nCe σ))) rfl rfl (by omega) rfl hl.1 rfl (Nat.le_of_ble_eq_true rfl) dL_areCertificates_217 (by omega) (by omega) hS (fun q h => Or.inl h) (fun H locs W0 hz hk9 hS => ?_)
        refine lv_iload_n X.ex X.co dL_areCertificates_220 rfl (lv_at hl 3 rfl) ?_
        refine n_cmp_ne X (x := (revS σ (nCe σ))) (y := revS σ (nCe σ)) (tgt := 253) (by omega) (by omega) dL_areCertificates_221 (by decide) (fun c_4 => ?_) (fun c_4 => ?_)
        · exact absurd rfl c_4
        · refine lv_aload_n X.ex X.co dL_areCertificates_224 rfl (lv_at hl 1 rfl) ?_
          refine lv_iconst (v := 5) X.ex X.co dL_areCertificates_225 (by decide) ?_
          refine k_ml X g0.1 W0.2.2.2 5 (by omega) (mR_5 σ) dL_areCertificates_226 ?_
          refine n_if_eq X (x := nCe σ) (tgt := 249) (by omega) dL_areCertificates_227 (by decide) (fun c_5 => ?_) (fun c_5 => ?_)
          · refine lv_iconst (v := 1) X.ex X.co dL_areCertificates_249 (by decide) ?_
            refine lv_goto (tgt := 254) X.ex X.co dL_areCertificates_250 (by decide) ?_
            exact c_i X hS rfl rfl ⟨rfl, wf, W0, hwf⟩ (by omega) (by omega) dL_areCertificates_254
          · refine lv_aload_n X.ex X.co dL_areCertificates_230 rfl (lv_at hl 0 rfl) ?_
            have hn0 : ¬ nCe σ = 0 := by omega
            have emg : fStandingShare σ = (FP.fdiv (FP.i2f (nI (nCe σ) - nI (revS σ (nCe σ)))) (FP.i2f (nI (nCe σ))), σ) := by
              unfold fStandingShare
              rw [if_neg hn0]
            obtain ⟨fsB, hfB⟩ := CB_at W0.2.1
            refine w_V X ce_X9_standingShare mn_75 (c_X9_standingShare l hst G A hAg b σ W0.1.1.1.1 W0.1.1.1.2 W0.1.1.2) (g0.step hS hA2) ⟨W0.2.1, W0.2.2.1⟩ hfB rfl (by omega) rfl hl.1 rfl (Nat.le_of_ble_eq_true rfl) dL_areCertificates_231 (by omega) (by omega) hS (fun q h => Or.inl h) (fun E ce q9 H locs hB hz hk9 hS hc1 hc2 hc3 => ?_) (fun v0 H locs hB hz hk9 hS => ?_)
            · obtain ⟨k, -, hk, -⟩ := hB
              rw [emg] at hk
              exact absurd (hk.symm.trans W0.1.1.2) (by omega)
            obtain ⟨rfl, hk0, hCB⟩ := hB
            rw [emg] at hCB ⊢
            have W0 : LW G A AO b d σ oad (mR σ) wf H := ⟨W0.1, hCB, fun q hq => W0.2.2.1 q (Nat.le_trans hz hq), W0.2.2.2.kept hdis hk9⟩
            refine lv_aload_n X.ex X.co dL_areCertificates_234 rfl (lv_at hl 1 rfl) ?_
            refine lv_iconst (v := 5) X.ex X.co dL_areCertificates_235 (by decide) ?_
            refine k_ml X g0.1 W0.2.2.2 5 (by omega) (mR_5 σ) dL_areCertificates_236 ?_
            refine lv_iload_n X.ex X.co dL_areCertificates_237 rfl (lv_at hl 3 rfl) ?_
            refine lv_isub X.ex X.co dL_areCertificates_238 ?_
            refine lv_i2f X.ex X.co dL_areCertificates_239 ?_
            refine lv_aload_n X.ex X.co dL_areCertificates_240 rfl (lv_at hl 1 rfl) ?_
            refine lv_iconst (v := 5) X.ex X.co dL_areCertificates_241 (by decide) ?_
            refine k_ml X g0.1 W0.2.2.2 5 (by omega) (mR_5 σ) dL_areCertificates_242 ?_
            refine lv_i2f X.ex X.co dL_areCertificates_243 ?_
            refine lv_fdiv X.ex X.co dL_areCertificates_244 (fp_share _ (nI_nz (by omega) (by omega))) ?_
            refine w_fcmp X (fp_fout _ (nI_nz (by omega) (by omega))) dL_areCertificates_245 ?_
            refine lv_if_ne (tgt := 253) X.ex X.co dL_areCertificates_246 (by decide) (fun c_6 => ?_) (fun c_6 => ?_)
            · exact absurd (by decide) c_6
            · refine lv_iconst (v := 1) X.ex X.co dL_areCertificates_249 (by decide) ?_
              refine lv_goto (tgt := 254) X.ex X.co dL_areCertificates_250 (by decide) ?_
              exact c_i X hS rfl rfl ⟨rfl, wf, W0, hwf⟩ (by omega) (by omega) dL_areCertificates_254
end CERTS
