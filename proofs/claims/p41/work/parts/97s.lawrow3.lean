/-! ===== the law's rows ===== -/
theorem nI_ne1 {n : Nat} (h : n < 2 ^ 31) : ¬ nI n = -2001 := fun z => nI_pos h (by rw [z]; decide)
theorem nI_ne2 {n : Nat} (h : n < 2 ^ 31) : ¬ nI n = -2002 := fun z => nI_pos h (by rw [z]; decide)
theorem nI_ne4 {n : Nat} (h : n < 2 ^ 31) : ¬ nI n = -2004 := fun z => nI_pos h (by rw [z]; decide)
/-- what the law's rounds keep -/
def LZ (k d : Nat) (σ : Sg) : Prop := 1 ≤ nSt σ ∧ nSt σ ≤ 4 ∧ d ≤ 4 * k ∧ (3 ≤ nLe σ ∨ k ≤ nLe σ) ∧ (4 ≤ k → 1 ≤ nEx σ)
section PICK
variable {p : Program} {l : Launch} {e : Env} {hR rc rs : Nat} {s : State} {m : MethodId} {args : Array Value} {below : List Frame} {meth : Method} {c : Code} {H : Heap} {locs : List Loc} {cells slots : Nat} {Q : State → Prop}
variable {cc : ByteArray} {pc nL : Nat} {ls : Array Slot} {rest : List Value} {ret : Option FieldType} {G : GT} {A2 : Nat → Prop} {sx L i k : Nat} {xs : Nat → Int32}
theorem k_pickV (X : CF p s m args meth c cc nL "CourseForgeLaw" ret) (hX : va_X sx L xs s s.heap) (hxl : sx < s.heap.size) (hxA : ¬ A2 sx) (g0 : GG G s s.heap) (hA2 : ∀ q, A2 q → gA G q) (hS : va_S A2 s.heap H locs) (hL : L ≤ 2560) (hi : i ≤ 2560) (hk : 0 < k) (hk2 : k < 2 ^ 31) (hh : 2 ≤ hR) (hls : ls.size = nL) (hW : (rest.map fun v => v.category).sum ≤ 8) (hdg : decode cc pc = .ok (.invokestatic 176, 3)) (h1 : cells ≤ rc) (h2 : slots ≤ rs)
    (kk : W p l e (RM hR rc rs) s m args below meth c H locs cells slots Q (F0 m (pc + 3) ls (.int (nI (pkN xs L i k)) :: rest))) : W p l e (RM hR rc rs) s m args below meth c H locs cells slots Q (F0 m pc ls (.int (nI k) :: .int (nI i) :: .ref sx :: rest)) :=
  q_rSX X ce_L_pick mn_6 (c_L_pick l G sx L xs i k hL hi hk hk2) (g0.step hS hA2) (hX.kept (hS.2.1 sx hxl hxA)) hh rfl hls rfl hW hdg h1 h2 kk
theorem k_pick (X : CF p s m args meth c cc nL "CourseForgeLaw" ret) (hX : va_X sx L xs s s.heap) (hxl : sx < s.heap.size) (hxA : ¬ A2 sx) (g0 : GG G s s.heap) (hA2 : ∀ q, A2 q → gA G q) (hS : va_S A2 s.heap H locs) (hL : L ≤ 2560) (hi : i ≤ 2560) (hk : 0 < k) (hk2 : k < 2 ^ 31) (hh : 2 ≤ hR) (hls : ls.size = nL) (hW : (rest.map fun v => v.category).sum ≤ 8) (hdg : decode cc pc = .ok (.invokestatic 176, 3)) (h1 : cells ≤ rc) (h2 : slots ≤ rs)
    (kk : ∀ q, q < k → W p l e (RM hR rc rs) s m args below meth c H locs cells slots Q (F0 m (pc + 3) ls (.int (nI q) :: rest))) : W p l e (RM hR rc rs) s m args below meth c H locs cells slots Q (F0 m pc ls (.int (nI k) :: .int (nI i) :: .ref sx :: rest)) :=
  k_pickV X hX hxl hxA g0 hA2 hS hL hi hk hk2 hh hls hW hdg h1 h2 (kk _ (pkN_lt hk))
end PICK
/-! the law's numbers, changed -/
theorem mR_u {σ τ : Sg} {j : Nat} {v : Int32} (hv : v = mR τ j) (h : ∀ x, x ≠ j → mR σ x = mR τ x) : upd (mR σ) j v = mR τ := by
  funext x
  by_cases q : x = j
  · subst q
    rw [pk_us, hv]
  · rw [pk_un q]
    exact h x q
theorem mR_s {σ τ : Sg} {j : Nat} {v : Int32} (hv : v = mR τ j) (h1 : j = 1 ∨ nSt τ = nSt σ) (h2 : j = 2 ∨ nLe τ = nLe σ) (h3 : nEx τ = nEx σ) (h4 : j = 4 ∨ nCr τ = nCr σ) (h5 : j = 5 ∨ nCe τ = nCe σ) (h6 : ∀ e, e < nEx σ → les τ e = les σ e) : upd (mR σ) j v = mR τ := mR_u hv fun x hx => by
  unfold mR
  congr 1
  split
  · rfl
  · split
    · rcases h1 with h | h <;> omega
    · split
      · rcases h2 with h | h <;> omega
      · split
        · exact h3.symm
        · split
          · rcases h4 with h | h <;> omega
          · split
            · rcases h5 with h | h <;> omega
            · rw [h3]
              split
              · exact (h6 _ (by omega)).symm
              · rfl
theorem mR_x {σ τ : Sg} {q : Nat} (h1 : nSt τ = nSt σ) (h2 : nLe τ = nLe σ) (h3 : nEx τ = nEx σ + 1) (h4 : nCr τ = nCr σ) (h5 : nCe τ = nCe σ) (h6 : ∀ e, e < nEx σ → les τ e = les σ e) (h7 : les τ (nEx σ) = q) : upd (upd (mR σ) (10 + nEx σ) (nI q)) 3 (nI (nEx σ + 1)) = mR τ := by
  funext x
  by_cases c3 : x = 3
  · subst c3
    rw [pk_us, ← h3]
    rfl
  · rw [pk_un c3]
    by_cases cx : x = 10 + nEx σ
    · subst cx
      rw [pk_us]
      unfold mR
      rw [if_neg (by omega), if_neg (by omega), if_neg (by omega), if_neg (by omega), if_neg (by omega), if_neg (by omega), if_pos (by omega), show 10 + nEx σ - 10 = nEx σ by omega, h7]
    · rw [pk_un cx]
      unfold mR
      congr 1
      rw [h1, h2, h4, h5]
      repeat' split
      all_goals first | rfl | omega | exact (h6 _ (by omega)).symm
theorem mn8 {n : Nat} (h : n < 8) : (if nI (n + 1) < 8 then nI (n + 1) else 8) = nI (n + 1) := by
  split
  · rfl
  · rename_i hc
    rcases Nat.lt_or_ge (n + 1) 8 with q | q
    · exact absurd (show nI (n + 1) < nI 8 from nI_lt q (by omega)) hc
    · rw [show n + 1 = 8 by omega]
      rfl
theorem mn8e {n : Nat} (h : n = 8) : (if nI (n + 1) < 8 then nI (n + 1) else 8) = nI 8 := by
  subst h
  rfl
theorem mn100 {g : Nat} (h : g ≤ 200) : (if nI g < 100 then nI g else 100) = nI (if g < 100 then g else 100) := by
  by_cases q : g < 100
  · rw [if_pos (show nI g < 100 from nI_lt (b := 100) q (by omega)), if_pos q]
  · rw [if_neg (show ¬ nI g < 100 from nI_nlt (b := 100) (by omega) (by omega)), if_neg q]
    rfl
theorem ce_L_isMend : ceS yL_isMend cL_isMend 17 ((Option.some FieldType.boolean)) 5 := ⟨mn_77, m_0, mn_78, ⟨by decide, by decide, by decide +kernel⟩, by decide⟩
theorem ce_L_isDay : ceS yL_isDay cL_isDay 7 ((Option.some FieldType.boolean)) 3 := ⟨mn_82, m_0, mn_83, ⟨by decide, by decide, by decide +kernel⟩, by decide⟩
theorem ce_L_areGrades : ceS yL_areGrades cL_areGrades 8 ((Option.some FieldType.boolean)) 2 := ⟨mn_65, m_0, mn_66, ⟨by decide, by decide, by decide +kernel⟩, by decide⟩
theorem ce_L_areMasteries : ceS yL_areMasteries cL_areMasteries 10 ((Option.some FieldType.boolean)) 2 := ⟨mn_69, m_0, mn_70, ⟨by decide, by decide, by decide +kernel⟩, by decide⟩
theorem ce_L_areCertificates : ceS yL_areCertificates cL_areCertificates 8 ((Option.some FieldType.boolean)) 3 := ⟨mn_72, m_0, mn_73, ⟨by decide, by decide, by decide +kernel⟩, by decide⟩
