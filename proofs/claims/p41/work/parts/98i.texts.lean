/-! ===== texts and statics at the law's entry ===== -/
section EZ
variable {s : State} {A : Array Value} {Ap : Nat → Prop}
def kTx : List Nat := [sx_ans, sx_col, sx_pas, sx_fai, sx_by]
def bTx : List Nat := [295, 306, 312, 323, 334]
def vTx (k : Nat) : Term := .field (.string "CourseForge" k) "java/lang/String" "value" "[B"
theorem ey_tx : ∀ i, i < 5 → (flatC (Jvm.Cond.and narrow_1_4 narrow_1_5))[bTx.getD i 0]? = some (Jvm.Cond.exactly (.string "CourseForge" (kTx.getD i 0)) "java/lang/String")
    ∧ (flatC (Jvm.Cond.and narrow_1_4 narrow_1_5))[bTx.getD i 0 + 1]? = some (Jvm.Cond.eq (.field (.string "CourseForge" (kTx.getD i 0)) "java/lang/String" "coder" "B") (.int 0))
    ∧ (flatC (Jvm.Cond.and narrow_1_4 narrow_1_5))[bTx.getD i 0 + 2]? = some (Jvm.Cond.arrayOf (vTx (kTx.getD i 0)) .byte)
    ∧ (flatC (Jvm.Cond.and narrow_1_4 narrow_1_5))[bTx.getD i 0 + 3]? = some (Jvm.Cond.eq (.length (vTx (kTx.getD i 0))) (.int (Int32.ofNat (tLL.getD i 0))))
    ∧ ∀ j, j < tLL.getD i 0 → (flatC (Jvm.Cond.and narrow_1_4 narrow_1_5))[bTx.getD i 0 + 4 + j]? = some (Jvm.Cond.eq (.elem (vTx (kTx.getD i 0)) (.int (Int32.ofNat j))) (.int ((tBL.getD i []).getD j 0))) := by decide +kernel
theorem ey_d1 : ∀ j, j < 100 → (flatC narrow_1_1)[16 + j]? = some (Jvm.Cond.eq (.elem (.static "java/lang/Integer" "DigitOnes" "[B") (.int (Int32.ofNat j))) (.int (nI (48 + j % 10)))) := by decide +kernel
theorem ey_d2 : ∀ j, j < 100 → (flatC narrow_1_1)[119 + j]? = some (Jvm.Cond.eq (.elem (.static "java/lang/Integer" "DigitTens" "[B") (.int (Int32.ofNat j))) (.int (nI (48 + j / 10)))) := by decide +kernel
theorem ey_one {k n : Nat} {bs : List Int32} (hn : n < 2 ^ 31) (hex : (Cond.exactly (.string "CourseForge" k) "java/lang/String").before A s = true) (hco : (Cond.eq (.field (.string "CourseForge" k) "java/lang/String" "coder" "B") (.int 0)).before A s = true) (har : (Cond.arrayOf (vTx k) .byte).before A s = true) (hle : (Cond.eq (.length (vTx k)) (.int (Int32.ofNat n))).before A s = true) (hel : ∀ j, j < n → (Cond.eq (.elem (vTx k) (.int (Int32.ofNat j))) (.int (bs.getD j 0))).before A s = true) (hA : ∀ a : Nat, a < s.heap.size → ¬ Ap a) : ∃ q : Nat × Nat, (Term.string "CourseForge" k).eval A s none [] s = some (.ref q.1) ∧ va_O "java/lang/String" q.1 Ap s s.heap ∧ va_OF "java/lang/String" "coder" "B" (.int 0) q.1 Ap s s.heap ∧ va_OF "java/lang/String" "value" "[B" (.ref q.2) q.1 Ap s s.heap ∧ va_T .byte q.2 n (fun j => .int (bs.getD j 0)) Ap s s.heap := by
  obtain ⟨a, c, cell, kk, q1, q2, q3, q4, q5, q6, -⟩ := Cond.exactly_spec (args := A) (first := s) (o := none) (s := s) (idx := []) hex
  obtain ⟨t, ht, hT⟩ := va_Tof (f := fun j => .int (bs.getD j 0)) (A := Ap) hn har (va_eqt hle) (fun j hj => va_eqt (hel j hj)) hA
  exact ⟨(a, t), q1, ⟨cell, q3, q5, by rw [q6]; exact q2, hA a (Array.getElem?_eq_some_iff.mp q3).1⟩, vk_OFof q1 (va_eqt hco) hA, vk_OFof q1 ht hA, hT⟩
theorem ey_len : ∀ i, i < 5 → 2 ≤ tLL.getD i 0 ∧ tLL.getD i 0 < 2 ^ 31 := by decide
theorem ey_dif : ∀ i, i < 5 → ∀ j, j < 5 → (tBL.getD i []).getD 0 0 = (tBL.getD j []).getD 0 0 → (tBL.getD i []).getD 1 0 = (tBL.getD j []).getD 1 0 → i = j := by decide +kernel
/-- the five texts: addresses of the strings and of their rows -/
theorem ey_txt (h45 : (Jvm.Cond.and narrow_1_4 narrow_1_5).before A s = true) (hA : ∀ a : Nat, a < s.heap.size → ¬ Ap a) : ∃ f g : Nat → Nat, vk_S 5 tLL tBL f g Ap s s.heap ∧ ∀ i, i < 5 → (Term.string "CourseForge" (kTx.getD i 0)).eval A s none [] s = some (.ref (f i)) := by
  have h0 : ∀ i : Nat, ∃ q : Nat × Nat, i < 5 → (Term.string "CourseForge" (kTx.getD i 0)).eval A s none [] s = some (.ref q.1) ∧ va_O "java/lang/String" q.1 Ap s s.heap ∧ va_OF "java/lang/String" "coder" "B" (.int 0) q.1 Ap s s.heap ∧ va_OF "java/lang/String" "value" "[B" (.ref q.2) q.1 Ap s s.heap ∧ va_T .byte q.2 (tLL.getD i 0) (fun j => .int ((tBL.getD i []).getD j 0)) Ap s s.heap := by
    intro i
    by_cases hi : i < 5
    · obtain ⟨e1, e2, e3, e4, e5⟩ := ey_tx i hi
      obtain ⟨q, hq⟩ := ey_one (Ap := Ap) (ey_len i hi).2 (ey_at h45 _ e1) (ey_at h45 _ e2) (ey_at h45 _ e3) (ey_at h45 _ e4) (fun j hj => ey_at h45 _ (e5 j hj)) hA
      exact ⟨q, fun _ => hq⟩
    · exact ⟨(0, 0), fun h => absurd h hi⟩
  obtain ⟨ad, had⟩ := Classical.axiomOfChoice h0
  refine ⟨fun i => (ad i).1, fun i => (ad i).2, ⟨fun i hi => (had i hi).2, fun i j hi hj e => ?_⟩, fun i hi => (had i hi).1⟩
  obtain ⟨-, -, -, ⟨cf, kf, fi, ff, ce, x1, x2, x3, x4, x5, -⟩, ⟨c1, y1, y2, y3, y4, y5, y6, -⟩⟩ := had i hi
  obtain ⟨-, -, -, ⟨cf', kf', fi', ff', ce', z1, z2, z3, z4, z5, -⟩, ⟨c2, w1, w2, w3, w4, w5, w6, -⟩⟩ := had j hj
  have e : (ad i).1 = (ad j).1 := e
  cases x1.symm.trans z1
  rw [e] at x3
  cases x3.symm.trans z3
  have e2 : (ad i).2 = (ad j).2 := Value.ref.inj (Option.some.inj (x5.symm.trans z5))
  rw [e2] at y1
  cases y1.symm.trans w1
  have v0 := Value.int.inj (Option.some.inj ((y6 0 (Nat.lt_of_lt_of_le (by decide) (ey_len i hi).1)).symm.trans (w6 0 (Nat.lt_of_lt_of_le (by decide) (ey_len j hj).1))))
  have v1 := Value.int.inj (Option.some.inj ((y6 1 (Nat.lt_of_lt_of_le (by decide) (ey_len i hi).1)).symm.trans (w6 1 (Nat.lt_of_lt_of_le (by decide) (ey_len j hj).1))))
  exact ey_dif i hi j hj v0 v1
theorem ey_ad (f g : Nat → Nat) (t0 d1 d2 mi sz : Nat) : ∃ ad : Nat → Nat, ad 0 = t0 ∧ ad 1 = d1 ∧ ad 2 = d2 ∧ ad 4 = mi ∧ ad 100 = sz ∧ (∀ i, i < 5 → ad (10 + i) = f i) ∧ (∀ i, i < 5 → ad (20 + i) = g i) := by
  refine ⟨fun n => if n = 100 then sz else if n = 0 then t0 else if n = 1 then d1 else if n = 2 then d2 else if n = 4 then mi else if n < 20 then f (n - 10) else g (n - 20), rfl, rfl, rfl, rfl, rfl, fun i hi => ?_, fun i hi => ?_⟩
  · have h1 : ¬ 10 + i = 100 := by omega
    have h2 : ¬ 10 + i = 0 := by omega
    have h3 : ¬ 10 + i = 1 := by omega
    have h4 : ¬ 10 + i = 2 := by omega
    have h5 : ¬ 10 + i = 4 := by omega
    have h6 : 10 + i < 20 := by omega
    show (if 10 + i = 100 then sz else if 10 + i = 0 then t0 else if 10 + i = 1 then d1 else if 10 + i = 2 then d2 else if 10 + i = 4 then mi else if 10 + i < 20 then f (10 + i - 10) else g (10 + i - 20)) = f i
    rw [if_neg h1, if_neg h2, if_neg h3, if_neg h4, if_neg h5, if_pos h6, Nat.add_sub_cancel_left]
  · have h1 : ¬ 20 + i = 100 := by omega
    have h2 : ¬ 20 + i = 0 := by omega
    have h3 : ¬ 20 + i = 1 := by omega
    have h4 : ¬ 20 + i = 2 := by omega
    have h5 : ¬ 20 + i = 4 := by omega
    have h6 : ¬ 20 + i < 20 := by omega
    show (if 20 + i = 100 then sz else if 20 + i = 0 then t0 else if 20 + i = 1 then d1 else if 20 + i = 2 then d2 else if 20 + i = 4 then mi else if 20 + i < 20 then f (20 + i - 10) else g (20 + i - 20)) = g i
    rw [if_neg h1, if_neg h2, if_neg h3, if_neg h4, if_neg h5, if_neg h6, Nat.add_sub_cancel_left]
end EZ
