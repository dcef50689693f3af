/-- what an append leaves: the letters before, the new ones behind them -/
def apnd (G : GT) (lv : I2 → Prop) (ad : I2 → Nat) (en : I2 → va_E) (A : Nat → Prop) (i k : I2) (ml : Int32) (n len : Nat) (f t : Nat → Int32) (H : Heap) : Prop := ∃ (q2 m2 : Nat) (f2 : Nat → Int32), (n + len ≤ m2 ∧ m2 ≤ 100) ∧ ((∀ x, x < n → f2 x = f x) ∧ (∀ x, x < len → f2 (n + x) = t x) ∧ (∀ x, x < m2 → fits .byte (.int (f2 x)) = true)) ∧ fw G.1 (fun j => lv j ∨ j = k) (iup ad k q2) (iup (iup en i (SBO q2 ml (n + len))) k (SBA G m2 f2)) A H
theorem cpy_lo {f g : Nat → Int32} {p n x : Nat} (h : x < p) : va_cpy f g 0 p n x = g x := if_neg (by omega)
theorem cpy_in {f g : Nat → Int32} {p n x : Nat} (h : x < n) : va_cpy f g 0 p n (p + x) = f x := (if_pos (by omega)).trans (by rw [Nat.zero_add, Nat.add_sub_cancel_left])
theorem cpy_fit {f g : Nat → Int32} {p n m : Nat} (hf : ∀ x, x < n → fits .byte (.int (f x)) = true) (hg : ∀ x, x < m → fits .byte (.int (g x)) = true) : ∀ x, x < m → fits .byte (.int (va_cpy f g 0 p n x)) = true := by
  intro x hx
  unfold va_cpy
  split
  · exact hf _ (by omega)
  · exact hg x hx
theorem grw_fit {f : Nat → Int32} {m0 m : Nat} (hf : ∀ x, x < m0 → fits .byte (.int (f x)) = true) : ∀ x, x < m → fits .byte (.int (va_cpy f (fun _ => 0) 0 0 m0 x)) = true := by
  intro x hx
  unfold va_cpy
  split
  · exact hf _ (by omega)
  · rfl
theorem grw_lo {f : Nat → Int32} {m0 x : Nat} (h : x < m0) : va_cpy f (fun _ => 0) 0 0 m0 x = f x := (if_pos (by omega)).trans (by rw [Nat.zero_add, Nat.sub_zero])
