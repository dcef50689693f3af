/-! ===== what the reference answers and becomes ===== -/
def putS (σ : Sg) (c : Int32) : Sg := sN (sV σ 42 (nSz σ) c) 43 0 (nSz σ + 1)
def putL (σ : Sg) (L : List Nat) : Sg := L.foldl (fun τ c => putS τ (nI c)) σ
def decS (v : Nat) : List Nat := if v < 10 then [48 + v] else if v < 100 then [48 + v / 10, 48 + v % 10] else [48 + v / 100 % 10, 48 + v / 10 % 10, 48 + v % 10]
def dropL (σ : Sg) (a : Nat) : Nat → Nat × Sg
  | 0 => (0, σ)
  | k + 1 => if app (dropL σ a k).2 k = a then dropL σ a k else ((dropL σ a k).1 + 1, sN (dropL σ a k).2 28 (dropL σ a k).1 (app (dropL σ a k).2 k))
def dropS (σ : Sg) (a : Nat) : Sg := sN (dropL σ a (nAp σ)).2 27 0 (dropL σ a (nAp σ)).1
theorem dropL_le (σ : Sg) (a : Nat) : ∀ k, (dropL σ a k).1 ≤ k
  | 0 => Nat.le_refl 0
  | k + 1 => by
    have := dropL_le σ a k
    simp only [dropL]
    split <;> simp <;> omega
theorem dropL_n (σ : Sg) (a : Nat) : ∀ k, (dropL σ a k).2.1 27 0 = nAp σ
  | 0 => rfl
  | k + 1 => by
    have := dropL_n σ a k
    simp only [dropL]
    split
    · exact this
    · simpa [sN] using this
/-- from a place on, the list is as it was -/
theorem dropL_app (σ : Sg) (a : Nat) : ∀ k j, k ≤ j → app (dropL σ a k).2 j = app σ j
  | 0, j, _ => rfl
  | k + 1, j, h => by
    have h1 := dropL_app σ a k j (by omega)
    have h2 := dropL_le σ a k
    simp only [dropL]
    split
    · exact h1
    · rw [← h1]
      simp only [app, sN]
      rw [if_neg]
      omega
theorem putL_app (σ : Sg) (L M : List Nat) : putL (putL σ L) M = putL σ (L ++ M) := (List.foldl_append ..).symm
theorem putL_1 (σ : Sg) (c : Nat) : putL σ [c] = putS σ (nI c) := rfl
theorem putS_sz (σ : Sg) (c : Int32) : nSz (putS σ c) = nSz σ + 1 := by simp [putS, nSz, sN]
theorem putL_sz (L : List Nat) : ∀ σ : Sg, nSz (putL σ L) = nSz σ + L.length := by
  induction L with
  | nil => intro σ; rfl
  | cons c L ih => intro σ; show nSz (putL (putS σ (nI c)) L) = _; rw [ih, putS_sz]; simp; omega
theorem decS_len (v : Nat) : (decS v).length ≤ 3 := by
  unfold decS
  split
  · simp
  · split <;> simp
theorem nar_c {n : Nat} (h : n < 65536) : vp_nar .char (nI n) = nI n := by
  rw [vp_nar_char]
  have := n_i2c h
  simpa using this
