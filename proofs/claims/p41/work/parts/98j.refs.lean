/-! ===== every String constant of the tables is there ===== -/
def srB (w : Jvm.Cond) : Bool := match w with
  | .stringRef o k _ => (flatC narrow_1).any (fun v => match v with
      | .exactly (.string o2 k2) c => decide (o2 = o) && decide (k2 = k) && decide (c = "java/lang/String")
      | _ => false)
  | _ => true
theorem ey_sr : tables_1.all srB = true := by decide +kernel
theorem ey_refs {s : State} {A : Array Value} (hts : ∀ w ∈ lw_tbl, w.before A s = true) (hgv : (Jvm.Cond.and given_1 narrow_1).before A s = true) : ∀ q : String × Nat × String, Cond.stringRef q.1 q.2.1 q.2.2 ∈ tables_1 → ∃ a, vk_R q.1 q.2.1 q.2.2 a s := by
  intro q hq
  have h := List.all_eq_true.mp ey_sr _ hq
  simp only [srB, List.any_eq_true] at h
  obtain ⟨v, hv, hb⟩ := h
  have h1 := hgv
  rw [Cond.before_and, Bool.and_eq_true] at h1
  have hx := flat_of_before _ h1.2 v hv
  have he : v = Cond.exactly (.string q.1 q.2.1) "java/lang/String" := by
    split at hb
    · simp only [Bool.and_eq_true, decide_eq_true_eq] at hb
      obtain ⟨⟨rfl, rfl⟩, rfl⟩ := hb
      rfl
    · cases hb
  rw [he] at hx
  obtain ⟨a, c, cell, kk, q1, -⟩ := Cond.exactly_spec (args := A) (first := s) (o := none) (s := s) (idx := []) hx
  exact ⟨a, vk_R.of (hts _ (List.mem_append_right _ hq)) q1⟩
