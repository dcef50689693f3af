/-! ===== what the tables give at the law's entry ===== -/
section EY
variable {s : State} {A : Array Value}
theorem ey_tb {w : Cond} (i : Nat) (h : tables_1[i]? = some w) : w ∈ lw_tbl := List.mem_append_right _ (List.mem_of_getElem? h)
theorem ey_at {T c : Jvm.Cond} (h : T.before A s = true) (i : Nat) (e : (flatC T)[i]? = some c) : c.before A s = true := flat_of_before T h c (List.mem_of_getElem? e)
theorem ey_nw (h : (Jvm.Cond.and given_1 narrow_1).before A s = true) : narrow_1_1.before A s = true ∧ (Jvm.Cond.and narrow_1_4 narrow_1_5).before A s = true := by
  rw [Cond.before_and, Bool.and_eq_true] at h
  have h2 : (Jvm.Cond.and (Jvm.Cond.and narrow_1_1 narrow_1_2) (Jvm.Cond.and narrow_1_3 (Jvm.Cond.and narrow_1_4 narrow_1_5))).before A s = true := h.2
  rw [Cond.before_and, Bool.and_eq_true] at h2
  obtain ⟨h3, h4⟩ := h2
  rw [Cond.before_and, Bool.and_eq_true] at h3 h4
  exact ⟨h3.1, h4.2⟩
theorem ey_kc (hts : ∀ w ∈ lw_tbl, w.before A s = true) : ∃ D : va_G, ∀ (k : Nat) (q : vw_C), vwCl[k]? = some q → u_Kn s q.1 q.2.1 q.2.2 (D.1 k) (D.2 k) := by
  have hA : ∀ w ∈ AW, w.before A s = true := fun w hw => hts w (AW_lw hw)
  have h0 : ∀ k : Nat, ∃ d : ClassId × (Nat → Nat), ∀ q : vw_C, vwCl[k]? = some q → u_Kn s q.1 q.2.1 q.2.2 d.1 d.2 := by
    intro k
    match k with
    | 0 =>
      obtain ⟨c, i, h⟩ := u_known (C := RJ0) (T := TJ0) (N := 4) (n := 4) hA in_J0 (hts _ (ey_tb 337 (by decide +kernel)))
      exact ⟨(c, i), fun q hq => by cases hq; exact h⟩
    | 1 =>
      obtain ⟨c, i, h⟩ := u_known (C := RJ4) (T := TJ4) (N := 4) (n := 4) hA in_J4 (hts _ (ey_tb 73 (by decide +kernel)))
      exact ⟨(c, i), fun q hq => by cases hq; exact h⟩
    | 2 =>
      obtain ⟨c, i, h⟩ := u_known (C := RJx00060) (T := TJx00060) (N := 6) (n := 6) hA in_Jx00060 (hts _ (ey_tb 263 (by decide +kernel)))
      exact ⟨(c, i), fun q hq => by cases hq; exact h⟩
    | 3 =>
      obtain ⟨c, i, h⟩ := u_known (C := RJx7c733) (T := TJx7c733) (N := 6) (n := 6) hA in_Jx7c733 (hts _ (ey_tb 1162 (by decide +kernel)))
      exact ⟨(c, i), fun q hq => by cases hq; exact h⟩
    | 4 =>
      obtain ⟨c, i, h⟩ := u_known (C := RJx4a65c) (T := TJx4a65c) (N := 3) (n := 3) hA in_Jx4a65c (hts _ (ey_tb 47 (by decide +kernel)))
      exact ⟨(c, i), fun q hq => by cases hq; exact h⟩
    | 5 =>
      obtain ⟨c, i, h⟩ := u_known (C := RX0) (T := TX0) (N := 10) (n := 10) hA in_X0 (hts _ (ey_tb 668 (by decide +kernel)))
      exact ⟨(c, i), fun q hq => by cases hq; exact h⟩
    | 6 =>
      obtain ⟨c, i, h⟩ := u_known (C := RX1) (T := TX1) (N := 5) (n := 5) hA in_X1 (hts _ (ey_tb 1042 (by decide +kernel)))
      exact ⟨(c, i), fun q hq => by cases hq; exact h⟩
    | 7 =>
      obtain ⟨c, i, h⟩ := u_known (C := RX2) (T := TX2) (N := 2) (n := 2) hA in_X2 (hts _ (ey_tb 386 (by decide +kernel)))
      exact ⟨(c, i), fun q hq => by cases hq; exact h⟩
    | 8 =>
      obtain ⟨c, i, h⟩ := u_known (C := RX3) (T := TX3) (N := 2) (n := 2) hA in_X3 (hts _ (ey_tb 1013 (by decide +kernel)))
      exact ⟨(c, i), fun q hq => by cases hq; exact h⟩
    | 9 =>
      obtain ⟨c, i, h⟩ := u_known (C := RX4) (T := TX4) (N := 9) (n := 9) hA in_X4 (hts _ (ey_tb 548 (by decide +kernel)))
      exact ⟨(c, i), fun q hq => by cases hq; exact h⟩
    | 10 =>
      obtain ⟨c, i, h⟩ := u_known (C := RX5) (T := TX5) (N := 4) (n := 4) hA in_X5 (hts _ (ey_tb 510 (by decide +kernel)))
      exact ⟨(c, i), fun q hq => by cases hq; exact h⟩
    | 11 =>
      obtain ⟨c, i, h⟩ := u_known (C := RX6) (T := TX6) (N := 3) (n := 3) hA in_X6 (hts _ (ey_tb 197 (by decide +kernel)))
      exact ⟨(c, i), fun q hq => by cases hq; exact h⟩
    | 12 =>
      obtain ⟨c, i, h⟩ := u_known (C := RX7) (T := TX7) (N := 2) (n := 2) hA in_X7 (hts _ (ey_tb 550 (by decide +kernel)))
      exact ⟨(c, i), fun q hq => by cases hq; exact h⟩
    | 13 =>
      obtain ⟨c, i, h⟩ := u_known (C := RX8) (T := TX8) (N := 2) (n := 2) hA in_X8 (hts _ (ey_tb 482 (by decide +kernel)))
      exact ⟨(c, i), fun q hq => by cases hq; exact h⟩
    | 14 =>
      obtain ⟨c, i, h⟩ := u_known (C := RX9) (T := TX9) (N := 11) (n := 11) hA in_X9 (hts _ (ey_tb 39 (by decide +kernel)))
      exact ⟨(c, i), fun q hq => by cases hq; exact h⟩
    | k + 15 => exact ⟨((0 : Nat), fun _ => 0), fun q hq => by simp [vwCl] at hq⟩
  obtain ⟨f, hf⟩ := Classical.axiomOfChoice h0
  exact ⟨(fun k => (f k).1, fun k => (f k).2), fun k q hq => hf k q hq⟩
theorem ey_ar {ty : FieldType} (h : (Cond.arrayClass ty).before A s = true) : ∃ c : ClassId, ArrOfT s c ty ∧ s.vm.findClass ("[" ++ ty.toString) = some c := by
  obtain ⟨c, k, comp, h1, h2, h3⟩ := Cond.arrayClass_spec (args := A) (first := s) (o := none) (s := s) (idx := []) h
  exact ⟨c, fun n z => ⟨fun k h => (by cases h), k, h2, comp, h3⟩, h1⟩
theorem ey_ao {C : String} (h : (Cond.arrayOver (.object C)).before A s = true) : ∃ c : ClassId, ArrOfT s c (.object C) ∧ va_RA s c (.object C) := by
  obtain ⟨comp, c, k, h1, -, h3, h4, h5⟩ := Cond.arrayOver_spec (args := A) (first := s) (o := none) (s := s) (idx := []) h
  exact ⟨c, fun n z => ⟨fun k h => (by cases h), k, h3, comp, h4⟩, k, comp, h3, h4, h1, h5⟩
theorem ey_ka (hts : ∀ w ∈ lw_tbl, w.before A s = true) : ∃ cy : Nat → ClassId, ∀ (k : Nat) (q : ClassId × FieldType), (tyK cy)[k]? = some q → ArrOfT s q.1 q.2 ∧ va_RA s q.1 q.2 := by
  obtain ⟨c0, a0, b0⟩ := ey_ar (ty := .int) (hts _ (ey_tb 607 (by decide +kernel)))
  obtain ⟨c1, a1, b1⟩ := ey_ar (ty := .boolean) (hts _ (ey_tb 1286 (by decide +kernel)))
  obtain ⟨c3, a3, b3⟩ := ey_ar (ty := .byte) (hts _ (ey_tb 104 (by decide +kernel)))
  obtain ⟨c4, a4, b4⟩ := ey_ao (C := "java/lang/Object") (hts _ (ey_tb 456 (by decide +kernel)))
  refine ⟨fun k => match k with | 0 => c0 | 1 => c1 | 3 => c3 | _ => c4, fun k q hq => ?_⟩
  match k, hq with
  | 0, hq => cases hq; exact ⟨a0, b0⟩
  | 1, hq => cases hq; exact ⟨a1, b1⟩
  | 2, hq => cases hq; exact ⟨a3, b3⟩
  | 3, hq => cases hq; exact ⟨a3, b3⟩
  | 4, hq => cases hq; exact ⟨a4, b4⟩
  | 5, hq => cases hq; exact ⟨a0, b0⟩
  | 6, hq => cases hq; exact ⟨a0, b0⟩
  | k + 7, hq => simp [tyK] at hq
theorem ey_sel {y x2 y2 : MethodName} {D : String} {n : Nat} (hy : y.cls ≠ "java/lang/invoke/MethodHandle" ∧ y.cls ≠ "java/lang/invoke/VarHandle") (hins : (Cond.instantiable D n).before A s = true) (hpriv : (Cond.privateMethod y).before A s = true) (hinst : (Cond.instanceMethod y).before A s = true) (hsel : (Cond.selects D x2 y2).before A s = true) (hc : y2.cls = y.cls) : (Cond.selects D y y).before A s = true := by
  obtain ⟨c, k, hc0, hk, -⟩ := Cond.instantiable_spec hins
  obtain ⟨mk, methM, hnamed, hmethM, -, -⟩ := Cond.instanceMethod_spec hinst
  have hfound : s.methodFound? y.cls y.name y.desc = some mk := State.methodFound?_of_named hnamed hy
  have hsl : selectMethod {} s.vm c mk = .method mk := selectMethod_private hmethM (Cond.privateMethod_at hpriv mk methM hnamed hmethM)
  obtain ⟨c9, r9, m9, -, -, hn9, -, mk9, hk9, hi9⟩ := Cond.selects_spec (args := A) (first := s) (o := none) (s := s) (idx := []) hsel
  have h8 := findClass_of_methodNamed hn9
  rw [hc] at h8
  have he : mk.cls = m9.cls := Option.some.inj ((findClass_of_methodNamed hnamed).symm.trans h8)
  rw [← he] at hk9
  simp only [Cond.before, Cond.holds, Cond.value, hc0, hfound, hnamed, hsl, hk9]
  simp
  exact hi9
theorem ey_sb (hts : ∀ w ∈ lw_tbl, w.before A s = true) : ∀ y ∈ sbP, ∀ a : Array Value, (Cond.selects "java/lang/StringBuilder" y y).before a s = true := by
  have hS : (Cond.selects "java/lang/StringBuilder" ⟨"java/lang/AbstractStringBuilder", "isLatin1", "()Z"⟩ ⟨"java/lang/AbstractStringBuilder", "isLatin1", "()Z"⟩).before A s = true := hts _ (ey_tb 839 (by decide +kernel))
  have hI : (Cond.instantiable "java/lang/StringBuilder" 4).before A s = true := hts _ (ey_tb 73 (by decide +kernel))
  have key : ∀ y ∈ sbP, (Cond.selects "java/lang/StringBuilder" y y).before A s = true :=
    List.forall_mem_cons.mpr ⟨ey_sel (by decide +kernel) hI (hts _ (ey_tb 817 (by decide +kernel))) (hts _ (ey_tb 818 (by decide +kernel))) hS rfl, List.forall_mem_cons.mpr ⟨ey_sel (by decide +kernel) hI (hts _ (ey_tb 821 (by decide +kernel))) (hts _ (ey_tb 822 (by decide +kernel))) hS rfl, List.forall_mem_cons.mpr ⟨ey_sel (by decide +kernel) hI (hts _ (ey_tb 877 (by decide +kernel))) (hts _ (ey_tb 878 (by decide +kernel))) hS rfl, List.forall_mem_cons.mpr ⟨ey_sel (by decide +kernel) hI (hts _ (ey_tb 881 (by decide +kernel))) (hts _ (ey_tb 882 (by decide +kernel))) hS rfl, fun _ h => absurd h List.not_mem_nil⟩⟩⟩⟩
  exact fun y hy a => va_any rfl (key y hy)
theorem ey_cd (hts : ∀ w ∈ lw_tbl, w.before A s = true) : ∀ w ∈ tables_1, cdW w = true → va_Nw w s := by
  intro w hw h
  have hb := hts w (List.mem_append_right _ hw)
  cases w with
  | castable C T => exact va_any rfl hb
  | declares x => exact va_any rfl hb
  | _ => cases h
theorem ey_nx (hts : ∀ w ∈ lw_tbl, w.before A s = true) : ∀ C ∈ nX, va_Nw (.castable C "java/lang/Object") s :=
  List.forall_mem_cons.mpr ⟨va_any rfl (hts _ (ey_tb 1315 (by decide +kernel))), List.forall_mem_cons.mpr ⟨va_any rfl (hts _ (ey_tb 1319 (by decide +kernel))), List.forall_mem_cons.mpr ⟨va_any rfl (hts _ (ey_tb 1307 (by decide +kernel))), List.forall_mem_cons.mpr ⟨va_any rfl (hts _ (ey_tb 1318 (by decide +kernel))), List.forall_mem_cons.mpr ⟨va_any rfl (hts _ (ey_tb 1311 (by decide +kernel))), List.forall_mem_cons.mpr ⟨va_any rfl (hts _ (ey_tb 1310 (by decide +kernel))), List.forall_mem_cons.mpr ⟨va_any rfl (hts _ (ey_tb 1309 (by decide +kernel))), fun _ h => absurd h List.not_mem_nil⟩⟩⟩⟩⟩⟩⟩
theorem ey_nc0 : ∀ q ∈ ncX, Jvm.Cond.not (Jvm.Cond.castable q.1 q.2) ∈ flatC narrow_1_1 := by decide +kernel
theorem ey_nc (h1 : narrow_1_1.before A s = true) : ∀ q ∈ ncX, va_Nc q.1 q.2 s := fun q hq => va_Nc.of (flat_of_before _ h1 _ (ey_nc0 q hq))
end EY
