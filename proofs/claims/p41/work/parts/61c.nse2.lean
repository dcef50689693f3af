set_option maxHeartbeats 4000000 in
theorem x_throwN {p : Program} {l : Launch} {e : Env} {hR rc rs : Nat} {s : State} {m : MethodId} {args : Array Value} {below : List Frame} {meth : Method} {c : Code} {H : Heap} {locs : List Loc} {cells slots : Nat} {cc : ByteArray} {pc nL : Nat} {ls : Array Slot} {rest : List Value} {ret : Option FieldType} {G : GT} {A : Nat → Prop} {B : Option Value → Heap → Prop} {BX : String → Heap → Prop}
    (X : CF p s m args meth c cc nL "CourseForge" ret) (hst : l.stackTraces = false) (g0 : GG G s s.heap) (hAg : ∀ q, A q → gA G q) (hS : va_S A s.heap H locs) (hno : ∀ x ∈ c.exceptionTable.toList, False) {cls text : String} {is : Nat} (hcls : Bundle.fit cls = true) (hk : Cond.classLink "CourseForge" 197 nsX ∈ AW) (hini : Cond.initialized nsX ∈ AW) (hat : ∀ w ∈ nsW, okW w) (hstr : Cond.stringRef "CourseForge" is text ∈ tables_1) (hls : ls.size = nL)
    (d0 : decode cc pc = .ok (.new 197, 3)) (d3 : decode cc (pc + 3) = .ok (.dup, 1)) (d4 : decode cc (pc + 4) = .ok (.ldc is, 2)) (d6 : decode cc (pc + 6) = .ok (.invokespecial 201, 3)) (d9 : decode cc (pc + 9) = .ok (.athrow, 1))
    (hW : (rest.map fun v => v.category).sum ≤ 8) (h1 : cells + 1 ≤ rc) (h2 : slots + 6 ≤ rs)
    (kx : ∀ H1 : Heap, H.size ≤ H1.size → (∀ q : Nat, q < H.size → H1[q]? = H[q]?) → BX nsX H1) :
    W p l e (RM hR rc rs) s m args below meth c H locs cells slots (vx_MQ below (cQ B A) (cX BX A) args s rc rs A) (F0 m pc ls rest) := by
  obtain ⟨sa, hsa⟩ := g0.2.1.2.2.1 ("CourseForge", is, text) hstr
  have hexec := X.ex
  have hb := X.co
  have hown := X.ow
  have hlocks := X.lk
  have hU := g0.2.2.1.1.narrow hAg
  have hN := g0.2.2.1.2.narrow hAg
  have hword : ∀ w ∈ nsW.filter vx_no, w.before args s = true ∧ vx_ot w = true := fun w hw => by
    have h9 := hat w (List.mem_filter.mp hw).1 (List.mem_filter.mp hw).2
    refine ⟨?_, ot_ok h9⟩
    rcases h9 with h9 | ⟨h9, h8⟩
    · exact X.ts _ h9
    · exact va_Nw.use (by cases w <;> first | rfl | cases h8) (g0.2.1.2.2.2.2.2.2.2.1 w h9 h8)
  intro T hT X0
  have htr : e.platform.stackTraces = false := (show e.platform.stackTraces = l.stackTraces by rw [X0.admits.platform]).trans hst
  have Y := vx_rebase X0 (R' := { frames := (RM hR rc rs).frames, locals := (RM hR rc rs).locals, cells := 1, slots := 6 }) (Nat.le_refl _) (Nat.le_refl _) h1 h2
  obtain ⟨s', hA⟩ : ∃ z, z = (T.setVm s.vm).setFrames (.invoking m args :: below) := ⟨_, rfl⟩
  rw [← hA] at Y
  have hvm : s'.vm = s.vm := by rw [hA]; rfl
  have hhp : s'.heap = H := by rw [hA]; exact hT
  have hW0 : s.WarmedH s'.vm := by rw [hvm]; exact State.WarmedH.refl s
  have hat' : ∀ w ∈ nsW.filter vx_no, w.before args s' = true := fun w hw => vx_ot_at hW0 hvm.symm (hword w hw).2 (hword w hw).1
  have hk' : (Cond.classLink "CourseForge" 197 nsX).before args s' = true := vx_ot_at hW0 hvm.symm rfl (X.ts _ hk)
  have hini' : (Cond.initialized nsX).before args s' = true := vx_ot_at hW0 hvm.symm rfl (X.ts _ hini)
  have hU' : vx_Zq Bundle.tN "UNASSIGNED_STACK" Bundle.steD A s' s'.heap := by rw [hhp]; exact vx_Zq.moved hW0.alike (hU.kept hS.2.1)
  have hN' : vx_Zq Bundle.tN "SUPPRESSED_SENTINEL" Bundle.listD A s' s'.heap := by rw [hhp]; exact vx_Zq.moved hW0.alike (hN.kept hS.2.1)
  have h : ∀ w ∈ nsW, w.before args s' = true := vx_own hat' (vx_isRefq hU'.1) (vx_isRefq hN'.1) hU'.2.word hN'.2.word
  have hown' : s'.vm.findClass "CourseForge" = some m.cls := by rw [hvm]; exact hown
  have hins : (Cond.instantiable nsX 6).before args s' = true := h _ (nsW_R 1 rfl)
  obtain ⟨vm₁, cX, kX, hfX, hkX, -, -, X₁, st1⟩ := Y.newCold hexec (own := "CourseForge") (C := nsX) (index := 197) (n := 6) hown' hk' hins hini'
    (g := F0 m pc ls rest) rfl (by rw [hb]; exact d0) (Nat.le_refl _) (Nat.le_refl _)
  generalize hT1 : (T.setVm vm₁).pushCell { cls := cX, slots := kX.instanceTypes.map defaultValue, vm := .none } = T1 at X₁ st1
  have hcat : (Value.ref T.heap.size).category = 1 := rfl
  have hcellA : T1.heap[T.heap.size]? = some (freshCell cX kX) := by rw [← hT1]; exact State.heap_pushCell_size _ _
  have d3' : decode c.code (pc + 3) = .ok (.dup, 1) := by rw [hb]; exact d3
  have d4' : decode c.code (pc + 4) = .ok (.ldc is, 2) := by rw [hb]; exact d4
  have hstr' : vk_R "CourseForge" is text sa s' := vk_R.warm hW0 hsa
  obtain ⟨U, hsteps, hrun, hend, hW9, hsame, ce, hce, hcv, hcl0⟩ := ns_ctor X₁ hexec htr hown' h (fun x hx => nomatch hx) hfX hkX hcellA (by rw [hhp, hT]; exact Nat.le_refl _) (msg := .ref sa) rfl
    (g := { method := m, pc := pc + 6, locals := ls, stack := .ref sa :: .ref T.heap.size :: .ref T.heap.size :: rest, locked := none }) rfl (hls.trans X.ml.symm) rfl rfl (rest := rest) rfl
    (by rw [hb]; exact d6) (by rw [hb]; exact d9) (fun x hx => (hno x hx).elim) (by show 2 + 3 < 10 + hR; omega) (by simp only [List.map_cons, List.sum_cons, hcat]; show 2 * 0 + (1 + _) + _ ≤ 400 + 100 * hR; omega) hlocks
  obtain ⟨f1, f2⟩ := vx_frame hsame
  rw [hhp] at f1 f2
  have hWs : s.WarmedH U.vm := State.WarmedH.trans hW0 hW9
  have hcl : s.vm.findClass nsX = some ce.cls := by
    rw [hvm] at hcl0
    exact hcl0
  have hall : s.sameButNew ({ U with vm := s.vm } : State) locs rc rs := by
    subst hA
    obtain ⟨e1, e2⟩ := hsame
    rw [State.setFrames_setFrames] at e1
    have h9 : (T.setVm s.vm).sameButNew ({ U with vm := s.vm } : State) [] (0 + 1) (0 + 6) := ⟨e1, e2⟩
    have h3 := X0.same.trans h9
    rw [List.append_nil] at h3
    exact h3.mono h1 h2
  have f2' : ∀ q : Nat, q < H.size → U.heap[q]? = H[q]? := fun q hq => f2 q hq (fun z hz => nomatch hz)
  refine ⟨U, ?_, .threw T.heap.size, hrun, hend, Or.inr ⟨T.heap.size, rfl, nsX, ce, locs, ⟨kx U.heap f1 f2', Nat.le_trans hS.1 f1, fun q h3 h4 => (f2' q (Nat.lt_of_lt_of_le h3 hS.1)).trans (hS.2.1 q h3 h4)⟩, hce, hcv, hcl, hWs, hall, hS.2.2⟩⟩
  refine st1 _ ?_
  show Steps p.tables e below (T1.setTop { method := m, pc := pc + 3, locals := ls, stack := .ref T.heap.size :: rest, locked := none }) _
  jvm_step X₁.here [X₁.here.top, hexec, d3', Value.category]
  exact X₁.ldcString hexec (own := "CourseForge") (text := text) (index := is) (a := sa) hown' hstr'.1 hstr'.2
    (g := { method := m, pc := pc + 4, locals := ls, stack := .ref T.heap.size :: .ref T.heap.size :: rest, locked := none }) rfl d4' _ hsteps
set_option maxHeartbeats 4000000 in
theorem x_throwNW {p : Program} {l : Launch} {e : Env} {hR rc rs : Nat} {s : State} {m : MethodId} {args : Array Value} {below : List Frame} {meth : Method} {c : Code} {H : Heap} {locs : List Loc} {cells slots : Nat} {cc : ByteArray} {pc nL : Nat} {ls : Array Slot} {rest : List Value} {ret : Option FieldType} {G : GT} {A : Nat → Prop} {B : Option Value → Heap → Prop} {BX : String → Heap → Prop}
    (X : CF p s m args meth c cc nL "CourseForge" ret) (hst : l.stackTraces = false) (g0 : GG G s s.heap) (hAg : ∀ q, A q → gA G q) (hS : va_S A s.heap H locs) (hno : ∀ x ∈ c.exceptionTable.toList, False) {cls text : String} {is : Nat} (hcls : Bundle.fit cls = true) (hk : Cond.classLink "CourseForge" 197 nsX ∈ AW) (hini : Cond.initialized nsX ∈ AW) (hat : ∀ w ∈ nsW, okW w) (hstr : Cond.stringRef "CourseForge" is text ∈ tables_1) (hls : ls.size = nL)
    (d0 : decode cc pc = .ok (.new 197, 3)) (d3 : decode cc (pc + 3) = .ok (.dup, 1)) (d4 : decode cc (pc + 4) = .ok (.ldc_w is, 3)) (d6 : decode cc (pc + 7) = .ok (.invokespecial 201, 3)) (d9 : decode cc (pc + 10) = .ok (.athrow, 1))
    (hW : (rest.map fun v => v.category).sum ≤ 8) (h1 : cells + 1 ≤ rc) (h2 : slots + 6 ≤ rs)
    (kx : ∀ H1 : Heap, H.size ≤ H1.size → (∀ q : Nat, q < H.size → H1[q]? = H[q]?) → BX nsX H1) :
    W p l e (RM hR rc rs) s m args below meth c H locs cells slots (vx_MQ below (cQ B A) (cX BX A) args s rc rs A) (F0 m pc ls rest) := by
  obtain ⟨sa, hsa⟩ := g0.2.1.2.2.1 ("CourseForge", is, text) hstr
  have hexec := X.ex
  have hb := X.co
  have hown := X.ow
  have hlocks := X.lk
  have hU := g0.2.2.1.1.narrow hAg
  have hN := g0.2.2.1.2.narrow hAg
  have hword : ∀ w ∈ nsW.filter vx_no, w.before args s = true ∧ vx_ot w = true := fun w hw => by
    have h9 := hat w (List.mem_filter.mp hw).1 (List.mem_filter.mp hw).2
    refine ⟨?_, ot_ok h9⟩
    rcases h9 with h9 | ⟨h9, h8⟩
    · exact X.ts _ h9
    · exact va_Nw.use (by cases w <;> first | rfl | cases h8) (g0.2.1.2.2.2.2.2.2.2.1 w h9 h8)
  intro T hT X0
  have htr : e.platform.stackTraces = false := (show e.platform.stackTraces = l.stackTraces by rw [X0.admits.platform]).trans hst
  have Y := vx_rebase X0 (R' := { frames := (RM hR rc rs).frames, locals := (RM hR rc rs).locals, cells := 1, slots := 6 }) (Nat.le_refl _) (Nat.le_refl _) h1 h2
  obtain ⟨s', hA⟩ : ∃ z, z = (T.setVm s.vm).setFrames (.invoking m args :: below) := ⟨_, rfl⟩
  rw [← hA] at Y
  have hvm : s'.vm = s.vm := by rw [hA]; rfl
  have hhp : s'.heap = H := by rw [hA]; exact hT
  have hW0 : s.WarmedH s'.vm := by rw [hvm]; exact State.WarmedH.refl s
  have hat' : ∀ w ∈ nsW.filter vx_no, w.before args s' = true := fun w hw => vx_ot_at hW0 hvm.symm (hword w hw).2 (hword w hw).1
  have hk' : (Cond.classLink "CourseForge" 197 nsX).before args s' = true := vx_ot_at hW0 hvm.symm rfl (X.ts _ hk)
  have hini' : (Cond.initialized nsX).before args s' = true := vx_ot_at hW0 hvm.symm rfl (X.ts _ hini)
  have hU' : vx_Zq Bundle.tN "UNASSIGNED_STACK" Bundle.steD A s' s'.heap := by rw [hhp]; exact vx_Zq.moved hW0.alike (hU.kept hS.2.1)
  have hN' : vx_Zq Bundle.tN "SUPPRESSED_SENTINEL" Bundle.listD A s' s'.heap := by rw [hhp]; exact vx_Zq.moved hW0.alike (hN.kept hS.2.1)
  have h : ∀ w ∈ nsW, w.before args s' = true := vx_own hat' (vx_isRefq hU'.1) (vx_isRefq hN'.1) hU'.2.word hN'.2.word
  have hown' : s'.vm.findClass "CourseForge" = some m.cls := by rw [hvm]; exact hown
  have hins : (Cond.instantiable nsX 6).before args s' = true := h _ (nsW_R 1 rfl)
  obtain ⟨vm₁, cX, kX, hfX, hkX, -, -, X₁, st1⟩ := Y.newCold hexec (own := "CourseForge") (C := nsX) (index := 197) (n := 6) hown' hk' hins hini'
    (g := F0 m pc ls rest) rfl (by rw [hb]; exact d0) (Nat.le_refl _) (Nat.le_refl _)
  generalize hT1 : (T.setVm vm₁).pushCell { cls := cX, slots := kX.instanceTypes.map defaultValue, vm := .none } = T1 at X₁ st1
  have hcat : (Value.ref T.heap.size).category = 1 := rfl
  have hcellA : T1.heap[T.heap.size]? = some (freshCell cX kX) := by rw [← hT1]; exact State.heap_pushCell_size _ _
  have d3' : decode c.code (pc + 3) = .ok (.dup, 1) := by rw [hb]; exact d3
  have d4' : decode c.code (pc + 4) = .ok (.ldc_w is, 3) := by rw [hb]; exact d4
  have hstr' : vk_R "CourseForge" is text sa s' := vk_R.warm hW0 hsa
  obtain ⟨U, hsteps, hrun, hend, hW9, hsame, ce, hce, hcv, hcl0⟩ := ns_ctor X₁ hexec htr hown' h (fun x hx => nomatch hx) hfX hkX hcellA (by rw [hhp, hT]; exact Nat.le_refl _) (msg := .ref sa) rfl
    (g := { method := m, pc := pc + 7, locals := ls, stack := .ref sa :: .ref T.heap.size :: .ref T.heap.size :: rest, locked := none }) rfl (hls.trans X.ml.symm) rfl rfl (rest := rest) rfl
    (by rw [hb]; exact d6) (by rw [hb]; exact d9) (fun x hx => (hno x hx).elim) (by show 2 + 3 < 10 + hR; omega) (by simp only [List.map_cons, List.sum_cons, hcat]; show 2 * 0 + (1 + _) + _ ≤ 400 + 100 * hR; omega) hlocks
  obtain ⟨f1, f2⟩ := vx_frame hsame
  rw [hhp] at f1 f2
  have hWs : s.WarmedH U.vm := State.WarmedH.trans hW0 hW9
  have hcl : s.vm.findClass nsX = some ce.cls := by
    rw [hvm] at hcl0
    exact hcl0
  have hall : s.sameButNew ({ U with vm := s.vm } : State) locs rc rs := by
    subst hA
    obtain ⟨e1, e2⟩ := hsame
    rw [State.setFrames_setFrames] at e1
    have h9 : (T.setVm s.vm).sameButNew ({ U with vm := s.vm } : State) [] (0 + 1) (0 + 6) := ⟨e1, e2⟩
    have h3 := X0.same.trans h9
    rw [List.append_nil] at h3
    exact h3.mono h1 h2
  have f2' : ∀ q : Nat, q < H.size → U.heap[q]? = H[q]? := fun q hq => f2 q hq (fun z hz => nomatch hz)
  refine ⟨U, ?_, .threw T.heap.size, hrun, hend, Or.inr ⟨T.heap.size, rfl, nsX, ce, locs, ⟨kx U.heap f1 f2', Nat.le_trans hS.1 f1, fun q h3 h4 => (f2' q (Nat.lt_of_lt_of_le h3 hS.1)).trans (hS.2.1 q h3 h4)⟩, hce, hcv, hcl, hWs, hall, hS.2.2⟩⟩
  refine st1 _ ?_
  show Steps p.tables e below (T1.setTop { method := m, pc := pc + 3, locals := ls, stack := .ref T.heap.size :: rest, locked := none }) _
  jvm_step X₁.here [X₁.here.top, hexec, d3', Value.category]
  exact X₁.ldcStringW hexec (own := "CourseForge") (text := text) (index := is) (a := sa) hown' hstr'.1 hstr'.2
    (g := { method := m, pc := pc + 4, locals := ls, stack := .ref T.heap.size :: .ref T.heap.size :: rest, locked := none }) rfl d4' _ hsteps

