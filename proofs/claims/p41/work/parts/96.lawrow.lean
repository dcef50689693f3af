/-! ===== the law's rows ===== -/
section LROW
variable {p : Program} {l : Launch} {e : Env} {hR rc rs : Nat} {s : State} {m : MethodId} {args : Array Value} {below : List Frame} {meth : Method} {c : Code} {H : Heap} {locs : List Loc} {cells slots : Nat} {Q : State → Prop}
variable {cc : ByteArray} {pc nL : Nat} {ls : Array Slot} {rest st0 : List Value} {own : String} {ret : Option FieldType} {G : GT} {A A1 : Nat → Prop}
variable {y : MethodName} {bytes : ByteArray} {maxL n h mc ms index : Nat} {rt : Option FieldType} {As : List Value} {P : Heap → Prop} {B : Option Value → Heap → Prop} {hh : List (Nat × Nat × Nat × Nat)}
theorem w_lcmp {R : Room} (X : CF p s m args meth c cc nL own ret) {x : Int64} (hdg : decode cc pc = .ok (.lcmp, 1))
    (k : W p l e R s m args below meth c H locs cells slots Q (F0 m (pc + 1) ls (.int 0 :: rest))) : W p l e R s m args below meth c H locs cells slots Q (F0 m pc ls (.long x :: .long x :: rest)) := by
  have hexec := X.ex
  have hb := X.co
  intro T hT Y
  obtain ⟨t, a, b⟩ := k T hT Y
  refine ⟨t, ?_, b⟩
  jvm_step Y.here [Y.here.top, hexec, hb, hdg]
  simpa using a
theorem w_pay (X : CF p s m args meth c cc nL own ret) (hc : Cond.codeWith y bytes maxL rt hh ∈ AW) : ∀ w ∈ wofW y bytes maxL rt hh, ∀ (a' : Array Value) (U : State), s.WarmedH U.vm → w.before a' U = true := by
  intro w hw a' U hW
  have hm : w ∈ AW := by
    rcases List.mem_cons.mp hw with h | h
    · rw [h]
      exact hc
    · exact h
  exact word_at hW (AW_good hm) (X.ts w hm)
/-- a caller called -/
theorem w_cS (X : CF p s m args meth c cc nL own ret) (hc : Cond.codeWith y bytes maxL rt hh ∈ AW) (hini : Cond.initialized y.cls ∈ AW) (hsta : Cond.static y ∈ AW) (hd : y.cls ≠ "java/lang/invoke/MethodHandle" ∧ y.cls ≠ "java/lang/invoke/VarHandle" ∧ (parseMethodDescriptor y.desc).map (fun d => d.parameters.length) = some n) (hm : maxL ≤ 81) (hl : Cond.methodLink own index y ∈ AW) (hM : Met l y (wofW y bytes maxL rt hh) (RM h mc ms) (cPre As G P) (cQ B A1) mc ms A1) (hG : GG G s H) (hP : P H) (hh9 : h + 1 ≤ hR) (hn : As.length = n) (hls : ls.size = nL) (hst : st0 = As.reverse ++ rest) (hW : (rest.map fun v => v.category).sum ≤ 8) (hdg : decode cc pc = .ok (.invokestatic index, 3)) (h1 : cells + mc ≤ rc) (h2 : slots + ms ≤ rs) (hS : va_S A s.heap H locs) (hA : ∀ q, A1 q → A q)
    (kk : ∀ (v0 : Option Value) (H1 : Heap) (locs1 : List Loc), B v0 H1 → H.size ≤ H1.size → (∀ q : Nat, q < H.size → ¬ A1 q → H1[q]? = H[q]?) → va_S A s.heap H1 locs1 → W p l e (RM hR rc rs) s m args below meth c H1 locs1 (cells + mc) (slots + ms) Q (F0 m (pc + 3) ls (v0.toList ++ rest))) : W p l e (RM hR rc rs) s m args below meth c H locs cells slots Q (F0 m pc ls st0) :=
  q_some (g := F0 m pc ls st0) (vx_runSW X.1 hM ⟨⟨rfl, rfl, (q_room (mc := mc) (ms := ms) (rc := rc) (rs := rs) hh9 hm).1, (q_room (mc := mc) (ms := ms) (rc := rc) (rs := rs) hh9 hm).2, w_pay X hc, List.mem_cons_self⟩, X.ts _ hc, X.ts _ hini, ⟨hd.1, hd.2.1⟩, fun sig hs => by
    have h3 := hd.2.2
    rw [hs] at h3
    exact (Option.some.inj h3).symm, X.ts _ hl, X.ts _ hsta⟩ (q_pre hG hP As) rfl hn hls hst (lv_room hW) hdg ⟨h1, h2⟩) hS hA kk
end LROW
