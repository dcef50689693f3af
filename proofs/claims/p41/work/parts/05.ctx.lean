/-! ===== what stays true of the machine: tables, statics, texts; ghosts: (tables' numbers, array classes, addresses); address 100 is where the start's heap ends ===== -/
abbrev GT : Type := va_G × (Nat → ClassId) × (Nat → Nat)
def gA (G : GT) : Nat → Prop := fun q => G.2.2 100 ≤ q
abbrev tyK (cy : Nat → ClassId) : List (ClassId × FieldType) := [(cy 0, .int), (cy 1, .boolean), (cy 3, .byte), (cy 3, .byte), (cy 4, .object "java/lang/Object"), (cy 0, .int), (cy 0, .int)]
abbrev KK (G : GT) (U : State) : Prop := va_K G.1 vwCl (tyK G.2.1) U
def nX : List String := ["CourseForge$Answer", "CourseForge$Certificate", "CourseForge$Cohort", "CourseForge$Course", "CourseForge$Exercise", "CourseForge$Lesson", "CourseForge$Student"]
def tAns : List Nat := [97, 110, 115, 119, 101, 114, 32]
def tCol : List Nat := [58, 32]
def tPas : List Nat := [32, 112, 97, 115, 115, 101, 100]
def tFai : List Nat := [32, 102, 97, 105, 108, 101, 100]
def tBy : List Nat := [32, 98, 121, 32]
abbrev tBB (l : List Nat) : List Int32 := l.map nI
abbrev tLL : List Nat := [7, 2, 7, 7, 4]
abbrev tBL : List (List Int32) := [tBB tAns, tBB tCol, tBB tPas, tBB tFai, tBB tBy]
/-- private methods of the class above the builder -/
def sbP : List MethodName := [⟨"java/lang/AbstractStringBuilder", "ensureCapacityInternal", "(I)V"⟩, ⟨"java/lang/AbstractStringBuilder", "newCapacity", "(I)I"⟩, ⟨"java/lang/AbstractStringBuilder", "putStringAt", "(ILjava/lang/String;)V"⟩, ⟨"java/lang/AbstractStringBuilder", "inflateIfNeededFor", "(Ljava/lang/String;)V"⟩]
/-- words of two kinds that hold in any later state -/
def cdW : Cond → Bool
  | .castable _ _ => true
  | .declares _ => true
  | _ => false
theorem cdW_warm {w : Cond} {u U : State} (hw : cdW w = true) (hW : u.WarmedH U.vm) (h : va_Nw w u) : va_Nw w U := by
  cases w with
  | castable C T => exact va_Nw.warmC hW h
  | declares x => exact va_Nw.warmD hW h
  | _ => cases hw
/-- exceptions that are not of another's class -/
def ncX : List (String × String) := [("java/lang/IllegalStateException", "java/lang/IllegalArgumentException"), ("java/lang/IndexOutOfBoundsException", "java/lang/IllegalArgumentException"), ("java/lang/UnsupportedOperationException", "java/lang/IllegalArgumentException"), ("java/util/NoSuchElementException", "java/lang/IllegalArgumentException"), ("java/lang/ArithmeticException", "java/lang/IllegalArgumentException"), ("java/lang/IllegalArgumentException", "java/lang/IllegalStateException"), ("java/lang/IndexOutOfBoundsException", "java/lang/IllegalStateException"), ("java/lang/UnsupportedOperationException", "java/lang/IllegalStateException"), ("java/util/NoSuchElementException", "java/lang/IllegalStateException"), ("java/lang/ArithmeticException", "java/lang/IllegalStateException"), ("java/lang/IllegalArgumentException", "java/lang/IndexOutOfBoundsException"), ("java/lang/IllegalStateException", "java/lang/IndexOutOfBoundsException"), ("java/lang/UnsupportedOperationException", "java/lang/IndexOutOfBoundsException"), ("java/util/NoSuchElementException", "java/lang/IndexOutOfBoundsException"), ("java/lang/ArithmeticException", "java/lang/IndexOutOfBoundsException"), ("java/lang/IllegalArgumentException", "java/lang/UnsupportedOperationException"), ("java/lang/IllegalStateException", "java/lang/UnsupportedOperationException"), ("java/lang/IndexOutOfBoundsException", "java/lang/UnsupportedOperationException"), ("java/util/NoSuchElementException", "java/lang/UnsupportedOperationException"), ("java/lang/ArithmeticException", "java/lang/UnsupportedOperationException"), ("java/lang/IllegalArgumentException", "java/util/NoSuchElementException"), ("java/lang/IllegalStateException", "java/util/NoSuchElementException"), ("java/lang/IndexOutOfBoundsException", "java/util/NoSuchElementException"), ("java/lang/UnsupportedOperationException", "java/util/NoSuchElementException"), ("java/lang/ArithmeticException", "java/util/NoSuchElementException")]
/-- of the tables alone -/
def VF (G : GT) (U : State) : Prop :=
  va_AO "java/lang/Object" U ∧ (∀ C ∈ nX, va_Nw (.castable C "java/lang/Object") U) ∧ (∀ q : String × Nat × String, Cond.stringRef q.1 q.2.1 q.2.2 ∈ tables_1 → ∃ a, vk_R q.1 q.2.1 q.2.2 a U) ∧ va_Mi "[Ljava/lang/Object;" (G.2.2 4) U ∧ va_Dc U ∧
  (vk_R "CourseForge" sx_ans "answer " (G.2.2 10) U ∧ vk_R "CourseForge" sx_col ": " (G.2.2 11) U ∧ vk_R "CourseForge" sx_pas " passed" (G.2.2 12) U ∧ vk_R "CourseForge" sx_fai " failed" (G.2.2 13) U ∧ vk_R "CourseForge" sx_by " by " (G.2.2 14) U) ∧
  (∀ y ∈ sbP, ∀ a : Array Value, (Cond.selects "java/lang/StringBuilder" y y).before a U = true) ∧
  (∀ w ∈ tables_1, cdW w = true → va_Nw w U) ∧ (∀ q ∈ ncX, va_Nc q.1 q.2 U)
/-- of statics, and of the texts -/
def ZF (G : GT) (U : State) (H : Heap) : Prop :=
  (vx_Zq Bundle.tN "UNASSIGNED_STACK" Bundle.steD (gA G) U H ∧ vx_Zq Bundle.tN "SUPPRESSED_SENTINEL" Bundle.listD (gA G) U H) ∧
  (va_Z "java/util/ArrayList" "DEFAULTCAPACITY_EMPTY_ELEMENTDATA" "[Ljava/lang/Object;" (.ref (G.2.2 0)) (gA G) U H ∧ va_T (.object "java/lang/Object") (G.2.2 0) 0 (fun _ => .null) (gA G) U H) ∧
  va_Z "java/lang/String" "COMPACT_STRINGS" "Z" (.int 1) (gA G) U H ∧
  (va_Z "java/lang/Integer" "DigitOnes" "[B" (.ref (G.2.2 1)) (gA G) U H ∧ va_T .byte (G.2.2 1) 100 (fun j => .int (nI (48 + j % 10))) (gA G) U H) ∧
  (va_Z "java/lang/Integer" "DigitTens" "[B" (.ref (G.2.2 2)) (gA G) U H ∧ va_T .byte (G.2.2 2) 100 (fun j => .int (nI (48 + j / 10))) (gA G) U H) ∧
  vk_S 5 tLL tBL (fun i => G.2.2 (10 + i)) (fun i => G.2.2 (20 + i)) (gA G) U H ∧
  va_Zq "jdk/internal/util/Preconditions" "SIOOBE_FORMATTER" "Ljava/util/function/BiFunction;" (gA G) U H
def GG (G : GT) (U : State) (H : Heap) : Prop := KK G U ∧ VF G U ∧ ZF G U H
theorem VF.warm {G : GT} {u U : State} (hW : u.WarmedH U.vm) (h : VF G u) : VF G U := by
  obtain ⟨a1, a2, a3, a4, a5, ⟨b1, b2, b3, b4, b5⟩, b6, b7, b8⟩ := h
  refine ⟨a1.moved hW.alike, fun C hC => va_Nw.warmC hW (a2 C hC), fun q hq => ?_, a4.moved hW.alike, a5.moved hW.alike, ⟨b1.warm hW, b2.warm hW, b3.warm hW, b4.warm hW, b5.warm hW⟩, fun y hy a => word_at hW (Or.inl rfl) (b6 y hy #[]), fun w h1 h2 => cdW_warm h2 hW (b7 w h1 h2), fun q hq => (b8 q hq).moved hW.alike⟩
  obtain ⟨a, ha⟩ := a3 q hq
  exact ⟨a, ha.warm hW⟩
theorem ZF.moved {G : GT} {u U : State} {H : Heap} (hW : u.vm.Alike U.vm) (h : ZF G u H) : ZF G U H := by
  obtain ⟨⟨a1, a2⟩, ⟨b1, b2⟩, c1, ⟨d1, d2⟩, ⟨e1, e2⟩, f, f2⟩ := h
  exact ⟨⟨a1.moved hW, a2.moved hW⟩, ⟨b1.moved hW, b2.moved hW⟩, c1.moved hW, ⟨d1.moved hW, d2.moved hW⟩, ⟨e1.moved hW, e2.moved hW⟩, f.moved hW, f2.moved hW⟩
theorem ZF.kept {G : GT} {U : State} {H H1 : Heap} (hq : ∀ a : Nat, a < H.size → ¬ gA G a → H1[a]? = H[a]?) (h : ZF G U H) : ZF G U H1 := by
  obtain ⟨⟨a1, a2⟩, ⟨b1, b2⟩, c1, ⟨d1, d2⟩, ⟨e1, e2⟩, f, f2⟩ := h
  exact ⟨⟨a1.kept hq, a2.kept hq⟩, ⟨b1.kept hq, b2.kept hq⟩, c1.kept hq, ⟨d1.kept hq, d2.kept hq⟩, ⟨e1.kept hq, e2.kept hq⟩, f.kept hq, f2.kept hq⟩
theorem GG.warm {G : GT} {u U : State} {H : Heap} (hW : u.WarmedH U.vm) (h : GG G u H) : GG G U H := ⟨va_K.moved hW.alike h.1, h.2.1.warm hW, h.2.2.moved hW.alike⟩
theorem GG.kept {G : GT} {U : State} {H H1 : Heap} (hq : ∀ a : Nat, a < H.size → ¬ gA G a → H1[a]? = H[a]?) (h : GG G U H) : GG G U H1 := ⟨h.1, h.2.1, h.2.2.kept hq⟩
theorem GG.step {G : GT} {s : State} {A : Nat → Prop} {H : Heap} {locs : List Loc} (h : GG G s s.heap) (hS : va_S A s.heap H locs) (hA : ∀ q, A q → gA G q) : GG G s H := h.kept fun a h1 h2 => hS.2.1 a h1 (fun z => h2 (hA a z))
/-! ===== contracts ===== -/
abbrev wof (y : MethodName) (cc : ByteArray) (n : Nat) (ret : Option FieldType) : List Cond := Cond.code y cc n ret :: AW
abbrev RM (h mc ms : Nat) : Room := { frames := 10 + h, cells := mc, slots := ms, locals := 400 + 100 * h }
def cPre (av : List Value) (G : GT) (P : Heap → Prop) : Array Value → State → Prop := fun v U => v = av.toArray ∧ GG G U U.heap ∧ P U.heap
def rQ (v0 : Option Value) : Array Value → State → Outcome → State → Prop := fun _ st o t => o = .returned v0 ∧ t.heap = st.heap
def cQ (B : Option Value → Heap → Prop) (A : Nat → Prop) : Array Value → State → Outcome → State → Prop := fun _ st o t => ∃ v0, o = .returned v0 ∧ B v0 t.heap ∧ va_F A st t
def cX (BX : String → Heap → Prop) (A : Nat → Prop) : String → State → State → Prop := fun E st t => BX E t.heap ∧ va_F A st t
/-- a method that reads: its answer is v0, nothing changes -/
def rM (l : Launch) (y : MethodName) (cc : ByteArray) (n : Nat) (ret : Option FieldType) (h : Nat) (G : GT) (av : List Value) (P : Heap → Prop) (v0 : Option Value) : Prop :=
  Met l y (wof y cc n ret) (RM h 0 0) (cPre av G P) (rQ v0) 0 0 (fun _ => False)
/-- a method that changes cells of A: its answer and the heap behind it are B -/
def cM (l : Launch) (y : MethodName) (cc : ByteArray) (n : Nat) (ret : Option FieldType) (h mc ms : Nat) (G : GT) (av : List Value) (P : Heap → Prop) (B : Option Value → Heap → Prop) (A : Nat → Prop) : Prop :=
  Met l y (wof y cc n ret) (RM h mc ms) (cPre av G P) (cQ B A) mc ms A
/-- a method that may throw -/
def xM (l : Launch) (y : MethodName) (cc : ByteArray) (n : Nat) (ret : Option FieldType) (h mc ms : Nat) (G : GT) (av : List Value) (P : Heap → Prop) (B : Option Value → Heap → Prop) (BX : String → Heap → Prop) (A : Nat → Prop) : Prop :=
  vx_Met l y (wof y cc n ret) (RM h mc ms) (cPre av G P) (cQ B A) (cX BX A) mc ms A
theorem cPre_blind {av : List Value} {G : GT} {P : Heap → Prop} : FrameBlind (cPre av G P) := by
  intro a U g mk h
  obtain ⟨h1, h2, h3⟩ := h
  exact ⟨h1, h2.warm (u := U) (U := U.calling g mk a) (State.WarmedH.refl U), h3⟩
/-- the fixed things of a body -/
def CF (p : Program) (s : State) (m : MethodId) (args : Array Value) (meth : Method) (c : Code) (cc : ByteArray) (n : Nat) (own : String) (ret : Option FieldType) : Prop :=
  CallFix p m c cc n s args AW own ∧ meth.sig.returnType = ret ∧ meth.locks = false
/-- what a callee is: its words -/
def ceV (y : MethodName) (bytes : ByteArray) (maxL : Nat) (ret : Option FieldType) (n : Nat) : Prop :=
  Cond.instanceMethod y ∈ AW ∧ Cond.selects y.cls y y ∈ AW ∧ Cond.initialized y.cls ∈ AW ∧ Cond.code y bytes maxL ret ∈ AW ∧ (y.cls ≠ "java/lang/invoke/MethodHandle" ∧ y.cls ≠ "java/lang/invoke/VarHandle" ∧ (parseMethodDescriptor y.desc).map (fun d => d.parameters.length) = some n) ∧ maxL ≤ 81
def ceS (y : MethodName) (bytes : ByteArray) (maxL : Nat) (ret : Option FieldType) (n : Nat) : Prop :=
  Cond.static y ∈ AW ∧ Cond.initialized y.cls ∈ AW ∧ Cond.code y bytes maxL ret ∈ AW ∧ (y.cls ≠ "java/lang/invoke/MethodHandle" ∧ y.cls ≠ "java/lang/invoke/VarHandle" ∧ (parseMethodDescriptor y.desc).map (fun d => d.parameters.length) = some n) ∧ maxL ≤ 81
def ceI (y : MethodName) (bytes : ByteArray) (maxL : Nat) (n : Nat) : Prop :=
  Cond.instanceMethod y ∈ AW ∧ y.name = "<init>" ∧ Cond.initialized y.cls ∈ AW ∧ Cond.code y bytes maxL none ∈ AW ∧ (y.cls ≠ "java/lang/invoke/MethodHandle" ∧ y.cls ≠ "java/lang/invoke/VarHandle" ∧ (parseMethodDescriptor y.desc).map (fun d => d.parameters.length) = some n) ∧ maxL ≤ 81
theorem wof_good {y : MethodName} {cc : ByteArray} {n : Nat} {ret : Option FieldType} (h : Cond.code y cc n ret ∈ AW) : GoodIn AW (wof y cc n ret) := by
  intro w hw
  rcases List.mem_cons.mp hw with rfl | hw
  · exact ⟨h, AW_good h⟩
  · exact ⟨hw, AW_good hw⟩
section CTX
variable {p : Program} {l : Launch} {e : Env} {s : State} {m : MethodId} {args : Array Value} {below : List Frame} {meth : Method} {c : Code} {H : Heap} {locs : List Loc} {cells slots : Nat} {Q : State → Prop}
variable {cc : ByteArray} {pc nL : Nat} {ls : Array Slot} {rest : List Value} {own : String} {ret : Option FieldType} {G : GT} {A : Nat → Prop} {hR rc rs : Nat}
theorem CF.ex (X : CF p s m args meth c cc nL own ret) : p.tables.exec = Jvm.exec := X.1.1
theorem CF.co (X : CF p s m args meth c cc nL own ret) : c.code = cc := X.1.2.1
theorem CF.ml (X : CF p s m args meth c cc nL own ret) : c.maxLocals = nL := X.1.2.2.1
theorem CF.ow (X : CF p s m args meth c cc nL own ret) : s.vm.findClass own = some m.cls := X.1.2.2.2.1
theorem CF.ts (X : CF p s m args meth c cc nL own ret) : ∀ w ∈ AW, w.before args s = true := X.1.2.2.2.2
theorem CF.rt (X : CF p s m args meth c cc nL own ret) : meth.sig.returnType = ret := X.2.1
theorem CF.lk (X : CF p s m args meth c cc nL own ret) : meth.locks = false := X.2.2
/-- a body's beginning -/
theorem mk_m {y : MethodName} {n h mc ms : Nat} {av : List Value} {P : Heap → Prop} {Qc : Array Value → State → Outcome → State → Prop} {free : Nat → Prop} (hpl : plainName y.cls = true) (hlen : (lg_sl av).length ≤ n)
    (body : ∀ p e s m args below meth c, CF p s m args meth c cc n y.cls ret → (∀ ls : Array Slot, lv_has ls n (lv_args 0 av) → GG G s s.heap → P s.heap → meth.name = y.name →
      W p l e (RM h mc ms) s m args below meth c s.heap [] 0 0 (MQ below Qc args s mc ms free) (F0 m 0 ls []))) : Met l y (wof y cc n ret) (RM h mc ms) (cPre av G P) Qc mc ms free := by
  refine Met.ofW (cc := cc) (maxL := n) (ret := ret) hpl rfl ?_
  intro p e s m args below meth c s₁ B hml hv
  obtain ⟨rfl, hG, hP⟩ := hv
  have hts := atoms_spec (ws := wof y cc n ret) B.pre
  have hl := lv_entry av hlen
  rw [lg_entry_eq]
  exact body p e s m av.toArray below meth c ⟨⟨B.exec, B.bytes, hml, findClass_of_methodNamed B.named, fun w hw => hts w (List.mem_cons_of_mem _ hw)⟩, B.returns, B.notSynchronized⟩ _ hl hG hP (name_of_methodNamed B.named B.method).1
theorem mk_x {y : MethodName} {n h mc ms : Nat} {av : List Value} {P : Heap → Prop} {Qc : Array Value → State → Outcome → State → Prop} {XC : String → State → State → Prop} {free : Nat → Prop} (hpl : plainName y.cls = true) (hlen : (lg_sl av).length ≤ n)
    (body : ∀ p e s m args below meth c, CF p s m args meth c cc n y.cls ret → (∀ ls : Array Slot, lv_has ls n (lv_args 0 av) → GG G s s.heap → P s.heap → (∀ x ∈ c.exceptionTable.toList, False) →
      W p l e (RM h mc ms) s m args below meth c s.heap [] 0 0 (vx_MQ below Qc XC args s mc ms free) (F0 m 0 ls []))) : vx_Met l y (wof y cc n ret) (RM h mc ms) (cPre av G P) Qc XC mc ms free := by
  refine vx_ofW (cc := cc) (maxL := n) (ret := ret) hpl rfl ?_
  intro p e s m args below meth c s₁ B hml ht hv
  obtain ⟨rfl, hG, hP⟩ := hv
  have hts := atoms_spec (ws := wof y cc n ret) B.pre
  have hl := lv_entry av hlen
  rw [lg_entry_eq]
  exact body p e s m av.toArray below meth c ⟨⟨B.exec, B.bytes, hml, findClass_of_methodNamed B.named, fun w hw => hts w (List.mem_cons_of_mem _ hw)⟩, B.returns, B.notSynchronized⟩ _ hl hG hP ht
/-! the ends -/
theorem r_i (X : CF p s m args meth c cc nL own ret) {R : Room} {ty : FieldType} {v : Int32} {v0 : Option Value} (hr : ret = some ty) (hn : narrow ty (.int v) = .int v) (hv : v0 = some (.int v)) (hdg : decode cc pc = .ok (.ireturn, 1)) : W p l e R s m args below meth c s.heap [] 0 0 (MQ below (rQ v0) args s 0 0 (fun _ => False)) (F0 m pc ls [.int v]) :=
  W.zret X.ex X.co (X.rt.trans hr) hn (fun t ht _ => ⟨by rw [hv], ht⟩) (fun q h => nomatch h) hdg X.lk
theorem r_v (X : CF p s m args meth c cc nL own ret) {R : Room} {v0 : Option Value} (hr : ret = none) (hv : v0 = none) (hdg : decode cc pc = .ok (.return_, 1)) : W p l e R s m args below meth c s.heap [] 0 0 (MQ below (rQ v0) args s 0 0 (fun _ => False)) (F0 m pc ls []) :=
  W.vret X.ex X.co (X.rt.trans hr) (fun t ht _ => ⟨by rw [hv], ht⟩) (fun q h => nomatch h) hdg X.lk
theorem r_a (X : CF p s m args meth c cc nL own ret) {R : Room} {rt : FieldType} {v : Value} {v0 : Option Value} (hr : ret = some rt) (hrt : (∃ n, rt = .object n) ∨ ∃ t, rt = .array t) (ha : v = .null ∨ ∃ a, v = .ref a) (hv : v0 = some v) (hdg : decode cc pc = .ok (.areturn, 1)) : W p l e R s m args below meth c s.heap [] 0 0 (MQ below (rQ v0) args s 0 0 (fun _ => False)) (F0 m pc ls [v]) :=
  W.aret X.ex X.co (X.rt.trans hr) hrt ha (fun t ht _ => ⟨by rw [hv], ht⟩) (fun q h => nomatch h) hdg X.lk
theorem c_i (X : CF p s m args meth c cc nL own ret) {R : Room} {mc ms : Nat} {B : Option Value → Heap → Prop} {ty : FieldType} {v : Int32} (hS : va_S A s.heap H locs) (hr : ret = some ty) (hn : narrow ty (.int v) = .int v) (hB : B (some (.int v)) H) (h1 : cells ≤ mc) (h2 : slots ≤ ms) (hdg : decode cc pc = .ok (.ireturn, 1)) : W p l e R s m args below meth c H locs cells slots (MQ below (cQ B A) args s mc ms A) (F0 m pc ls [.int v]) :=
  W.widen h1 h2 (W.zret X.ex X.co (X.rt.trans hr) hn (fun t ht _ => ⟨_, rfl, by rw [ht]; exact hB, by rw [va_F, ht]; exact ⟨hS.1, hS.2.1⟩⟩) hS.2.2 hdg X.lk)
theorem c_v (X : CF p s m args meth c cc nL own ret) {R : Room} {mc ms : Nat} {B : Option Value → Heap → Prop} (hS : va_S A s.heap H locs) (hr : ret = none) (hB : B none H) (h1 : cells ≤ mc) (h2 : slots ≤ ms) (hdg : decode cc pc = .ok (.return_, 1)) : W p l e R s m args below meth c H locs cells slots (MQ below (cQ B A) args s mc ms A) (F0 m pc ls []) :=
  W.widen h1 h2 (W.vret X.ex X.co (X.rt.trans hr) (fun t ht _ => ⟨_, rfl, by rw [ht]; exact hB, by rw [va_F, ht]; exact ⟨hS.1, hS.2.1⟩⟩) hS.2.2 hdg X.lk)
theorem c_a (X : CF p s m args meth c cc nL own ret) {R : Room} {mc ms : Nat} {B : Option Value → Heap → Prop} {rt : FieldType} {v : Value} (hS : va_S A s.heap H locs) (hr : ret = some rt) (hrt : (∃ n, rt = .object n) ∨ ∃ t, rt = .array t) (ha : v = .null ∨ ∃ a, v = .ref a) (hB : B (some v) H) (h1 : cells ≤ mc) (h2 : slots ≤ ms) (hdg : decode cc pc = .ok (.areturn, 1)) : W p l e R s m args below meth c H locs cells slots (MQ below (cQ B A) args s mc ms A) (F0 m pc ls [v]) :=
  W.widen h1 h2 (W.aret X.ex X.co (X.rt.trans hr) hrt ha (fun t ht _ => ⟨_, rfl, by rw [ht]; exact hB, by rw [va_F, ht]; exact ⟨hS.1, hS.2.1⟩⟩) hS.2.2 hdg X.lk)
end CTX
