/-! ===== calls of the class above the builder: by the receiver, and by super ===== -/
theorem okSB : okC RJ4 TJ4 4 tyJ4 := ⟨in_J4, tyJ4_ok, nmJ4⟩
theorem okST : okC RJ0 TJ0 4 tyJ0 := ⟨in_J0, tyJ0_ok, nmJ0⟩
def ceU (y : MethodName) (bytes : ByteArray) (maxL : Nat) (ret : Option FieldType) (n : Nat) : Prop :=
  Cond.instanceMethod y ∈ AW ∧ Cond.sameMethod y.cls y.cls y.name y.desc ∈ AW ∧ Cond.initialized y.cls ∈ AW ∧ Cond.code y bytes maxL ret ∈ AW ∧ (y.cls ≠ "java/lang/invoke/MethodHandle" ∧ y.cls ≠ "java/lang/invoke/VarHandle" ∧ y.name ≠ "<init>" ∧ (parseMethodDescriptor y.desc).map (fun d => d.parameters.length) = some n) ∧ maxL ≤ 81
section CALLS4
variable {p : Program} {l : Launch} {e : Env} {hR rc rs : Nat} {s : State} {m : MethodId} {args : Array Value} {below : List Frame} {meth : Method} {c : Code} {H : Heap} {locs : List Loc} {cells slots : Nat} {Q : State → Prop}
variable {cc : ByteArray} {pc nL : Nat} {ls : Array Slot} {rest st0 : List Value} {own : String} {ret : Option FieldType} {G : GT} {A A1 : Nat → Prop}
variable {y : MethodName} {bytes : ByteArray} {maxL n h mc ms index : Nat} {rt : Option FieldType} {As : List Value} {b : Nat} {P B : Heap → Prop} {v : Value}
theorem q_U (X : CF p s m args meth c cc nL own ret) (ce : ceU y bytes maxL rt n) (hsel : (Cond.selects "java/lang/StringBuilder" y y).before args s = true) (hl : Cond.methodLink own index y ∈ AW) (hh : h + 1 ≤ hR) : va_CU (RM hR rc rs) s args own "java/lang/StringBuilder" y.cls index y y bytes maxL rt (wof y bytes maxL rt) (RM h mc ms) mc ms n := by
  obtain ⟨c1, c2, c3, c4, c5, c6⟩ := ce
  refine ⟨⟨rfl, rfl, (q_room (mc := mc) (ms := ms) (rc := rc) (rs := rs) hh c6).1, (q_room (mc := mc) (ms := ms) (rc := rc) (rs := rs) hh c6).2, q_pay X c4, List.mem_cons_self⟩, X.ts _ c4, X.ts _ c3, ⟨c5.1, c5.2.1⟩, fun sig hs => ?_, X.ts _ hl, X.ts _ c2, va_Decl.of (X.ts _ c1) (X.ts _ c4), hsel, X.ts _ c1⟩
  have h2 := c5.2.2.2
  rw [hs] at h2
  exact (Option.some.inj h2).symm
theorem q_W (X : CF p s m args meth c cc nL own ret) (ce : ceU y bytes maxL rt n) (hsup : Cond.superclass own y.cls ∈ AW) (hl : Cond.methodLink own index y ∈ AW) (hh : h + 1 ≤ hR) : va_CS (RM hR rc rs) s args own index y bytes maxL rt (wof y bytes maxL rt) (RM h mc ms) mc ms n := by
  obtain ⟨c1, c2, c3, c4, c5, c6⟩ := ce
  refine ⟨⟨rfl, rfl, (q_room (mc := mc) (ms := ms) (rc := rc) (rs := rs) hh c6).1, (q_room (mc := mc) (ms := ms) (rc := rc) (rs := rs) hh c6).2, q_pay X c4, List.mem_cons_self⟩, X.ts _ hl, X.ts _ c2, X.ts _ hsup, X.ts _ c1, X.ts _ c3, X.ts _ c4, c5.2.2.1, fun sig hs => ?_⟩
  have h2 := c5.2.2.2
  rw [hs] at h2
  exact (Option.some.inj h2).symm
/-- by the receiver: a reader -/
theorem q_rU (X : CF p s m args meth c cc nL own ret) (ce : ceU y bytes maxL rt n) (hsel : (Cond.selects "java/lang/StringBuilder" y y).before args s = true) (hl : Cond.methodLink own index y ∈ AW) {v0 : Option Value} (hM : rM l y bytes maxL rt h G (.ref b :: As) P v0) (hG : GG G s H) (hP : P H) {fs : List Value} (ho : va_at G.1 vwCl (b, .inr (1, fs)) H) (hh : h + 1 ≤ hR) (hn : As.length = n) (hls : ls.size = nL) (hst : st0 = As.reverse ++ .ref b :: rest) (hW : (rest.map fun v => v.category).sum ≤ 8) (hdg : decode cc pc = .ok (.invokevirtual index, 3)) (h1 : cells ≤ rc) (h2 : slots ≤ rs)
    (kk : W p l e (RM hR rc rs) s m args below meth c H locs cells slots Q (F0 m (pc + 3) ls (v0.toList ++ rest))) : W p l e (RM hR rc rs) s m args below meth c H locs cells slots Q (F0 m pc ls st0) :=
  q_same (g := F0 m pc ls st0) (va_runU X.1 hM (q_U X ce hsel hl hh) ⟨(q_pre hG hP (.ref b :: As)).1, q_rv (hK := hG.1) ho rfl, (q_pre hG hP (.ref b :: As)).2⟩ rfl hn hls hst (lv_room hW) hdg ⟨h1, h2⟩) kk
/-- by the receiver: a changer -/
theorem q_cU (X : CF p s m args meth c cc nL own ret) (ce : ceU y bytes maxL rt n) (hsel : (Cond.selects "java/lang/StringBuilder" y y).before args s = true) (hl : Cond.methodLink own index y ∈ AW) {B : Option Value → Heap → Prop} (hM : cM l y bytes maxL rt h mc ms G (.ref b :: As) P B A1) (hG : GG G s H) (hP : P H) {fs : List Value} (ho : va_at G.1 vwCl (b, .inr (1, fs)) H) (hh : h + 1 ≤ hR) (hn : As.length = n) (hls : ls.size = nL) (hst : st0 = As.reverse ++ .ref b :: rest) (hW : (rest.map fun v => v.category).sum ≤ 8) (hdg : decode cc pc = .ok (.invokevirtual index, 3)) (h1 : cells + mc ≤ rc) (h2 : slots + ms ≤ rs) (hS : va_S A s.heap H locs) (hA : ∀ q, A1 q → A q)
    (kk : ∀ (v0 : Option Value) (H1 : Heap) (locs1 : List Loc), B v0 H1 → H.size ≤ H1.size → (∀ q : Nat, q < H.size → ¬ A1 q → H1[q]? = H[q]?) → va_S A s.heap H1 locs1 → W p l e (RM hR rc rs) s m args below meth c H1 locs1 (cells + mc) (slots + ms) Q (F0 m (pc + 3) ls (v0.toList ++ rest))) : W p l e (RM hR rc rs) s m args below meth c H locs cells slots Q (F0 m pc ls st0) :=
  q_some (g := F0 m pc ls st0) (va_runU X.1 hM (q_U X ce hsel hl hh) ⟨(q_pre hG hP (.ref b :: As)).1, q_rv (hK := hG.1) ho rfl, (q_pre hG hP (.ref b :: As)).2⟩ rfl hn hls hst (lv_room hW) hdg ⟨h1, h2⟩) hS hA kk
/-- by super: a reader -/
theorem q_rW (X : CF p s m args meth c cc nL own ret) (ce : ceU y bytes maxL rt n) (hsup : Cond.superclass own y.cls ∈ AW) (hl : Cond.methodLink own index y ∈ AW) {v0 : Option Value} (hM : rM l y bytes maxL rt h G (.ref b :: As) P v0) (hG : GG G s H) (hP : P H) {fs : List Value} (ho : va_at G.1 vwCl (b, .inr (1, fs)) H) (hh : h + 1 ≤ hR) (hn : As.length = n) (hls : ls.size = nL) (hst : st0 = As.reverse ++ .ref b :: rest) (hW : (rest.map fun v => v.category).sum ≤ 8) (hdg : decode cc pc = .ok (.invokespecial index, 3)) (h1 : cells ≤ rc) (h2 : slots ≤ rs)
    (kk : W p l e (RM hR rc rs) s m args below meth c H locs cells slots Q (F0 m (pc + 3) ls (v0.toList ++ rest))) : W p l e (RM hR rc rs) s m args below meth c H locs cells slots Q (F0 m pc ls st0) :=
  q_same (g := F0 m pc ls st0) (va_runSU (hG.1.1 1 _ rfl).2 X.1 hM (q_W X ce hsup hl hh) ⟨(q_pre hG hP (.ref b :: As)).1, q_rv (hK := hG.1) ho rfl, (q_pre hG hP (.ref b :: As)).2⟩ rfl hn hls hst (lv_room hW) hdg ⟨h1, h2⟩) kk
/-- by super: a changer -/
theorem q_cW (X : CF p s m args meth c cc nL own ret) (ce : ceU y bytes maxL rt n) (hsup : Cond.superclass own y.cls ∈ AW) (hl : Cond.methodLink own index y ∈ AW) {B : Option Value → Heap → Prop} (hM : cM l y bytes maxL rt h mc ms G (.ref b :: As) P B A1) (hG : GG G s H) (hP : P H) {fs : List Value} (ho : va_at G.1 vwCl (b, .inr (1, fs)) H) (hh : h + 1 ≤ hR) (hn : As.length = n) (hls : ls.size = nL) (hst : st0 = As.reverse ++ .ref b :: rest) (hW : (rest.map fun v => v.category).sum ≤ 8) (hdg : decode cc pc = .ok (.invokespecial index, 3)) (h1 : cells + mc ≤ rc) (h2 : slots + ms ≤ rs) (hS : va_S A s.heap H locs) (hA : ∀ q, A1 q → A q)
    (kk : ∀ (v0 : Option Value) (H1 : Heap) (locs1 : List Loc), B v0 H1 → H.size ≤ H1.size → (∀ q : Nat, q < H.size → ¬ A1 q → H1[q]? = H[q]?) → va_S A s.heap H1 locs1 → W p l e (RM hR rc rs) s m args below meth c H1 locs1 (cells + mc) (slots + ms) Q (F0 m (pc + 3) ls (v0.toList ++ rest))) : W p l e (RM hR rc rs) s m args below meth c H locs cells slots Q (F0 m pc ls st0) :=
  q_some (g := F0 m pc ls st0) (va_runSU (hG.1.1 1 _ rfl).2 X.1 hM (q_W X ce hsup hl hh) ⟨(q_pre hG hP (.ref b :: As)).1, q_rv (hK := hG.1) ho rfl, (q_pre hG hP (.ref b :: As)).2⟩ rfl hn hls hst (lv_room hW) hdg ⟨h1, h2⟩) hS hA kk
/-- a call on an object that is told by its cell -/
theorem q_rC (X : CF p s m args meth c cc nL own ret) (ce : ceV y bytes maxL rt n) (hl : Cond.methodLink own index y ∈ AW) {v0 : Option Value} (hM : rM l y bytes maxL rt h G (.ref b :: As) P v0) (hG : GG G s H) (hP : P H) (ho : ∃ cell : Cell, H[b]? = some cell ∧ cell.vm.isStatics = false ∧ s.vm.findClass y.cls = some cell.cls) (hh : h + 1 ≤ hR) (hn : As.length = n) (hls : ls.size = nL) (hst : st0 = As.reverse ++ .ref b :: rest) (hW : (rest.map fun v => v.category).sum ≤ 8) (hdg : decode cc pc = .ok (.invokevirtual index, 3)) (h1 : cells ≤ rc) (h2 : slots ≤ rs)
    (kk : W p l e (RM hR rc rs) s m args below meth c H locs cells slots Q (F0 m (pc + 3) ls (v0.toList ++ rest))) : W p l e (RM hR rc rs) s m args below meth c H locs cells slots Q (F0 m pc ls st0) :=
  q_same (g := F0 m pc ls st0) (va_runV X.1 hM (q_V X ce hl hh) ⟨(q_pre hG hP (.ref b :: As)).1, ho, (q_pre hG hP (.ref b :: As)).2⟩ rfl hn hls hst (lv_room hW) hdg ⟨h1, h2⟩) kk
theorem q_cC (X : CF p s m args meth c cc nL own ret) (ce : ceV y bytes maxL rt n) (hl : Cond.methodLink own index y ∈ AW) {B : Option Value → Heap → Prop} (hM : cM l y bytes maxL rt h mc ms G (.ref b :: As) P B A1) (hG : GG G s H) (hP : P H) (ho : ∃ cell : Cell, H[b]? = some cell ∧ cell.vm.isStatics = false ∧ s.vm.findClass y.cls = some cell.cls) (hh : h + 1 ≤ hR) (hn : As.length = n) (hls : ls.size = nL) (hst : st0 = As.reverse ++ .ref b :: rest) (hW : (rest.map fun v => v.category).sum ≤ 8) (hdg : decode cc pc = .ok (.invokevirtual index, 3)) (h1 : cells + mc ≤ rc) (h2 : slots + ms ≤ rs) (hS : va_S A s.heap H locs) (hA : ∀ q, A1 q → A q)
    (kk : ∀ (v0 : Option Value) (H1 : Heap) (locs1 : List Loc), B v0 H1 → H.size ≤ H1.size → (∀ q : Nat, q < H.size → ¬ A1 q → H1[q]? = H[q]?) → va_S A s.heap H1 locs1 → W p l e (RM hR rc rs) s m args below meth c H1 locs1 (cells + mc) (slots + ms) Q (F0 m (pc + 3) ls (v0.toList ++ rest))) : W p l e (RM hR rc rs) s m args below meth c H locs cells slots Q (F0 m pc ls st0) :=
  q_some (g := F0 m pc ls st0) (va_runV X.1 hM (q_V X ce hl hh) ⟨(q_pre hG hP (.ref b :: As)).1, ho, (q_pre hG hP (.ref b :: As)).2⟩ rfl hn hls hst (lv_room hW) hdg ⟨h1, h2⟩) hS hA kk
/-- a text stands where it stood -/
theorem t_cell (g0 : GG G s s.heap) (hS : va_S A s.heap H locs) (hAg : ∀ q, A q → gA G q) {i : Nat} (hi : i < 5) : ∃ cell : Cell, H[G.2.2 (10 + i)]? = some cell ∧ cell.vm.isStatics = false ∧ s.vm.findClass "java/lang/String" = some cell.cls := vk_recv (adK := fun i => G.2.2 (10 + i)) (i := i) g0.2.2.2.2.2.2.2.1 hi (hS.up hAg)
theorem q_rSv (X : CF p s m args meth c cc nL own ret) (ce : ceS y bytes maxL rt n) (hl : Cond.methodLink own index y ∈ AW) (hM : rM l y bytes maxL rt h G As P none) (hG : GG G s H) (hP : P H) (hh : h + 1 ≤ hR) (hn : As.length = n) (hls : ls.size = nL) (hst : st0 = As.reverse ++ rest) (hW : (rest.map fun v => v.category).sum ≤ 8) (hdg : decode cc pc = .ok (.invokestatic index, 3)) (h1 : cells ≤ rc) (h2 : slots ≤ rs)
    (kk : W p l e (RM hR rc rs) s m args below meth c H locs cells slots Q (F0 m (pc + 3) ls rest)) : W p l e (RM hR rc rs) s m args below meth c H locs cells slots Q (F0 m pc ls st0) :=
  q_same (v0 := none) (g := F0 m pc ls st0) (va_runS X.1 hM (q_S X ce hl hh) (q_pre hG hP As) rfl hn hls hst (lv_room hW) hdg ⟨h1, h2⟩) kk
end CALLS4
section SBROWS
variable {p : Program} {l : Launch} {e : Env} {R : Room} {s : State} {m : MethodId} {args : Array Value} {below : List Frame} {meth : Method} {c : Code} {H : Heap} {locs : List Loc} {cells slots : Nat} {Q : State → Prop}
variable {cc : ByteArray} {pc nL : Nat} {ls : Array Slot} {rest : List Value} {own : String} {ret : Option FieldType} {G : GT} {A : Nat → Prop} {H0 : Heap}
variable {lv : I2 → Prop} {ad : I2 → Nat} {en : I2 → va_E}
theorem f_copyB (X : CF p s m args meth c cc nL own ret) (hK : KK G s) (F : fw G.1 lv ad en A H) (hS : va_S A H0 H locs) {i j : I2} {a0 a n0 n1 : Nat} {f g : Nat → Int32} (hi : lv i) (hia : ad i = a0) (hei : en i = .inl (G.2.1 3, n0, .inl f)) (hj : lv j) (hja : ad j = a) (hej : en j = .inl (G.2.1 3, n1, .inl g)) (hls : ls.size = nL) {index : Nat} (hlink : Cond.methodLink own index arraycopyName ∈ AW) (sp dp n : Nat) (h4 : sp + n ≤ n0) (h5 : dp + n ≤ n1) (b0 : n0 < 2 ^ 31) (b1 : n1 < 2 ^ 31) (hft : ∀ x, x < n0 → fits .byte (.int (f x)) = true)
    (hframes : 1 ≤ R.frames) (hlocals : (rest.map fun v => v.category).sum + (nativeFrameWords "java/lang/System" "arraycopy" 5 + 11) ≤ R.locals) (hdg : decode cc pc = .ok (.invokestatic index, 3))
    (kk : ∀ (H1 : Heap) (locs1 : List Loc), fw G.1 lv ad (iup en j (.inl (G.2.1 3, n1, .inl (va_cpy f g sp dp n)))) A H1 → va_S A H0 H1 locs1 → W p l e R s m args below meth c H1 locs1 cells slots Q (F0 m (pc + 3) ls rest)) : W p l e R s m args below meth c H locs cells slots Q (F0 m pc ls (.int (nI n) :: .int (nI dp) :: .ref a :: .int (nI sp) :: .ref a0 :: rest)) := by
  subst hia
  subst hja
  obtain ⟨ids, f1, f2, f3, f4⟩ := F
  obtain ⟨q0, g1, g2⟩ := fl_get (ad := ad) (en := en) ((f2 i).mpr hi)
  obtain ⟨q1, g3, g4⟩ := fl_get (ad := ad) (en := en) ((f2 j).mpr hj)
  have e1 : (nI sp).toNatClampNeg = sp := nI_clamp (by omega)
  have e2 : (nI dp).toNatClampNeg = dp := nI_clamp (by omega)
  have e3 : (nI n).toNatClampNeg = n := nI_clamp (by omega)
  refine va_copyi X.ex X.co (X.ml.trans hls.symm) X.ow (X.ts _ hlink) (X.ts _ m_439) (X.ts _ m_438) (X.ts _ m_19) hK f3 f4 hS q0 q1 3 3 (g2.trans (by rw [hei])) (g4.trans (by rw [hej])) rfl rfl rfl (nI_pos (by omega)) (nI_pos (by omega)) (nI_pos (by omega)) (by rw [e1, e3]; exact h4) (by rw [e2, e3]; exact h5) (fun x hx => ?_) hframes hlocals hdg fun H1 locs1 h1 h2 h3 => ?_
  · rw [e3] at hx
    rw [e1]
    exact hft (sp + x) (by omega)
  · rw [e1, e2, e3, fl_set f1 g3] at h1 h2
    exact kk H1 locs1 ⟨ids, f1, f2, h1, h2⟩ h3
/-- from a constant's text into bytes of ours -/
theorem f_copyT (X : CF p s m args meth c cc nL own ret) (g0 : GG G s s.heap) (hAg : ∀ q, A q → gA G q) (F : fw G.1 lv ad en A H) (hS : va_S A s.heap H locs) {i : Nat} (hi : i < 5) {j : I2} {a n1 : Nat} {g : Nat → Int32} (hj : lv j) (hja : ad j = a) (hej : en j = .inl (G.2.1 3, n1, .inl g)) (hls : ls.size = nL) {index : Nat} (hlink : Cond.methodLink own index arraycopyName ∈ AW) (dp n : Nat) (hn : n = tLL.getD i 0) (h5 : dp + n ≤ n1) (b1 : n1 < 2 ^ 31) (hft : ∀ x, x < tLL.getD i 0 → fits .byte (.int ((tBL.getD i []).getD x 0)) = true)
    (hframes : 1 ≤ R.frames) (hlocals : (rest.map fun v => v.category).sum + (nativeFrameWords "java/lang/System" "arraycopy" 5 + 11) ≤ R.locals) (hdg : decode cc pc = .ok (.invokestatic index, 3))
    (kk : ∀ (H1 : Heap) (locs1 : List Loc), fw G.1 lv ad (iup en j (.inl (G.2.1 3, n1, .inl (va_cpy (fun x => (tBL.getD i []).getD x 0) g 0 dp n)))) A H1 → va_S A s.heap H1 locs1 → W p l e R s m args below meth c H1 locs1 cells slots Q (F0 m (pc + 3) ls rest)) : W p l e R s m args below meth c H locs cells slots Q (F0 m pc ls (.int (nI n) :: .int (nI dp) :: .ref a :: .int (nI 0) :: .ref (G.2.2 (20 + i)) :: rest)) := by
  subst hja
  obtain ⟨ids, f1, f2, f3, f4⟩ := F
  obtain ⟨q1, g3, g4⟩ := fl_get (ad := ad) (en := en) ((f2 j).mpr hj)
  have e2 : (nI dp).toNatClampNeg = dp := nI_clamp (by omega)
  have e3 : (nI n).toNatClampNeg = n := nI_clamp (by omega)
  have e1 : (nI 0).toNatClampNeg = 0 := nI_clamp (by omega)
  have ht := (g0.2.2.2.2.2.2.2.1.1 i hi).2.2.2
  refine vk_copyt (f := fun x => (tBL.getD i []).getD x 0) X.ex X.co (X.ml.trans hls.symm) X.ow (X.ts _ hlink) (X.ts _ m_439) (X.ts _ m_438) (X.ts _ m_19) g0.1 f3 f4 hS (ht.narrow hAg) q1 3 (g4.trans (by rw [hej])) rfl (nI_pos (by omega)) (nI_pos (by omega)) (nI_pos (by omega)) (by rw [e1, e3, hn]; exact Nat.le_of_eq (Nat.zero_add _)) (by rw [e2, e3]; exact h5) (fun x hx => ?_) hframes hlocals hdg fun H1 locs1 h1 h2 h3 => ?_
  · rw [e3] at hx
    rw [e1, Nat.zero_add]
    exact hft x (by omega)
  · rw [e1, e2, e3, fl_set f1 g3] at h1 h2
    exact kk H1 locs1 ⟨ids, f1, f2, h1, h2⟩ h3
end SBROWS
