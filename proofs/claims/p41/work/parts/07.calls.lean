/-! ===== rows: arrays made, and calls ===== -/
section ROW2
variable {p : Program} {l : Launch} {e : Env} {R : Room} {s : State} {m : MethodId} {args : Array Value} {below : List Frame} {meth : Method} {c : Code} {H : Heap} {locs : List Loc} {cells slots : Nat} {Q : State → Prop}
variable {cc : ByteArray} {pc nL : Nat} {ls : Array Slot} {rest : List Value} {own : String} {ret : Option FieldType} {G : GT} {A : Nat → Prop} {a : Nat} {H0 : Heap}
variable {lv : I2 → Prop} {ad : I2 → Nat} {en : I2 → va_E} {i : I2}
theorem f_newa (X : CF p s m args meth c cc nL own ret) (hK : KK G s) (F : fw G.1 lv ad en A H) (hS : va_S A H0 H locs) (hA : ∀ q, H0.size ≤ q → A q) (i : I2) (hi : ¬ lv i) {atype : ArrayType} (k : Nat) {ty : FieldType} (ht : (tyK G.2.1)[k]? = some (G.2.1 k, ty)) (hty : newarray.typeOf atype = ty) (hprim : ∀ C, ty ≠ .object C) (harr : Cond.arrayClass (newarray.typeOf atype) ∈ AW)
    {n : Int32} {N' : Nat} {a0 : vp_A} (ha : ∀ cA : ClassId, vp_cell cA a0 = arrV cA N' (fun _ => defaultValue ty)) (hn : ¬ n < 0) (hN : n.toNatClampNeg = N') (hbytes : N' * componentBytes ty ≤ 536870912) (hcells : cells + 1 ≤ R.cells) (hslots : slots + N' ≤ R.slots) (hdg : decode cc pc = .ok (.newarray atype, 2))
    (kk : ∀ (q : Nat) (H1 : Heap), fw G.1 (fun j => lv j ∨ j = i) (iup ad i q) (iup en i (.inl (G.2.1 k, a0))) A H1 → va_S A H0 H1 locs → W p l e R s m args below meth c H1 locs (cells + 1) (slots + N') Q (F0 m (pc + 2) ls (.ref q :: rest))) : W p l e R s m args below meth c H locs cells slots Q (F0 m pc ls (.int n :: rest)) := by
  obtain ⟨ids, f1, f2, f3, f4⟩ := F
  have hni : i ∉ ids := fun z => hi ((f2 i).mp z)
  refine va_newa X.ex X.co (X.ts _ harr) hty hK f3 f4 hS hA ha hn hN hbytes hcells hslots hdg fun q cA H1 hK1 h1 h2 h3 => ?_
  have e1 := (hK1.2 7 (cA, ty) rfl).2
  have e2 := (hK.2 k _ ht).2
  have hcA : cA = G.2.1 k := by
    cases ty with
    | object C => exact absurd rfl (hprim C)
    | _ => exact Option.some.inj (e1.symm.trans e2)
  subst hcA
  rw [fl_push hni] at h1 h2
  exact kk q H1 ⟨ids ++ [i], List.nodup_append.mpr ⟨f1, (by simp), fun x hx y hy => by rw [List.mem_singleton.mp hy]; exact fun z => hni (z ▸ hx)⟩, fun j => by rw [List.mem_append, f2, List.mem_singleton], h1, h2⟩ h3
theorem f_newq (X : CF p s m args meth c cc nL own ret) (hK : KK G s) (hover : va_AO "java/lang/Object" s) (F : fw G.1 lv ad en A H) (hS : va_S A H0 H locs) (hA : ∀ q, H0.size ≤ q → A q) (i : I2) (hi : ¬ lv i) {index : Nat} (hcl : Cond.classLink own index "java/lang/Object" ∈ AW)
    {n : Int32} {N' : Nat} (hn : ¬ n < 0) (hN : n.toNatClampNeg = N') (hbytes : N' * 4 ≤ 536870912) (hcells : cells + 1 ≤ R.cells) (hslots : slots + N' ≤ R.slots) (hdg : decode cc pc = .ok (.anewarray index, 3))
    (kk : ∀ (q : Nat) (H1 : Heap), fw G.1 (fun j => lv j ∨ j = i) (iup ad i q) (iup en i (.inl (G.2.1 4, N', .inr (.inr (.inr (.inr (fun _ => none))))))) A H1 → va_S A H0 H1 locs → W p l e R s m args below meth c H1 locs (cells + 1) (slots + N') Q (F0 m (pc + 3) ls (.ref q :: rest))) : W p l e R s m args below meth c H locs cells slots Q (F0 m pc ls (.int n :: rest)) := by
  obtain ⟨ids, f1, f2, f3, f4⟩ := F
  have hni : i ∉ ids := fun z => hi ((f2 i).mp z)
  refine va_newq X.ex X.co X.ow (X.ts _ hcl) hover hK f3 f4 hS hA hn hN hbytes hcells hslots hdg fun q cA H1 hK1 h1 h2 h3 => ?_
  obtain ⟨_, _, _, _, _, e1⟩ := (hK1.2 7 (cA, .object "java/lang/Object") rfl).2
  obtain ⟨_, _, _, _, _, e2⟩ := (hK.2 4 (G.2.1 4, .object "java/lang/Object") rfl).2
  have hcA : cA = G.2.1 4 := Option.some.inj (e1.symm.trans e2)
  subst hcA
  rw [fl_push hni] at h1 h2
  exact kk q H1 ⟨ids ++ [i], List.nodup_append.mpr ⟨f1, (by simp), fun x hx y hy => by rw [List.mem_singleton.mp hy]; exact fun z => hni (z ▸ hx)⟩, fun j => by rw [List.mem_append, f2, List.mem_singleton], h1, h2⟩ h3
end ROW2
section CALLS
variable {p : Program} {l : Launch} {e : Env} {hR rc rs : Nat} {s : State} {m : MethodId} {args : Array Value} {below : List Frame} {meth : Method} {c : Code} {H : Heap} {locs : List Loc} {cells slots : Nat} {Q : State → Prop}
variable {cc : ByteArray} {pc nL : Nat} {ls : Array Slot} {rest st0 : List Value} {own : String} {ret : Option FieldType} {G : GT} {A : Nat → Prop}
variable {y : MethodName} {bytes : ByteArray} {maxL n h mc ms index : Nat} {rt : Option FieldType} {As : List Value} {b : Nat} {P : Heap → Prop} {v0 : Option Value} {v : Value} {B : Option Value → Heap → Prop} {BX : String → Heap → Prop}
theorem q_pay (X : CF p s m args meth c cc nL own ret) (hc : Cond.code y bytes maxL rt ∈ AW) : ∀ w ∈ wof y bytes maxL rt, ∀ (a' : Array Value) (U : State), s.WarmedH U.vm → w.before a' U = true := by
  have hG := wof_good hc
  intro w hw a' U hW
  exact word_at hW (hG w hw).2 (X.ts w (hG w hw).1)
theorem q_room (hh : h + 1 ≤ hR) (hm : maxL ≤ 81) : (RM h mc ms).frames + 1 ≤ (RM hR rc rs).frames ∧ 8 + (maxL + 11) + (RM h mc ms).locals ≤ (RM hR rc rs).locals := by
  constructor
  · show 10 + h + 1 ≤ 10 + hR
    omega
  · show 8 + (maxL + 11) + (400 + 100 * h) ≤ 400 + 100 * hR
    omega
theorem q_V (X : CF p s m args meth c cc nL own ret) (ce : ceV y bytes maxL rt n) (hl : Cond.methodLink own index y ∈ AW) (hh : h + 1 ≤ hR) : CallW (RM hR rc rs) s args own y.cls index y bytes maxL rt (wof y bytes maxL rt) (RM h mc ms) mc ms n := by
  obtain ⟨c1, c2, c3, c4, c5, c6⟩ := ce
  refine ⟨⟨rfl, rfl, (q_room hh c6).1, (q_room hh c6).2, q_pay X c4, List.mem_cons_self, X.ts _ c4, X.ts _ c3, ⟨c5.1, c5.2.1⟩, fun sig hs => ?_, X.ts _ hl⟩, X.ts _ c1, X.ts _ c2⟩
  have h2 := c5.2.2
  rw [hs] at h2
  exact (Option.some.inj h2).symm
theorem q_S (X : CF p s m args meth c cc nL own ret) (ce : ceS y bytes maxL rt n) (hl : Cond.methodLink own index y ∈ AW) (hh : h + 1 ≤ hR) : CallB (RM hR rc rs) s args own index y bytes maxL rt (wof y bytes maxL rt) (RM h mc ms) mc ms n ∧ (Cond.static y).before args s = true := by
  obtain ⟨c1, c3, c4, c5, c6⟩ := ce
  refine ⟨⟨rfl, rfl, (q_room hh c6).1, (q_room hh c6).2, q_pay X c4, List.mem_cons_self, X.ts _ c4, X.ts _ c3, ⟨c5.1, c5.2.1⟩, fun sig hs => ?_, X.ts _ hl⟩, X.ts _ c1⟩
  have h2 := c5.2.2
  rw [hs] at h2
  exact (Option.some.inj h2).symm
theorem q_I (X : CF p s m args meth c cc nL own ret) (ce : ceI y bytes maxL n) (hl : Cond.methodLink own index y ∈ AW) (hh : h + 1 ≤ hR) : CallB (RM hR rc rs) s args own index y bytes maxL none (wof y bytes maxL none) (RM h mc ms) mc ms n ∧ y.name = "<init>" ∧ (Cond.instanceMethod y).before args s = true := by
  obtain ⟨c1, c2, c3, c4, c5, c6⟩ := ce
  refine ⟨⟨rfl, rfl, (q_room hh c6).1, (q_room hh c6).2, q_pay X c4, List.mem_cons_self, X.ts _ c4, X.ts _ c3, ⟨c5.1, c5.2.1⟩, fun sig hs => ?_, X.ts _ hl⟩, c2, X.ts _ c1⟩
  have h2 := c5.2.2
  rw [hs] at h2
  exact (Option.some.inj h2).symm
theorem q_rv {hK : KK G s} {ci : Nat} {fs : List Value} (ho : va_at G.1 vwCl (b, .inr (ci, fs)) H) {C : String} {T : u_T} {N : Nat} (hc : vwCl[ci]? = some (C, T, N)) : ∃ cellB : Cell, H[b]? = some cellB ∧ cellB.vm.isStatics = false ∧ s.vm.findClass C = some cellB.cls := va_recv (q0 := 0) hK (P1 ho) hc rfl
theorem q_pre (hG : GG G s H) (hP : P H) (av : List Value) : FrameBlind (cPre av G P) ∧ ∀ U : State, U.heap = H → s.WarmedH U.vm → cPre av G P av.toArray U :=
  ⟨cPre_blind, fun U hU hW => ⟨rfl, by rw [hU]; exact hG.warm hW, by rw [hU]; exact hP⟩⟩
/-- a reader's answer: nothing has changed -/
theorem q_same {g : JFrame} {a' : Array Value} (hr : va_Run p l e (RM hR rc rs) s m args below meth c H locs cells slots 0 0 g rest (rQ v0 a') (fun _ => False))
    (kk : W p l e (RM hR rc rs) s m args below meth c H locs cells slots Q { g with pc := g.pc + 3, stack := v0.toList ++ rest }) : W p l e (RM hR rc rs) s m args below meth c H locs cells slots Q g := by
  intro T hT X
  obtain ⟨v, st₀, t, T', L, h0, X', hL, e1, -, ⟨hv, hh⟩, st⟩ := hr T hT X
  cases hv
  obtain ⟨t2, a1, b1⟩ := kk T' (by rw [e1, hh, h0]) (Stand.forget X' (fun q h => (hL q h).elim))
  exact ⟨t2, st t2 a1, b1⟩
/-- a changer's answer -/
theorem q_some {g : JFrame} {a' : Array Value} {A1 : Nat → Prop} (hr : va_Run p l e (RM hR rc rs) s m args below meth c H locs cells slots mc ms g rest (cQ B A1 a') A1) (hS : va_S A s.heap H locs) (hA : ∀ q, A1 q → A q)
    (kk : ∀ (v0 : Option Value) (H1 : Heap) (locs1 : List Loc), B v0 H1 → H.size ≤ H1.size → (∀ q : Nat, q < H.size → ¬ A1 q → H1[q]? = H[q]?) → va_S A s.heap H1 locs1 → W p l e (RM hR rc rs) s m args below meth c H1 locs1 (cells + mc) (slots + ms) Q { g with pc := g.pc + 3, stack := v0.toList ++ rest }) : W p l e (RM hR rc rs) s m args below meth c H locs cells slots Q g := by
  intro T hT X
  obtain ⟨v, st₀, t, T', L, h0, X', hL, e1, e2, ⟨v0, hv, hb, hF⟩, st⟩ := hr T hT X
  cases hv
  obtain ⟨k1, k2, k3⟩ := vx_keep h0 e1 hS (fun q _ z => hA q z) hA hL hF
  obtain ⟨t2, a1, b1⟩ := kk v T'.heap (locs ++ L) (by rw [e1]; exact hb) k1 k2 k3 T' rfl X'
  exact ⟨t2, st t2 a1, b1⟩
theorem q_rV (X : CF p s m args meth c cc nL own ret) (ce : ceV y bytes maxL rt n) (hl : Cond.methodLink own index y ∈ AW) (hM : rM l y bytes maxL rt h G (.ref b :: As) P (some v)) (hG : GG G s H) (hP : P H) {ci : Nat} {fs : List Value} (ho : va_at G.1 vwCl (b, .inr (ci, fs)) H) {T : u_T} {N : Nat} (hc : vwCl[ci]? = some (y.cls, T, N)) (hh : h + 1 ≤ hR) (hn : As.length = n) (hls : ls.size = nL) (hst : st0 = As.reverse ++ .ref b :: rest) (hW : (rest.map fun v => v.category).sum ≤ 8) (hdg : decode cc pc = .ok (.invokevirtual index, 3)) (h1 : cells ≤ rc) (h2 : slots ≤ rs)
    (kk : W p l e (RM hR rc rs) s m args below meth c H locs cells slots Q (F0 m (pc + 3) ls (v :: rest))) : W p l e (RM hR rc rs) s m args below meth c H locs cells slots Q (F0 m pc ls st0) :=
  q_same (g := F0 m pc ls st0) (va_runV X.1 hM (q_V X ce hl hh) ⟨(q_pre hG hP (.ref b :: As)).1, q_rv (hK := hG.1) ho hc, (q_pre hG hP (.ref b :: As)).2⟩ rfl hn hls hst (lv_room hW) hdg ⟨h1, h2⟩) kk
theorem q_rS (X : CF p s m args meth c cc nL own ret) (ce : ceS y bytes maxL rt n) (hl : Cond.methodLink own index y ∈ AW) (hM : rM l y bytes maxL rt h G As P (some v)) (hG : GG G s H) (hP : P H) (hh : h + 1 ≤ hR) (hn : As.length = n) (hls : ls.size = nL) (hst : st0 = As.reverse ++ rest) (hW : (rest.map fun v => v.category).sum ≤ 8) (hdg : decode cc pc = .ok (.invokestatic index, 3)) (h1 : cells ≤ rc) (h2 : slots ≤ rs)
    (kk : W p l e (RM hR rc rs) s m args below meth c H locs cells slots Q (F0 m (pc + 3) ls (v :: rest))) : W p l e (RM hR rc rs) s m args below meth c H locs cells slots Q (F0 m pc ls st0) :=
  q_same (g := F0 m pc ls st0) (va_runS X.1 hM (q_S X ce hl hh) (q_pre hG hP As) rfl hn hls hst (lv_room hW) hdg ⟨h1, h2⟩) kk
theorem q_cV (X : CF p s m args meth c cc nL own ret) (ce : ceV y bytes maxL rt n) (hl : Cond.methodLink own index y ∈ AW) {A1 : Nat → Prop} (hM : cM l y bytes maxL rt h mc ms G (.ref b :: As) P B A1) (hG : GG G s H) (hP : P H) {ci : Nat} {fs : List Value} (ho : va_at G.1 vwCl (b, .inr (ci, fs)) H) {T : u_T} {N : Nat} (hc : vwCl[ci]? = some (y.cls, T, N)) (hh : h + 1 ≤ hR) (hn : As.length = n) (hls : ls.size = nL) (hst : st0 = As.reverse ++ .ref b :: rest) (hW : (rest.map fun v => v.category).sum ≤ 8) (hdg : decode cc pc = .ok (.invokevirtual index, 3)) (h1 : cells + mc ≤ rc) (h2 : slots + ms ≤ rs) (hS : va_S A s.heap H locs) (hA : ∀ q, A1 q → A q)
    (kk : ∀ (v0 : Option Value) (H1 : Heap) (locs1 : List Loc), B v0 H1 → H.size ≤ H1.size → (∀ q : Nat, q < H.size → ¬ A1 q → H1[q]? = H[q]?) → va_S A s.heap H1 locs1 → W p l e (RM hR rc rs) s m args below meth c H1 locs1 (cells + mc) (slots + ms) Q (F0 m (pc + 3) ls (v0.toList ++ rest))) : W p l e (RM hR rc rs) s m args below meth c H locs cells slots Q (F0 m pc ls st0) :=
  q_some (g := F0 m pc ls st0) (va_runV X.1 hM (q_V X ce hl hh) ⟨(q_pre hG hP (.ref b :: As)).1, q_rv (hK := hG.1) ho hc, (q_pre hG hP (.ref b :: As)).2⟩ rfl hn hls hst (lv_room hW) hdg ⟨h1, h2⟩) hS hA kk
theorem q_cS (X : CF p s m args meth c cc nL own ret) (ce : ceS y bytes maxL rt n) (hl : Cond.methodLink own index y ∈ AW) {A1 : Nat → Prop} (hM : cM l y bytes maxL rt h mc ms G As P B A1) (hG : GG G s H) (hP : P H) (hh : h + 1 ≤ hR) (hn : As.length = n) (hls : ls.size = nL) (hst : st0 = As.reverse ++ rest) (hW : (rest.map fun v => v.category).sum ≤ 8) (hdg : decode cc pc = .ok (.invokestatic index, 3)) (h1 : cells + mc ≤ rc) (h2 : slots + ms ≤ rs) (hS : va_S A s.heap H locs) (hA : ∀ q, A1 q → A q)
    (kk : ∀ (v0 : Option Value) (H1 : Heap) (locs1 : List Loc), B v0 H1 → H.size ≤ H1.size → (∀ q : Nat, q < H.size → ¬ A1 q → H1[q]? = H[q]?) → va_S A s.heap H1 locs1 → W p l e (RM hR rc rs) s m args below meth c H1 locs1 (cells + mc) (slots + ms) Q (F0 m (pc + 3) ls (v0.toList ++ rest))) : W p l e (RM hR rc rs) s m args below meth c H locs cells slots Q (F0 m pc ls st0) :=
  q_some (g := F0 m pc ls st0) (va_runS X.1 hM (q_S X ce hl hh) (q_pre hG hP As) rfl hn hls hst (lv_room hW) hdg ⟨h1, h2⟩) hS hA kk
theorem q_cI (X : CF p s m args meth c cc nL own ret) (ce : ceI y bytes maxL n) (hl : Cond.methodLink own index y ∈ AW) {A1 : Nat → Prop} (hM : cM l y bytes maxL none h mc ms G (.ref b :: As) P B A1) (hG : GG G s H) (hP : P H) (hh : h + 1 ≤ hR) (hn : As.length = n) (hls : ls.size = nL) (hst : st0 = As.reverse ++ .ref b :: rest) (hW : (rest.map fun v => v.category).sum ≤ 8) (hdg : decode cc pc = .ok (.invokespecial index, 3)) (h1 : cells + mc ≤ rc) (h2 : slots + ms ≤ rs) (hS : va_S A s.heap H locs) (hA : ∀ q, A1 q → A q)
    (kk : ∀ (v0 : Option Value) (H1 : Heap) (locs1 : List Loc), B v0 H1 → H.size ≤ H1.size → (∀ q : Nat, q < H.size → ¬ A1 q → H1[q]? = H[q]?) → va_S A s.heap H1 locs1 → W p l e (RM hR rc rs) s m args below meth c H1 locs1 (cells + mc) (slots + ms) Q (F0 m (pc + 3) ls (v0.toList ++ rest))) : W p l e (RM hR rc rs) s m args below meth c H locs cells slots Q (F0 m pc ls st0) :=
  q_some (g := F0 m pc ls st0) (va_runI X.1 hM (q_I X ce hl hh) (q_pre hG hP (.ref b :: As)) rfl hn hls hst (lv_room hW) hdg ⟨h1, h2⟩) hS hA kk
/-! numbers that are natural -/
variable {R : Room}
theorem n_add (X : CF p s m args meth c cc nL own ret) {x y : Nat} (hdg : decode cc pc = .ok (.iadd, 1)) (k : W p l e R s m args below meth c H locs cells slots Q (F0 m (pc + 1) ls (.int (nI (x + y)) :: rest))) : W p l e R s m args below meth c H locs cells slots Q (F0 m pc ls (.int (nI y) :: .int (nI x) :: rest)) :=
  lv_iadd X.ex X.co hdg (by rw [nI_add]; exact k)
theorem n_mul (X : CF p s m args meth c cc nL own ret) {x y : Nat} (hdg : decode cc pc = .ok (.imul, 1)) (k : W p l e R s m args below meth c H locs cells slots Q (F0 m (pc + 1) ls (.int (nI (x * y)) :: rest))) : W p l e R s m args below meth c H locs cells slots Q (F0 m pc ls (.int (nI y) :: .int (nI x) :: rest)) :=
  lv_imul X.ex X.co hdg (by rw [pk_mul]; exact k)
theorem n_sub (X : CF p s m args meth c cc nL own ret) {x y : Nat} (hxy : y ≤ x) (hdg : decode cc pc = .ok (.isub, 1)) (k : W p l e R s m args below meth c H locs cells slots Q (F0 m (pc + 1) ls (.int (nI (x - y)) :: rest))) : W p l e R s m args below meth c H locs cells slots Q (F0 m pc ls (.int (nI y) :: .int (nI x) :: rest)) :=
  lv_isub X.ex X.co hdg (by rw [pk_sub hxy]; exact k)
theorem n_const (X : CF p s m args meth c cc nL own ret) {n : Int} (v : Nat) (hdg : decode cc pc = .ok (.iconst n, 1)) (hv : Int32.ofInt n = nI v) (k : W p l e R s m args below meth c H locs cells slots Q (F0 m (pc + 1) ls (.int (nI v) :: rest))) : W p l e R s m args below meth c H locs cells slots Q (F0 m pc ls rest) := lv_iconst X.ex X.co hdg hv k
theorem n_bipush (X : CF p s m args meth c cc nL own ret) {n : Int} (v : Nat) (hdg : decode cc pc = .ok (.bipush n, 2)) (hv : (Int8.ofInt n).toInt32 = nI v) (k : W p l e R s m args below meth c H locs cells slots Q (F0 m (pc + 2) ls (.int (nI v) :: rest))) : W p l e R s m args below meth c H locs cells slots Q (F0 m pc ls rest) := lv_bipush X.ex X.co hdg hv k
theorem n_sipush (X : CF p s m args meth c cc nL own ret) {n : Int} (v : Nat) (hdg : decode cc pc = .ok (.sipush n, 3)) (hv : (Int16.ofInt n).toInt32 = nI v) (k : W p l e R s m args below meth c H locs cells slots Q (F0 m (pc + 3) ls (.int (nI v) :: rest))) : W p l e R s m args below meth c H locs cells slots Q (F0 m pc ls rest) := lv_sipush X.ex X.co hdg hv k
end CALLS
