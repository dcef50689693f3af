/-! ===== rows of references: copied; statics read ===== -/
def okF (lv : I2 → Prop) (ad : I2 → Nat) (en : I2 → va_E) (f : Nat → Option Nat) (n : Nat) : Prop := ∀ x, x < n → ∀ y, f x = some y → ∃ (e : I2) (ci : Nat) (vs : List Value) (r : vw_C), lv e ∧ ad e = y ∧ en e = .inr (ci, vs) ∧ vwCl[ci]? = some r ∧ r.1 ∈ nX
theorem va_S.up {A B : Nat → Prop} {H0 H : Heap} {locs : List Loc} (h : va_S A H0 H locs) (hA : ∀ q, A q → B q) : va_S B H0 H locs := ⟨h.1, fun q h1 h2 => h.2.1 q h1 (fun z => h2 (hA q z)), fun x hx => hA _ (h.2.2 x hx)⟩
section LISTS
variable {p : Program} {l : Launch} {e : Env} {R : Room} {s : State} {m : MethodId} {args : Array Value} {below : List Frame} {meth : Method} {c : Code} {H : Heap} {locs : List Loc} {cells slots : Nat} {Q : State → Prop}
variable {cc : ByteArray} {pc nL : Nat} {ls : Array Slot} {rest : List Value} {own : String} {ret : Option FieldType} {G : GT} {A : Nat → Prop} {H0 : Heap}
variable {lv : I2 → Prop} {ad : I2 → Nat} {en : I2 → va_E}
theorem f_copyM (X : CF p s m args meth c cc nL own ret) (hK : KK G s) (hV : VF G s) (F : fw G.1 lv ad en A H) (hS : va_S A H0 H locs) {i j : I2} {a0 a n0 n1 : Nat} {f g : Nat → Option Nat} (hi : lv i) (hia : ad i = a0) (hei : en i = LA G n0 f) (hj : lv j) (hja : ad j = a) (hej : en j = LA G n1 g) (hls : ls.size = nL) {index : Nat} (hlink : Cond.methodLink own index arraycopyName ∈ AW) (sp dp n : Nat) (h4 : sp + n ≤ n0) (h5 : dp + n ≤ n1) (b0 : n0 < 2 ^ 31) (b1 : n1 < 2 ^ 31) (hel : okF lv ad en f n0)
    (hframes : 1 ≤ R.frames) (hlocals : (rest.map fun v => v.category).sum + (nativeFrameWords "java/lang/System" "arraycopy" 5 + 11) ≤ R.locals) (hdg : decode cc pc = .ok (.invokestatic index, 3))
    (kk : ∀ (H1 : Heap) (locs1 : List Loc), fw G.1 lv ad (iup en j (LA G n1 (va_cpy f g sp dp n))) A H1 → va_S A H0 H1 locs1 → W p l e R s m args below meth c H1 locs1 cells slots Q (F0 m (pc + 3) ls rest)) : W p l e R s m args below meth c H locs cells slots Q (F0 m pc ls (.int (nI n) :: .int (nI dp) :: .ref a :: .int (nI sp) :: .ref a0 :: rest)) := by
  subst hia
  subst hja
  have F0' := F
  obtain ⟨ids, f1, f2, f3, f4⟩ := F
  obtain ⟨q0, g1, g2⟩ := fl_get (ad := ad) (en := en) ((f2 i).mpr hi)
  obtain ⟨q1, g3, g4⟩ := fl_get (ad := ad) (en := en) ((f2 j).mpr hj)
  have e1 : (nI sp).toNatClampNeg = sp := nI_clamp (by omega)
  have e2 : (nI dp).toNatClampNeg = dp := nI_clamp (by omega)
  have e3 : (nI n).toNatClampNeg = n := nI_clamp (by omega)
  refine va_copyM X.ex X.co (X.ml.trans hls.symm) X.ow (X.ts _ hlink) (X.ts _ m_439) (X.ts _ m_438) (X.ts _ m_19) hK f3 f4 hS q0 q1 4 4 (g2.trans (by rw [hei])) (g4.trans (by rw [hej])) rfl rfl (nI_pos (by omega)) (nI_pos (by omega)) (nI_pos (by omega)) (by rw [e1, e3]; exact h4) (by rw [e2, e3]; exact h5) (fun x hx y hy => ?_) hframes hlocals hdg fun H1 locs1 h1 h2 h3 => ?_
  · rw [e3] at hx
    rw [e1] at hy
    obtain ⟨e9, ci, vs, r, a1, a2, a3, a4, a5⟩ := hel (sp + x) (by omega) y hy
    exact va_rAny (q0 := 0) hK (P1 (fw.get F0' a1 a2 a3)) rfl a4 (vb_asgC (hV.2.1 _ a5))
  · rw [e1, e2, e3, fl_set f1 g3] at h1 h2
    exact kk H1 locs1 ⟨ids, f1, f2, h1, h2⟩ h3
/-- the list's first row of nothing, that all share -/
theorem f_empty (X : CF p s m args meth c cc nL RJx4a65c ret) (g0 : GG G s s.heap) (hS : va_S A s.heap H locs) (hAg : ∀ q, A q → gA G q) (hdg : decode cc pc = .ok (.getstatic 39, 3))
    (kk : W p l e R s m args below meth c H locs cells slots Q (F0 m (pc + 3) ls (.ref (G.2.2 0) :: rest))) : W p l e R s m args below meth c H locs cells slots Q (F0 m pc ls rest) :=
  va_gets X.ex X.co g0.2.2.2.1.1 (hS.up hAg) X.ow (X.ts _ m_59) (fun _ h => h) hdg kk
theorem f_emptyN (X : CF p s m args meth c cc nL own ret) (g0 : GG G s s.heap) (hS : va_S A s.heap H locs) (hAg : ∀ q, A q → gA G q) (hdg : decode cc pc = .ok (.arraylength, 1))
    (kk : W p l e R s m args below meth c H locs cells slots Q (F0 m (pc + 1) ls (.int (nI 0) :: rest))) : W p l e R s m args below meth c H locs cells slots Q (F0 m pc ls (.ref (G.2.2 0) :: rest)) :=
  va_tlen X.ex X.co g0.2.2.2.1.2 (hS.up hAg) (v := nI 0) rfl hdg kk
theorem f_max (X : CF p s m args meth c cc nL own ret) (hls : ls.size = nL) {index : Nat} (hlink : Cond.methodLink own index Lib.Math.max.name ∈ AW) (hframes : 1 ≤ R.frames) (hlocals : (rest.map fun v => v.category).sum + 13 ≤ R.locals) (hc : cells ≤ R.cells) (hs : slots ≤ R.slots) {x y : Int32} (hdg : decode cc pc = .ok (.invokestatic index, 3))
    (kk : W p l e R s m args below meth c H locs cells slots Q (F0 m (pc + 3) ls (.int (if x < y then y else x) :: rest))) : W p l e R s m args below meth c H locs cells slots Q (F0 m pc ls (.int y :: .int x :: rest)) :=
  va_mmax X.ex X.co (X.ml.trans hls.symm) X.ow (X.ts _ hlink) (X.ts _ m_251) (X.ts _ m_17) (X.ts _ m_252) hframes hlocals hc hs hdg kk
theorem f_min (X : CF p s m args meth c cc nL own ret) (hls : ls.size = nL) {index : Nat} (hlink : Cond.methodLink own index Lib.Math.min.name ∈ AW) (hframes : 1 ≤ R.frames) (hlocals : (rest.map fun v => v.category).sum + 13 ≤ R.locals) (hc : cells ≤ R.cells) (hs : slots ≤ R.slots) {x y : Int32} (hdg : decode cc pc = .ok (.invokestatic index, 3))
    (kk : W p l e R s m args below meth c H locs cells slots Q (F0 m (pc + 3) ls (.int (if y < x then y else x) :: rest))) : W p l e R s m args below meth c H locs cells slots Q (F0 m pc ls (.int y :: .int x :: rest)) :=
  va_mmin X.ex X.co (X.ml.trans hls.symm) X.ow (X.ts _ hlink) (X.ts _ m_204) (X.ts _ m_17) (X.ts _ m_205) hframes hlocals hc hs hdg kk
theorem f_abs (X : CF p s m args meth c cc nL own ret) (hls : ls.size = nL) {index : Nat} (hlink : Cond.methodLink own index Lib.Math.abs.name ∈ AW) (hframes : 1 ≤ R.frames) (hlocals : (rest.map fun v => v.category).sum + 13 ≤ R.locals) (hc : cells ≤ R.cells) (hs : slots ≤ R.slots) {x : Int32} (hdg : decode cc pc = .ok (.invokestatic index, 3))
    (kk : W p l e R s m args below meth c H locs cells slots Q (F0 m (pc + 3) ls (.int (if 0 ≤ x then x else 0 - x) :: rest))) : W p l e R s m args below meth c H locs cells slots Q (F0 m pc ls (.int x :: rest)) :=
  va_mabs X.ex X.co (X.ml.trans hls.symm) X.ow (X.ts _ hlink) (X.ts _ m_201) (X.ts _ m_17) (X.ts _ m_202) hframes hlocals hc hs hdg kk
theorem f_obj (X : CF p s m args meth c cc nL own ret) (hls : ls.size = nL) {idx a : Nat} (hlink : Cond.methodLink own idx objectInit ∈ AW) (hd : decode cc pc = .ok (.invokespecial idx, 3)) (hframes : 1 ≤ R.frames) (hlocals : (rest.map fun v => v.category).sum + 12 ≤ R.locals)
    (kk : W p l e R s m args below meth c H locs cells slots Q (F0 m (pc + 3) ls rest)) : W p l e R s m args below meth c H locs cells slots Q (F0 m pc ls (.ref a :: rest)) :=
  W.objInit X.ex X.co X.ow (X.ts _ hlink) (X.ts _ m_45) (X.ts _ m_46) rfl (hls.trans X.ml.symm) rfl hd hframes (by show 2 * 0 + _ + 12 ≤ _; omega) kk
theorem f_getC (X : CF p s m args meth c cc nL RJ7 ret) (hK : KK G s) (hV : VF G s) {a n : Nat} {f : Nat → Option Nat} (hP : va_at G.1 vwCl (a, LA G n f) H) (hls : ls.size = nL) (hframes : 1 ≤ R.frames) (hlocals : (rest.map fun v => v.category).sum + 14 ≤ R.locals) (hdg : decode cc pc = .ok (.invokevirtual 86, 3))
    (kk : W p l e R s m args below meth c H locs cells slots Q (F0 m (pc + 3) ls (.ref (G.2.2 4) :: rest))) : W p l e R s m args below meth c H locs cells slots Q (F0 m pc ls (.ref a :: rest)) :=
  va_getC X.ex X.co (X.ml.trans hls.symm) X.ow (X.ts _ m_404) (hV.2.2.2.2.1.use) (X.ts _ m_1786) (X.ts _ m_405) (X.ts _ m_429) hV.2.2.2.1 ⟨_, hP, rfl, va_nmO (hK.2 4 _ rfl).2 (by decide)⟩ hframes hlocals hdg kk
end LISTS
section CALLS3
variable {p : Program} {l : Launch} {e : Env} {hR rc rs : Nat} {s : State} {m : MethodId} {args : Array Value} {below : List Frame} {meth : Method} {c : Code} {H : Heap} {locs : List Loc} {cells slots : Nat} {Q : State → Prop}
variable {cc : ByteArray} {pc nL : Nat} {ls : Array Slot} {rest st0 : List Value} {own : String} {ret : Option FieldType} {G : GT} {A A1 : Nat → Prop}
variable {y : MethodName} {bytes : ByteArray} {maxL n h mc ms index : Nat} {rt : Option FieldType} {As : List Value} {b : Nat} {P : Heap → Prop} {w : Nat → Value} {B : Nat → Heap → Prop}
/-- a call that hands back a thing just made -/
theorem q_xV (X : CF p s m args meth c cc nL own ret) (ce : ceV y bytes maxL rt n) (hl : Cond.methodLink own index y ∈ AW) (hM : cM l y bytes maxL rt h mc ms G (.ref b :: As) P (fun r H => ∃ q, r = some (w q) ∧ B q H) A1) (hG : GG G s H) (hP : P H) {ci : Nat} {fs : List Value} (ho : va_at G.1 vwCl (b, .inr (ci, fs)) H) {T : u_T} {N : Nat} (hc : vwCl[ci]? = some (y.cls, T, N)) (hh : h + 1 ≤ hR) (hn : As.length = n) (hls : ls.size = nL) (hst : st0 = As.reverse ++ .ref b :: rest) (hW : (rest.map fun v => v.category).sum ≤ 8) (hdg : decode cc pc = .ok (.invokevirtual index, 3)) (h1 : cells + mc ≤ rc) (h2 : slots + ms ≤ rs) (hS : va_S A s.heap H locs) (hA : ∀ q, A1 q → A q)
    (kk : ∀ (q : Nat) (H1 : Heap) (locs1 : List Loc), B q H1 → H.size ≤ H1.size → (∀ q : Nat, q < H.size → ¬ A1 q → H1[q]? = H[q]?) → va_S A s.heap H1 locs1 → W p l e (RM hR rc rs) s m args below meth c H1 locs1 (cells + mc) (slots + ms) Q (F0 m (pc + 3) ls (w q :: rest))) : W p l e (RM hR rc rs) s m args below meth c H locs cells slots Q (F0 m pc ls st0) :=
  q_cV X ce hl hM hG hP ho hc hh hn hls hst hW hdg h1 h2 hS hA fun v0 H1 locs1 hB a1 a2 a3 => by obtain ⟨q, rfl, hB⟩ := hB; exact kk q H1 locs1 hB a1 a2 a3
theorem q_xS (X : CF p s m args meth c cc nL own ret) (ce : ceS y bytes maxL rt n) (hl : Cond.methodLink own index y ∈ AW) (hM : cM l y bytes maxL rt h mc ms G As P (fun r H => ∃ q, r = some (w q) ∧ B q H) A1) (hG : GG G s H) (hP : P H) (hh : h + 1 ≤ hR) (hn : As.length = n) (hls : ls.size = nL) (hst : st0 = As.reverse ++ rest) (hW : (rest.map fun v => v.category).sum ≤ 8) (hdg : decode cc pc = .ok (.invokestatic index, 3)) (h1 : cells + mc ≤ rc) (h2 : slots + ms ≤ rs) (hS : va_S A s.heap H locs) (hA : ∀ q, A1 q → A q)
    (kk : ∀ (q : Nat) (H1 : Heap) (locs1 : List Loc), B q H1 → H.size ≤ H1.size → (∀ q : Nat, q < H.size → ¬ A1 q → H1[q]? = H[q]?) → va_S A s.heap H1 locs1 → W p l e (RM hR rc rs) s m args below meth c H1 locs1 (cells + mc) (slots + ms) Q (F0 m (pc + 3) ls (w q :: rest))) : W p l e (RM hR rc rs) s m args below meth c H locs cells slots Q (F0 m pc ls st0) :=
  q_cS X ce hl hM hG hP hh hn hls hst hW hdg h1 h2 hS hA fun v0 H1 locs1 hB a1 a2 a3 => by obtain ⟨q, rfl, hB⟩ := hB; exact kk q H1 locs1 hB a1 a2 a3
theorem q_rVv (X : CF p s m args meth c cc nL own ret) (ce : ceV y bytes maxL rt n) (hl : Cond.methodLink own index y ∈ AW) (hM : rM l y bytes maxL rt h G (.ref b :: As) P none) (hG : GG G s H) (hP : P H) {ci : Nat} {fs : List Value} (ho : va_at G.1 vwCl (b, .inr (ci, fs)) H) {T : u_T} {N : Nat} (hc : vwCl[ci]? = some (y.cls, T, N)) (hh : h + 1 ≤ hR) (hn : As.length = n) (hls : ls.size = nL) (hst : st0 = As.reverse ++ .ref b :: rest) (hW : (rest.map fun v => v.category).sum ≤ 8) (hdg : decode cc pc = .ok (.invokevirtual index, 3)) (h1 : cells ≤ rc) (h2 : slots ≤ rs)
    (kk : W p l e (RM hR rc rs) s m args below meth c H locs cells slots Q (F0 m (pc + 3) ls rest)) : W p l e (RM hR rc rs) s m args below meth c H locs cells slots Q (F0 m pc ls st0) :=
  q_same (v0 := none) (g := F0 m pc ls st0) (va_runV X.1 hM (q_V X ce hl hh) ⟨(q_pre hG hP (.ref b :: As)).1, q_rv (hK := hG.1) ho hc, (q_pre hG hP (.ref b :: As)).2⟩ rfl hn hls hst (lv_room hW) hdg ⟨h1, h2⟩) kk
end CALLS3
theorem iup_sw {α : Type} {f : I2 → α} {i k : I2} (h : k ≠ i) (a b : α) : iup (iup f k a) i b = iup (iup f i b) k a := by
  funext j
  unfold iup
  by_cases h1 : j = i
  · rw [if_pos h1, if_neg (fun z => h (z.symm.trans h1)), if_pos h1]
  · rw [if_neg h1, if_neg h1]
/-- a list's row: the shared one of nothing, or its own -/
def la (G : GT) (lv : I2 → Prop) (ad : I2 → Nat) (en : I2 → va_E) (k : I2) (d q : Nat) (f : Nat → Option Nat) : Prop := (q = 0 ∧ ¬ lv k ∧ d = G.2.2 0 ∧ f = fun _ => none) ∨ (0 < q ∧ lv k ∧ ad k = d ∧ en k = LA G q f)
theorem cpy_all {f : Nat → Option Nat} {q : Nat} (h : ∀ x, q ≤ x → f x = none) : va_cpy f (fun _ => none) 0 0 q = f := by
  funext x
  unfold va_cpy
  by_cases hx : x < q
  · rw [if_pos ⟨Nat.zero_le _, by omega⟩]
    simp
  · rw [if_neg (by omega)]
    exact (h x (by omega)).symm
/-- the same cells under other names -/
theorem fw.map {D : va_G} {lv lv' : I2 → Prop} {ad ad' : I2 → Nat} {en en' : I2 → va_E} {A : Nat → Prop} {H : Heap} (F : fw D lv ad en A H) (r r' : I2 → I2) (h : ∀ i, lv' i → lv (r i) ∧ ad' i = ad (r i) ∧ en' i = en (r i)) (hr : ∀ i, lv' i → r' (r i) = i) : fw D lv' ad' en' A H := by
  have F0 := F
  obtain ⟨ids, h1, h2, -, -⟩ := F
  classical
  have hm : ∀ i, i ∈ (ids.filter (fun j => decide (lv' (r' j) ∧ r (r' j) = j))).map r' ↔ lv' i := by
    intro i
    rw [List.mem_map]
    constructor
    · rintro ⟨j, hj, rfl⟩
      have := (List.mem_filter.mp hj).2
      simp only [decide_eq_true_eq] at this
      exact this.1
    · intro hi
      refine ⟨r i, List.mem_filter.mpr ⟨(h2 _).mpr (h i hi).1, ?_⟩, hr i hi⟩
      simp only [decide_eq_true_eq]
      rw [hr i hi]
      exact ⟨hi, rfl⟩
  have hn : ((ids.filter (fun j => decide (lv' (r' j) ∧ r (r' j) = j))).map r').Nodup := by
    refine List.Pairwise.map r' (R := fun a b => a ≠ b ∧ r (r' a) = a ∧ r (r' b) = b) (fun a b hab z => hab.1 (by rw [← hab.2.1, ← hab.2.2, z])) ?_
    refine List.Pairwise.imp_of_mem (R := fun a b => a ≠ b) (fun {a b} ha hb hne => ⟨hne, ?_, ?_⟩) (h1.filter _)
    · have := (List.mem_filter.mp ha).2
      simp only [decide_eq_true_eq] at this
      exact this.2
    · have := (List.mem_filter.mp hb).2
      simp only [decide_eq_true_eq] at this
      exact this.2
  refine ⟨_, hn, hm, fun k q hk => ?_, fun i j p q hi hj hpq => ?_, fun k q hk => ?_⟩
  · obtain ⟨i, hi, rfl⟩ := List.mem_map.mp (List.mem_of_getElem? hk)
    obtain ⟨a1, a2, a3⟩ := h i ((hm i).mp hi)
    show va_at D vwCl (ad' i, en' i) H
    rw [a2, a3]
    exact F0.at a1
  · rw [fl, List.getElem?_map] at hi hj
    cases gi : ((ids.filter (fun j => decide (lv' (r' j) ∧ r (r' j) = j))).map r')[i]? with
    | none => rw [gi] at hi; cases hi
    | some x =>
      cases gj : ((ids.filter (fun j => decide (lv' (r' j) ∧ r (r' j) = j))).map r')[j]? with
      | none => rw [gj] at hj; cases hj
      | some y =>
        rw [gi] at hi; rw [gj] at hj
        cases hi; cases hj
        have hx := (hm x).mp (List.mem_of_getElem? gi)
        have hy := (hm y).mp (List.mem_of_getElem? gj)
        have hxy : r x = r y := F0.inj (h x hx).1 (h y hy).1 (by rw [← (h x hx).2.1, ← (h y hy).2.1]; exact hpq)
        have hxy2 : x = y := by rw [← hr x hx, ← hr y hy, hxy]
        subst hxy2
        exact nd_ix hn gi gj
  · obtain ⟨i, hi, rfl⟩ := List.mem_map.mp (List.mem_of_getElem? hk)
    obtain ⟨a1, a2, a3⟩ := h i ((hm i).mp hi)
    show A (ad' i)
    rw [a2]
    exact F0.in a1
/-- the new row t takes the place of the row k -/
theorem fw.ren {D : va_G} {lv : I2 → Prop} {ad : I2 → Nat} {en : I2 → va_E} {A : Nat → Prop} {H : Heap} {k t : I2} {q : Nat} {x : va_E} (hkt : k ≠ t) (ht : ¬ lv t) (he : en t = x) (F : fw D (fun j => lv j ∨ j = t) (iup ad t q) en A H) : fw D (fun j => lv j ∨ j = k) (iup ad k q) (iup en k x) A H := by
  refine fw.map F (fun i => if i = k then t else i) (fun j => if j = t then k else j) (fun i hi => ?_) (fun i hi => ?_)
  · by_cases h : i = k
    · subst h
      show (lv (if i = i then t else i) ∨ _) ∧ iup ad i q i = iup ad t q (if i = i then t else i) ∧ iup en i x i = en (if i = i then t else i)
      rw [if_pos rfl, iup_s, iup_s, iup_s, he]
      exact ⟨Or.inr rfl, rfl, rfl⟩
    · have hl : lv i := hi.resolve_right h
      have hit : i ≠ t := fun z => ht (z ▸ hl)
      show (lv (if i = k then t else i) ∨ _) ∧ iup ad k q i = iup ad t q (if i = k then t else i) ∧ iup en k x i = en (if i = k then t else i)
      rw [if_neg h, iup_n _ _ h, iup_n _ _ hit, iup_n _ _ h]
      exact ⟨Or.inl hl, rfl, rfl⟩
  · show (if (if i = k then t else i) = t then k else if i = k then t else i) = i
    by_cases h : i = k
    · rw [if_pos h, if_pos rfl, h]
    · have hl : lv i := hi.resolve_right h
      have hit : i ≠ t := fun z => ht (z ▸ hl)
      rw [if_neg h, if_neg hit]
def gcap (q : Nat) : Nat := if q = 0 then 10 else q + (if 1 < q / 2 then q / 2 else 1)
theorem fw.ren2 {D : va_G} {lv : I2 → Prop} {ad : I2 → Nat} {en : I2 → va_E} {A : Nat → Prop} {H : Heap} {i k t : I2} {q : Nat} {x y : va_E} (hkt : k ≠ t) (hit : i ≠ t) (ht : ¬ lv t) (F : fw D (fun j => lv j ∨ j = t) (iup ad t q) (iup (iup en t x) i y) A H) : fw D (fun j => lv j ∨ j = k) (iup ad k q) (iup (iup en i y) k x) A H := by
  refine fw.sub (fw.ren (k := k) (x := x) hkt ht ((iup_n _ _ (Ne.symm hit)).trans (iup_s _ _ _)) F) fun j hj => ⟨hj, rfl, ?_⟩
  by_cases h : j = k
  · subst h
    rw [iup_s, iup_s]
  · have hl : lv j := hj.resolve_right h
    have hjt : j ≠ t := fun z => ht (z ▸ hl)
    rw [iup_n _ _ h, iup_n _ _ h]
    by_cases h2 : j = i
    · subst h2
      rw [iup_s, iup_s]
    · rw [iup_n _ _ h2, iup_n _ _ h2, iup_n _ _ hjt]
theorem gcap_lt (q : Nat) : q < gcap q := by
  unfold gcap
  split
  · omega
  · split <;> omega
def ncap (n q : Nat) : Nat := if n = q then gcap q else q
theorem fw.own {D : va_G} {lv : I2 → Prop} {ad : I2 → Nat} {en : I2 → va_E} {A : Nat → Prop} {H : Heap} {k : I2} {d : Nat} (hk : lv k) (hak : ad k = d) (F : fw D lv ad en A H) : fw D (fun j => lv j ∨ j = k) (iup ad k d) en A H := by
  refine fw.sub F fun j hj => ⟨hj.elim id (fun z => z ▸ hk), ?_, rfl⟩
  by_cases h : j = k
  · subst h
    rw [iup_s, hak]
  · exact iup_n _ _ h
theorem la.up {G : GT} {lv : I2 → Prop} {ad : I2 → Nat} {en : I2 → va_E} {i k : I2} {d q : Nat} {f : Nat → Option Nat} {y : va_E} (hki : k ≠ i) (h : la G lv ad en k d q f) : la G lv ad (iup en i y) k d q f := by
  rcases h with h | ⟨h1, h2, h3, h4⟩
  · exact Or.inl h
  · exact Or.inr ⟨h1, h2, h3, (iup_n _ _ hki).trans h4⟩
theorem okF.up {lv : I2 → Prop} {ad : I2 → Nat} {en : I2 → va_E} {i : I2} {x : Int32} {d n q : Nat} {f : Nat → Option Nat} {y : va_E} (hei : en i = LO x d n) (h : okF lv ad en f q) : okF lv ad (iup en i y) f q := fun a ha b hb => by
  obtain ⟨e, ci, vs, r, h1, h2, h3, h4, h5⟩ := h a ha b hb
  refine ⟨e, ci, vs, r, h1, h2, ?_, h4, h5⟩
  rw [iup_n _ _ (fun z => ?_)]
  · exact h3
  · subst z
    rw [hei] at h3
    cases h3
    cases h4
    exact absurd h5 (by decide)
def clr (f : Nat → Option Nat) (i : Nat) : Nat → Option Nat := fun x => if x < i then none else f x
theorem clr_0 (f : Nat → Option Nat) : clr f 0 = f := by
  funext x
  exact if_neg (by omega)
theorem clr_s (f : Nat → Option Nat) (i : Nat) : clr f (i + 1) = va_up (clr f i) i none := by
  funext x
  show (if x < i + 1 then none else f x) = (if x = i then none else (if x < i then none else f x))
  by_cases h : x = i
  · rw [if_pos (by omega), if_pos h]
  · rw [if_neg h]
    by_cases h2 : x < i
    · rw [if_pos (by omega), if_pos h2]
    · rw [if_neg (by omega), if_neg h2]
theorem clr_n {f : Nat → Option Nat} {n : Nat} (h : ∀ x, n ≤ x → f x = none) : clr f n = fun _ => none := by
  funext x
  unfold clr
  split
  · rfl
  · exact h x (by omega)
theorem cpy_0 (f g : Nat → Option Nat) (a b : Nat) : va_cpy f g a b 0 = g := by
  funext x
  exact if_neg (by omega)
/-- a list without its j-th -/
def rmv (f : Nat → Option Nat) (n j : Nat) : Nat → Option Nat := va_up (va_cpy f f (j + 1) j (n - 1 - j)) (n - 1) none
/-- a list with one more at j -/
def insv (f : Nat → Option Nat) (n j v : Nat) : Nat → Option Nat := va_up (va_cpy f f j (j + 1) (n - j)) j (some v)
theorem okF.gr {G : GT} {lv : I2 → Prop} {ad : I2 → Nat} {en : I2 → va_E} {i k : I2} {x : Int32} {d n q q2 N : Nat} {f : Nat → Option Nat} {y z : va_E} (hk : lv k → ∃ (N : Nat) (g : Nat → Option Nat), en k = LA G N g) (hei : en i = LO x d n) (h : okF lv ad en f q) (hfn : ∀ x, q ≤ x → f x = none) : okF (fun j => lv j ∨ j = k) (iup ad k q2) (iup (iup en i y) k z) f N := fun a ha b hb => by
  have haq : a < q := by
    rcases Nat.lt_or_ge a q with w | w
    · exact w
    · rw [hfn a w] at hb
      cases hb
  obtain ⟨e, ci, vs, r, h1, h2, h3, h4, h5⟩ := okF.up (y := y) hei h a haq b hb
  have h3' := (h a haq b hb)
  have hne : e ≠ k := fun w => by
    subst w
    obtain ⟨N0, g, hg⟩ := hk h1
    by_cases hi : e = i
    · subst hi
      rw [hei] at hg
      cases hg
    · rw [iup_n _ _ hi, hg] at h3
      cases h3
  exact ⟨e, ci, vs, r, Or.inl h1, (iup_n _ _ hne).trans h2, (iup_n _ _ hne).trans h3, h4, h5⟩
