/-! ===== rows: fields and rows of cells ===== -/
def okC (C : String) (T : u_T) (N : Nat) (ty : Nat → FieldType) : Prop :=
  (∀ w ∈ u_ws C T N, w ∈ AW) ∧ (∀ k, k < N → parseFieldDescriptor (T k).2.2.1 = some (ty k)) ∧ ∀ a, a < N → ∀ b, b < N → a ≠ b → (T a).2.1 ≠ (T b).2.1
theorem P1 {D : va_G} {a : Nat} {x : va_E} {H : Heap} (h : va_at D vwCl (a, x) H) : va_P D vwCl [(a, x)] H := by
  intro k q hk
  match k, hk with
  | 0, hk => cases hk; exact h
  | k + 1, hk => cases hk
section ROW
variable {p : Program} {l : Launch} {e : Env} {R : Room} {s : State} {m : MethodId} {args : Array Value} {below : List Frame} {meth : Method} {c : Code} {H : Heap} {locs : List Loc} {cells slots : Nat} {Q : State → Prop}
variable {cc : ByteArray} {pc nL : Nat} {ls : Array Slot} {rest : List Value} {own : String} {ret : Option FieldType} {G : GT} {A : Nat → Prop} {a : Nat} {H0 : Heap}
variable {lv : I2 → Prop} {ad : I2 → Nat} {en : I2 → va_E} {i : I2}
theorem f_get (X : CF p s m args meth c cc nL own ret) (hK : KK G s) {ci : Nat} {fs : List Value} (hP : va_at G.1 vwCl (a, .inr (ci, fs)) H) {C ref : String} {T : u_T} {N index : Nat} {ty : Nat → FieldType} (ok : okC C T N ty) (hc : vwCl[ci]? = some (C, T, N)) (k : Nat) (hk : k < N) (hlink : Cond.fieldLink own index ref (T k).2.1 (T k).2.2.1 ∈ AW)
    (hsame : ∀ x, s.fieldFound? (T k).1 (T k).2.1 (T k).2.2.1 = some x → s.fieldFound? ref (T k).2.1 (T k).2.2.1 = some x) {v : Value} (hv : fs[k]? = some v) (hdg : decode cc pc = .ok (.getfield index, 3))
    (kk : W p l e R s m args below meth c H locs cells slots Q (F0 m (pc + 3) ls (v :: rest))) : W p l e R s m args below meth c H locs cells slots Q (F0 m pc ls (.ref a :: rest)) :=
  va_get X.ex X.co X.ts ok.1 X.ow hK (P1 hP) 0 rfl hc k hk (X.ts _ hlink) hsame hv hdg kk
theorem f_put (X : CF p s m args meth c cc nL own ret) (hK : KK G s) (F : fw G.1 lv ad en A H) (hS : va_S A H0 H locs) (hi : lv i) (hia : ad i = a) {ci : Nat} {fs : List Value} (he : en i = .inr (ci, fs)) {C ref : String} {T : u_T} {N index : Nat} {ty : Nat → FieldType} (ok : okC C T N ty) (hc : vwCl[ci]? = some (C, T, N)) (k : Nat) (hk : k < N) (hlink : Cond.fieldLink own index ref (T k).2.1 (T k).2.2.1 ∈ AW)
    (hsame : ∀ x, s.fieldFound? (T k).1 (T k).2.1 (T k).2.2.1 = some x → s.fieldFound? ref (T k).2.1 (T k).2.2.1 = some x) (hfin : (T k).2.2.2 = false) {ty1 : FieldType} {v : Value} (hd : parseFieldDescriptor (T k).2.2.1 = some ty1) (hn : narrow ty1 v = v) (hfit : fits ty1 v = true) (hl : k < fs.length) (hdg : decode cc pc = .ok (.putfield index, 3))
    (kk : ∀ (H1 : Heap) (locs1 : List Loc), fw G.1 lv ad (iup en i (.inr (ci, fs.set k v))) A H1 → va_S A H0 H1 locs1 → W p l e R s m args below meth c H1 locs1 cells slots Q (F0 m (pc + 3) ls rest)) : W p l e R s m args below meth c H locs cells slots Q (F0 m pc ls (v :: .ref a :: rest)) := by
  subst hia
  obtain ⟨ids, f1, f2, f3, f4⟩ := F
  obtain ⟨q0, g1, g2⟩ := fl_get (ad := ad) (en := en) ((f2 i).mpr hi)
  refine va_put X.ex X.co X.ts ok.1 ty ok.2.1 ok.2.2 X.ow hK f3 f4 hS q0 (g2.trans (by rw [he])) hc k hk (X.ts _ hlink) hsame hfin hd hn hfit hl hdg fun H1 locs1 h1 h2 h3 => ?_
  rw [fl_set f1 g1] at h1 h2
  exact kk H1 locs1 ⟨ids, f1, f2, h1, h2⟩ h3
theorem f_putF (X : CF p s m args meth c cc nL own ret) (hin : meth.name = "<init>") (hK : KK G s) (F : fw G.1 lv ad en A H) (hS : va_S A H0 H locs) (hi : lv i) (hia : ad i = a) {ci : Nat} {fs : List Value} (he : en i = .inr (ci, fs)) {C ref : String} {T : u_T} {N index : Nat} {ty : Nat → FieldType} (ok : okC C T N ty) (hc : vwCl[ci]? = some (C, T, N)) (k : Nat) (hk : k < N) (hlink : Cond.fieldLink own index ref (T k).2.1 (T k).2.2.1 ∈ AW)
    (hsame : ∀ x, s.fieldFound? (T k).1 (T k).2.1 (T k).2.2.1 = some x → s.fieldFound? ref (T k).2.1 (T k).2.2.1 = some x) (hfin : (T k).2.2.2 = true) (hdecl : (T k).1 = own) {ty1 : FieldType} {v : Value} (hd : parseFieldDescriptor (T k).2.2.1 = some ty1) (hn : narrow ty1 v = v) (hfit : fits ty1 v = true) (hl : k < fs.length) (hdg : decode cc pc = .ok (.putfield index, 3))
    (kk : ∀ (H1 : Heap) (locs1 : List Loc), fw G.1 lv ad (iup en i (.inr (ci, fs.set k v))) A H1 → va_S A H0 H1 locs1 → W p l e R s m args below meth c H1 locs1 cells slots Q (F0 m (pc + 3) ls rest)) : W p l e R s m args below meth c H locs cells slots Q (F0 m pc ls (v :: .ref a :: rest)) := by
  subst hia
  obtain ⟨ids, f1, f2, f3, f4⟩ := F
  obtain ⟨q0, g1, g2⟩ := fl_get (ad := ad) (en := en) ((f2 i).mpr hi)
  refine va_putF X.ex X.co X.ts ok.1 ty ok.2.1 ok.2.2 X.ow hK f3 f4 hS q0 (g2.trans (by rw [he])) hc k hk (X.ts _ hlink) hsame hfin hin hdecl hd hn hfit hl hdg fun H1 locs1 h1 h2 h3 => ?_
  rw [fl_set f1 g1] at h1 h2
  exact kk H1 locs1 ⟨ids, f1, f2, h1, h2⟩ h3
/-! rows of numbers: what is read -/
theorem f_iald (X : CF p s m args meth c cc nL own ret) (hK : KK G s) {n : Nat} {f : Nat → Int32} (hP : va_at G.1 vwCl (a, .inl (G.2.1 0, n, .inl f)) H) {x : Int32} (hin : vp_in x n) (hdg : decode cc pc = .ok (.iaload, 1))
    (kk : W p l e R s m args below meth c H locs cells slots Q (F0 m (pc + 1) ls (.int (f x.toNatClampNeg) :: rest))) : W p l e R s m args below meth c H locs cells slots Q (F0 m pc ls (.int x :: .ref a :: rest)) :=
  va_iald X.ex X.co hK (P1 hP) 0 0 rfl rfl hin hdg kk
theorem f_zald (X : CF p s m args meth c cc nL own ret) (hK : KK G s) {n : Nat} {f : Nat → Int32} (hP : va_at G.1 vwCl (a, .inl (G.2.1 1, n, .inl f)) H) {x : Int32} (hin : vp_in x n) (hdg : decode cc pc = .ok (.baload, 1))
    (kk : W p l e R s m args below meth c H locs cells slots Q (F0 m (pc + 1) ls (.int (f x.toNatClampNeg) :: rest))) : W p l e R s m args below meth c H locs cells slots Q (F0 m pc ls (.int x :: .ref a :: rest)) :=
  va_zald X.ex X.co hK (P1 hP) 0 1 rfl rfl hin hdg kk
theorem f_bald (X : CF p s m args meth c cc nL own ret) (hK : KK G s) {n : Nat} {f : Nat → Int32} (hP : va_at G.1 vwCl (a, .inl (G.2.1 3, n, .inl f)) H) {x : Int32} (hin : vp_in x n) (hdg : decode cc pc = .ok (.baload, 1))
    (kk : W p l e R s m args below meth c H locs cells slots Q (F0 m (pc + 1) ls (.int (f x.toNatClampNeg) :: rest))) : W p l e R s m args below meth c H locs cells slots Q (F0 m pc ls (.int x :: .ref a :: rest)) :=
  va_bald X.ex X.co hK (P1 hP) 0 3 rfl rfl hin hdg kk
theorem f_aald (X : CF p s m args meth c cc nL own ret) (hK : KK G s) {n : Nat} {f : Nat → Option Nat} (hP : va_at G.1 vwCl (a, .inl (G.2.1 4, n, .inr (.inr (.inr (.inr f))))) H) {x : Int32} (hin : vp_in x n) (hdg : decode cc pc = .ok (.aaload, 1))
    (kk : W p l e R s m args below meth c H locs cells slots Q (F0 m (pc + 1) ls (va_rf (f x.toNatClampNeg) :: rest))) : W p l e R s m args below meth c H locs cells slots Q (F0 m pc ls (.int x :: .ref a :: rest)) :=
  va_aldq X.ex X.co hK (P1 hP) 0 4 rfl rfl hin hdg kk
theorem f_alen (X : CF p s m args meth c cc nL own ret) (hK : KK G s) (k : Nat) {x : vp_A} {ty : FieldType} (hP : va_at G.1 vwCl (a, .inl (G.2.1 k, x)) H) (ht : (tyK G.2.1)[k]? = some (G.2.1 k, ty)) {v : Int32} (hv : Int32.ofNat x.1 = v) (hdg : decode cc pc = .ok (.arraylength, 1))
    (kk : W p l e R s m args below meth c H locs cells slots Q (F0 m (pc + 1) ls (.int v :: rest))) : W p l e R s m args below meth c H locs cells slots Q (F0 m pc ls (.ref a :: rest)) :=
  va_alen X.ex X.co hK (P1 hP) 0 k rfl ht hv hdg kk
/-! what is written -/
theorem f_iast (X : CF p s m args meth c cc nL own ret) (hK : KK G s) (F : fw G.1 lv ad en A H) (hS : va_S A H0 H locs) (hi : lv i) (hia : ad i = a) {n : Nat} {f : Nat → Int32} (he : en i = .inl (G.2.1 0, n, .inl f)) {x v : Int32} (hin : vp_in x n) (hdg : decode cc pc = .ok (.iastore, 1))
    (kk : ∀ (H1 : Heap) (locs1 : List Loc), fw G.1 lv ad (iup en i (.inl (G.2.1 0, n, .inl (upd f x.toNatClampNeg v)))) A H1 → va_S A H0 H1 locs1 → W p l e R s m args below meth c H1 locs1 cells slots Q (F0 m (pc + 1) ls rest)) : W p l e R s m args below meth c H locs cells slots Q (F0 m pc ls (.int v :: .int x :: .ref a :: rest)) := by
  subst hia
  obtain ⟨ids, f1, f2, f3, f4⟩ := F
  obtain ⟨q0, g1, g2⟩ := fl_get (ad := ad) (en := en) ((f2 i).mpr hi)
  refine va_iast X.ex X.co hK f3 f4 hS q0 0 (g2.trans (by rw [he])) rfl hin hdg fun H1 locs1 h1 h2 h3 => ?_
  rw [fl_set f1 g1] at h1 h2
  exact kk H1 locs1 ⟨ids, f1, f2, h1, h2⟩ h3
theorem f_zast (X : CF p s m args meth c cc nL own ret) (hK : KK G s) (F : fw G.1 lv ad en A H) (hS : va_S A H0 H locs) (hi : lv i) (hia : ad i = a) {n : Nat} {f : Nat → Int32} (he : en i = .inl (G.2.1 1, n, .inl f)) {x v : Int32} (hin : vp_in x n) (hdg : decode cc pc = .ok (.bastore, 1))
    (kk : ∀ (H1 : Heap) (locs1 : List Loc), fw G.1 lv ad (iup en i (.inl (G.2.1 1, n, .inl (upd f x.toNatClampNeg (vp_nar .boolean v))))) A H1 → va_S A H0 H1 locs1 → W p l e R s m args below meth c H1 locs1 cells slots Q (F0 m (pc + 1) ls rest)) : W p l e R s m args below meth c H locs cells slots Q (F0 m pc ls (.int v :: .int x :: .ref a :: rest)) := by
  subst hia
  obtain ⟨ids, f1, f2, f3, f4⟩ := F
  obtain ⟨q0, g1, g2⟩ := fl_get (ad := ad) (en := en) ((f2 i).mpr hi)
  refine va_zast X.ex X.co hK f3 f4 hS q0 1 (g2.trans (by rw [he])) rfl hin hdg fun H1 locs1 h1 h2 h3 => ?_
  rw [fl_set f1 g1] at h1 h2
  exact kk H1 locs1 ⟨ids, f1, f2, h1, h2⟩ h3
theorem f_bast (X : CF p s m args meth c cc nL own ret) (hK : KK G s) (F : fw G.1 lv ad en A H) (hS : va_S A H0 H locs) (hi : lv i) (hia : ad i = a) {n : Nat} {f : Nat → Int32} (he : en i = .inl (G.2.1 3, n, .inl f)) {x v : Int32} (hin : vp_in x n) (hdg : decode cc pc = .ok (.bastore, 1))
    (kk : ∀ (H1 : Heap) (locs1 : List Loc), fw G.1 lv ad (iup en i (.inl (G.2.1 3, n, .inl (upd f x.toNatClampNeg (vp_nar .byte v))))) A H1 → va_S A H0 H1 locs1 → W p l e R s m args below meth c H1 locs1 cells slots Q (F0 m (pc + 1) ls rest)) : W p l e R s m args below meth c H locs cells slots Q (F0 m pc ls (.int v :: .int x :: .ref a :: rest)) := by
  subst hia
  obtain ⟨ids, f1, f2, f3, f4⟩ := F
  obtain ⟨q0, g1, g2⟩ := fl_get (ad := ad) (en := en) ((f2 i).mpr hi)
  refine va_bast X.ex X.co hK f3 f4 hS q0 3 (g2.trans (by rw [he])) rfl hin hdg fun H1 locs1 h1 h2 h3 => ?_
  rw [fl_set f1 g1] at h1 h2
  exact kk H1 locs1 ⟨ids, f1, f2, h1, h2⟩ h3
theorem f_aast (X : CF p s m args meth c cc nL own ret) (hK : KK G s) (F : fw G.1 lv ad en A H) (hS : va_S A H0 H locs) (hi : lv i) (hia : ad i = a) {n v : Nat} {f : Nat → Option Nat} (he : en i = .inl (G.2.1 4, n, .inr (.inr (.inr (.inr f))))) {j : I2} (hj : lv j) (hja : ad j = v) {ci : Nat} {vs : List Value} (hej : en j = .inr (ci, vs)) {r : vw_C} (hc : vwCl[ci]? = some r) (hca : va_Nw (.castable r.1 "java/lang/Object") s) {x : Int32} (hin : vp_in x n) (hdg : decode cc pc = .ok (.aastore, 1))
    (kk : ∀ (H1 : Heap) (locs1 : List Loc), fw G.1 lv ad (iup en i (.inl (G.2.1 4, n, .inr (.inr (.inr (.inr (va_up f x.toNatClampNeg (some v)))))))) A H1 → va_S A H0 H1 locs1 → W p l e R s m args below meth c H1 locs1 cells slots Q (F0 m (pc + 1) ls rest)) : W p l e R s m args below meth c H locs cells slots Q (F0 m pc ls (.ref v :: .int x :: .ref a :: rest)) := by
  subst hia
  subst hja
  obtain ⟨ids, f1, f2, f3, f4⟩ := F
  obtain ⟨q0, g1, g2⟩ := fl_get (ad := ad) (en := en) ((f2 i).mpr hi)
  obtain ⟨q1, g3, g4⟩ := fl_get (ad := ad) (en := en) ((f2 j).mpr hj)
  refine va_astqO X.ex X.co hK f3 f4 hS q0 4 q1 ci (g2.trans (by rw [he])) rfl hca (g4.trans (by rw [hej])) hc hin hdg fun H1 locs1 h1 h2 h3 => ?_
  rw [fl_set f1 g1] at h1 h2
  exact kk H1 locs1 ⟨ids, f1, f2, h1, h2⟩ h3
theorem f_aastN (X : CF p s m args meth c cc nL own ret) (hK : KK G s) (F : fw G.1 lv ad en A H) (hS : va_S A H0 H locs) (hi : lv i) (hia : ad i = a) {n : Nat} {f : Nat → Option Nat} (he : en i = .inl (G.2.1 4, n, .inr (.inr (.inr (.inr f))))) {x : Int32} (hin : vp_in x n) (hdg : decode cc pc = .ok (.aastore, 1))
    (kk : ∀ (H1 : Heap) (locs1 : List Loc), fw G.1 lv ad (iup en i (.inl (G.2.1 4, n, .inr (.inr (.inr (.inr (va_up f x.toNatClampNeg none))))))) A H1 → va_S A H0 H1 locs1 → W p l e R s m args below meth c H1 locs1 cells slots Q (F0 m (pc + 1) ls rest)) : W p l e R s m args below meth c H locs cells slots Q (F0 m pc ls (.null :: .int x :: .ref a :: rest)) := by
  subst hia
  obtain ⟨ids, f1, f2, f3, f4⟩ := F
  obtain ⟨q0, g1, g2⟩ := fl_get (ad := ad) (en := en) ((f2 i).mpr hi)
  refine va_astqN X.ex X.co hK f3 f4 hS q0 4 (g2.trans (by rw [he])) rfl hin hdg fun H1 locs1 h1 h2 h3 => ?_
  rw [fl_set f1 g1] at h1 h2
  exact kk H1 locs1 ⟨ids, f1, f2, h1, h2⟩ h3
/-! what is made -/
theorem f_new (X : CF p s m args meth c cc nL own ret) (hK : KK G s) (F : fw G.1 lv ad en A H) (hS : va_S A H0 H locs) (hA : ∀ q, H0.size ≤ q → A q) (i : I2) (hi : ¬ lv i) {C : String} {T : u_T} {N ci index : Nat} {ty : Nat → FieldType} (ok : okC C T N ty) (hc : vwCl[ci]? = some (C, T, N)) (hcl : Cond.classLink own index C ∈ AW) (hins : Cond.instantiable C N ∈ AW) (hini : Cond.initialized C ∈ AW) (fs : List Value) (hfs : ∀ j, j < N → defaultValue (ty j) = vp_V fs j) (hcells : cells + 1 ≤ R.cells) (hslots : slots + N ≤ R.slots) (hdg : decode cc pc = .ok (.new index, 3))
    (kk : ∀ (q : Nat) (H1 : Heap), fw G.1 (fun j => lv j ∨ j = i) (iup ad i q) (iup en i (.inr (ci, fs))) A H1 → va_S A H0 H1 locs → W p l e R s m args below meth c H1 locs (cells + 1) (slots + N) Q (F0 m (pc + 3) ls (.ref q :: rest))) : W p l e R s m args below meth c H locs cells slots Q (F0 m pc ls rest) := by
  obtain ⟨ids, f1, f2, f3, f4⟩ := F
  have hn : i ∉ ids := fun z => hi ((f2 i).mp z)
  refine va_new X.ex X.co X.ts ok.1 ty ok.2.1 X.ow (X.ts _ hcl) (X.ts _ hins) (X.ts _ hini) hK f3 f4 hS hA hc hfs hcells hslots hdg fun q H1 h1 h2 h3 => ?_
  rw [fl_push hn] at h1 h2
  exact kk q H1 ⟨ids ++ [i], List.nodup_append.mpr ⟨f1, (by simp), fun x hx y hy => by rw [List.mem_singleton.mp hy]; exact fun z => hn (z ▸ hx)⟩, fun j => by rw [List.mem_append, f2, List.mem_singleton], h1, h2⟩ h3
end ROW
