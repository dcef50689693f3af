/-! ===== THE CLASS: its world, out of the reference's state and what the class keeps beside: capacities of the lists' rows, their counts of changes, numbers (0 grade, 1 waiting, 2 fall; 3 at 0: the builder's flag), the builder's bytes ===== -/
abbrev CG : Type := (Nat → Nat) × (Nat → Int32) × (Nat → Nat → Int32) × (Nat × (Nat → Int32))
def exL (σ : Sg) (l : Nat) : List Nat := (List.range (nEx σ)).filter (fun e => decide (les σ e = l))
def anL (σ : Sg) (e : Nat) : List Nat := (List.range (nAn σ)).filter (fun a => decide (exe σ a = e))
def lstN (σ : Sg) (k : Nat) : List I2 :=
  if k < 9 then (match k with
    | 0 => (List.range (nCo σ)).map (fun x => (3, x))
    | 1 => (List.range (nSt σ)).map (fun x => (4, x))
    | 2 => (List.range (nLe σ)).map (fun x => (5, x))
    | 3 => (List.range (nEx σ)).map (fun x => (6, x))
    | 4 => (List.range (nAn σ)).map (fun x => (7, x))
    | 5 => (List.range (nCr σ)).map (fun x => (8, x))
    | 6 => (List.range (nCe σ)).map (fun x => (9, x))
    | 7 => (List.range (nAp σ)).map (fun x => (7, app σ x))
    | _ => (List.range (nHa σ)).map (fun x => (7, har σ x)))
  else if k < 17 then (exL σ (k - 9)).map (fun e => (6, e)) else (anL σ (k - 17)).map (fun a => (7, a))
def cont (L : List I2) (ad : I2 → Nat) : Nat → Option Nat := fun x => (L[x]?).map ad
def lsB (σ : Sg) (k : Nat) : Prop := k < 9 + nLe σ ∨ (17 ≤ k ∧ k < 17 + nEx σ)
def cLv (g : CG) (σ : Sg) (i : I2) : Prop := match i.1 with
  | 0 => i.2 = 0
  | 1 => lsB σ i.2
  | 2 => lsB σ i.2 ∧ 0 < g.1 i.2
  | 3 => i.2 < nCo σ
  | 4 => i.2 < nSt σ
  | 5 => i.2 < nLe σ
  | 6 => i.2 < nEx σ
  | 7 => i.2 < nAn σ
  | 8 => i.2 < nCr σ
  | 9 => i.2 < nCe σ
  | 10 => i.2 < nCe σ
  | 11 => i.2 < nEx σ
  | 12 => i.2 < nAn σ
  | 13 => i.2 < nEx σ
  | 14 => i.2 < nEx σ
  | 15 => i.2 = 0
  | 16 => i.2 = 0
  | _ => False
abbrev eCo (σ : Sg) (i : Nat) : va_E := .inr (7, [.int (σ.2 3 i), .int (σ.2 4 i)])
abbrev eSt (ad : I2 → Nat) (σ : Sg) (i : Nat) : va_E := .inr (13, [.int (nI i), .ref (ad (3, coh σ i))])
abbrev eLe (ad : I2 → Nat) (σ : Sg) (l : Nat) : va_E := .inr (10, [.int (σ.2 8 l), .int (σ.2 9 l), .ref (ad (1, 9 + l)), .int (σ.2 10 l)])
abbrev eEx (ad : I2 → Nat) (σ : Sg) (e : Nat) : va_E := .inr (9, [.int (nI e), .ref (ad (5, les σ e)), .int (σ.2 15 e), .ref (ad (13, e)), .ref (ad (14, e)), .ref (ad (1, 17 + e)), .ref (ad (11, e)), .int (nI (cas σ e)), .int (nI (allS σ e (cas σ e)))])
abbrev eAn (g : CG) (ad : I2 → Nat) (σ : Sg) (a : Nat) : va_E := .inr (5, [.int (nI a), .ref (ad (4, stu σ a)), .ref (ad (6, exe σ a)), .ref (ad (12, a)), .int (σ.2 24 a), .int (g.2.2.1 0 a), .int (σ.2 25 a), .int (g.2.2.1 1 a), .int (σ.2 26 a), .int (g.2.2.1 2 a)])
abbrev eCr (σ : Sg) (i : Nat) : va_E := .inr (8, [.int (σ.2 33 i), .int (σ.2 34 i)])
abbrev eCe (ad : I2 → Nat) (σ : Sg) (c : Nat) : va_E := .inr (6, [.int (nI c), .ref (ad (4, hol σ c)), .ref (ad (8, cou σ c)), .ref (ad (10, c)), .int (bI (decide (σ.2 41 c = 0)))])
abbrev eMo (d : Int32) (e a : Nat) : va_E := .inr (11, [.int d, .int (nI e), .int (nI a)])
abbrev eRu (f a : Int32) : va_E := .inr (12, [.int f, .int a])
abbrev eBe (ad : I2 → Nat) (d : Int32) : va_E := .inr (14, [.ref (ad (1, 0)), .ref (ad (1, 1)), .ref (ad (1, 2)), .ref (ad (1, 3)), .ref (ad (1, 4)), .ref (ad (1, 5)), .ref (ad (1, 6)), .ref (ad (1, 7)), .ref (ad (1, 8)), .ref (ad (15, 0)), .int d])
def inpF (σ : Sg) (e k : Nat) : Int32 := if k < cas σ e then σ.2 17 (6 * e + k) else 0
def weiF (σ : Sg) (e k : Nat) : Int32 := if k < cas σ e then nI (wei σ (6 * e + k)) else 0
def lrow (G : GT) (g : CG) (ad : I2 → Nat) (k : Nat) : Nat := if g.1 k = 0 then G.2.2 0 else ad (2, k)
/-- L: what stands in each list -/
def cEnL (G : GT) (g : CG) (ad : I2 → Nat) (σ : Sg) (L : Nat → List I2) (i : I2) : va_E := match i.1 with
  | 0 => eBe ad (dayV σ)
  | 1 => LO (g.2.1 i.2) (lrow G g ad i.2) (L i.2).length
  | 2 => LA G (g.1 i.2) (cont (L i.2) ad)
  | 3 => eCo σ i.2
  | 4 => eSt ad σ i.2
  | 5 => eLe ad σ i.2
  | 6 => eEx ad σ i.2
  | 7 => eAn g ad σ i.2
  | 8 => eCr σ i.2
  | 9 => eCe ad σ i.2
  | 10 => eMo (σ.2 38 i.2) (eTh σ i.2) (aTh σ i.2)
  | 11 => eRu (σ.2 13 i.2) (σ.2 14 i.2)
  | 12 => eRu (σ.2 22 i.2) (σ.2 23 i.2)
  | 13 => .inl (G.2.1 0, 6, .inl (inpF σ i.2))
  | 14 => .inl (G.2.1 0, 6, .inl (weiF σ i.2))
  | 15 => SBO (ad (16, 0)) (g.2.2.1 3 0) (nSz σ)
  | 16 => SBA G g.2.2.2.1 g.2.2.2.2
  | _ => .inr (0, [])
def cwL (G : GT) (g : CG) (A : Nat → Prop) (ad : I2 → Nat) (σ : Sg) (L : Nat → List I2) (H : Heap) : Prop := fw G.1 (cLv g σ) ad (cEnL G g ad σ L) A H
abbrev cw (G : GT) (g : CG) (A : Nat → Prop) (ad : I2 → Nat) (σ : Sg) (H : Heap) : Prop := cwL G g A ad σ (lstN σ) H
theorem kne {a b c d : Nat} (h : a ≠ c) : ((a, b) : I2) ≠ (c, d) := fun z => h (congrArg Prod.fst z)
theorem ine {a b d : Nat} (h : b ≠ d) : ((a, b) : I2) ≠ (a, d) := fun z => h (congrArg Prod.snd z)
section CW
variable {G : GT} {g : CG} {A : Nat → Prop} {ad : I2 → Nat} {σ : Sg} {L : Nat → List I2} {H : Heap}
theorem cw_be (F : cwL G g A ad σ L H) : va_at G.1 vwCl (ad (0, 0), eBe ad (dayV σ)) H := fw.at F (i := (0, 0)) rfl
theorem cw_ls (F : cwL G g A ad σ L H) {k : Nat} (h : lsB σ k) : va_at G.1 vwCl (ad (1, k), LO (g.2.1 k) (lrow G g ad k) (L k).length) H := fw.at F (i := (1, k)) h
theorem cw_la (F : cwL G g A ad σ L H) {k : Nat} (h : lsB σ k) (h0 : 0 < g.1 k) : va_at G.1 vwCl (lrow G g ad k, LA G (g.1 k) (cont (L k) ad)) H := by
  have := fw.at F (i := (2, k)) ⟨h, h0⟩
  unfold lrow
  rw [if_neg (by omega)]
  exact this
theorem cw_co (F : cwL G g A ad σ L H) {i : Nat} (h : i < nCo σ) : va_at G.1 vwCl (ad (3, i), eCo σ i) H := fw.at F (i := (3, i)) h
theorem cw_st (F : cwL G g A ad σ L H) {i : Nat} (h : i < nSt σ) : va_at G.1 vwCl (ad (4, i), eSt ad σ i) H := fw.at F (i := (4, i)) h
theorem cw_le (F : cwL G g A ad σ L H) {i : Nat} (h : i < nLe σ) : va_at G.1 vwCl (ad (5, i), eLe ad σ i) H := fw.at F (i := (5, i)) h
theorem cw_ex (F : cwL G g A ad σ L H) {i : Nat} (h : i < nEx σ) : va_at G.1 vwCl (ad (6, i), eEx ad σ i) H := fw.at F (i := (6, i)) h
theorem cw_an (F : cwL G g A ad σ L H) {i : Nat} (h : i < nAn σ) : va_at G.1 vwCl (ad (7, i), eAn g ad σ i) H := fw.at F (i := (7, i)) h
theorem cw_cr (F : cwL G g A ad σ L H) {i : Nat} (h : i < nCr σ) : va_at G.1 vwCl (ad (8, i), eCr σ i) H := fw.at F (i := (8, i)) h
theorem cw_ce (F : cwL G g A ad σ L H) {i : Nat} (h : i < nCe σ) : va_at G.1 vwCl (ad (9, i), eCe ad σ i) H := fw.at F (i := (9, i)) h
theorem cw_mo (F : cwL G g A ad σ L H) {i : Nat} (h : i < nCe σ) : va_at G.1 vwCl (ad (10, i), eMo (σ.2 38 i) (eTh σ i) (aTh σ i)) H := fw.at F (i := (10, i)) h
theorem cw_re (F : cwL G g A ad σ L H) {i : Nat} (h : i < nEx σ) : va_at G.1 vwCl (ad (11, i), eRu (σ.2 13 i) (σ.2 14 i)) H := fw.at F (i := (11, i)) h
theorem cw_ra (F : cwL G g A ad σ L H) {i : Nat} (h : i < nAn σ) : va_at G.1 vwCl (ad (12, i), eRu (σ.2 22 i) (σ.2 23 i)) H := fw.at F (i := (12, i)) h
theorem cw_in (F : cwL G g A ad σ L H) {i : Nat} (h : i < nEx σ) : va_at G.1 vwCl (ad (13, i), .inl (G.2.1 0, 6, .inl (inpF σ i))) H := fw.at F (i := (13, i)) h
theorem cw_we (F : cwL G g A ad σ L H) {i : Nat} (h : i < nEx σ) : va_at G.1 vwCl (ad (14, i), .inl (G.2.1 0, 6, .inl (weiF σ i))) H := fw.at F (i := (14, i)) h
theorem cw_sb (F : cwL G g A ad σ L H) : va_at G.1 vwCl (ad (15, 0), SBO (ad (16, 0)) (g.2.2.1 3 0) (nSz σ)) H := fw.at F (i := (15, 0)) rfl
theorem cw_sa (F : cwL G g A ad σ L H) : va_at G.1 vwCl (ad (16, 0), SBA G g.2.2.2.1 g.2.2.2.2) H := fw.at F (i := (16, 0)) rfl
/-- a claim of every name that lives, kind by kind -/
theorem cwAll {P : I2 → Prop} (c0 : P (0, 0)) (c1 : ∀ k, lsB σ k → P (1, k)) (c2 : ∀ k, lsB σ k → 0 < g.1 k → P (2, k)) (c3 : ∀ i, i < nCo σ → P (3, i)) (c4 : ∀ i, i < nSt σ → P (4, i)) (c5 : ∀ i, i < nLe σ → P (5, i)) (c6 : ∀ i, i < nEx σ → P (6, i)) (c7 : ∀ i, i < nAn σ → P (7, i)) (c8 : ∀ i, i < nCr σ → P (8, i)) (c9 : ∀ i, i < nCe σ → P (9, i)) (c10 : ∀ i, i < nCe σ → P (10, i)) (c11 : ∀ i, i < nEx σ → P (11, i)) (c12 : ∀ i, i < nAn σ → P (12, i)) (c13 : ∀ i, i < nEx σ → P (13, i)) (c14 : ∀ i, i < nEx σ → P (14, i)) (c15 : P (15, 0)) (c16 : P (16, 0)) : ∀ i, cLv g σ i → P i
  | (0, i), h => by cases (show i = 0 from h); exact c0
  | (1, k), h => c1 k h
  | (2, k), h => c2 k h.1 h.2
  | (3, i), h => c3 i h
  | (4, i), h => c4 i h
  | (5, i), h => c5 i h
  | (6, i), h => c6 i h
  | (7, i), h => c7 i h
  | (8, i), h => c8 i h
  | (9, i), h => c9 i h
  | (10, i), h => c10 i h
  | (11, i), h => c11 i h
  | (12, i), h => c12 i h
  | (13, i), h => c13 i h
  | (14, i), h => c14 i h
  | (15, i), h => by cases (show i = 0 from h); exact c15
  | (16, i), h => by cases (show i = 0 from h); exact c16
  | (_ + 17, _), h => False.elim h
end CW
/-! the lists -/
theorem cont_none {L : List I2} {ad : I2 → Nat} {x : Nat} (h : L.length ≤ x) : cont L ad x = none := by
  unfold cont
  rw [List.getElem?_eq_none h]
  rfl
theorem cont_get {L : List I2} {ad : I2 → Nat} {x : Nat} {j : I2} (h : L[x]? = some j) : cont L ad x = some (ad j) := by
  unfold cont
  rw [h]
  rfl
theorem cont_push (L : List I2) (ad : I2 → Nat) (j : I2) : va_up (cont L ad) L.length (some (ad j)) = cont (L ++ [j]) ad := by
  funext x
  unfold va_up cont
  by_cases hx : x = L.length
  · subst hx
    simp
  · rw [if_neg hx]
    by_cases hl : x < L.length
    · rw [List.getElem?_append_left hl]
    · rw [List.getElem?_eq_none (by omega), List.getElem?_eq_none (by rw [List.length_append]; simp; omega)]
theorem cont_ad {L : List I2} {ad ad' : I2 → Nat} (h : ∀ j ∈ L, ad' j = ad j) : cont L ad' = cont L ad := by
  funext x
  unfold cont
  cases hx : L[x]? with
  | none => rfl
  | some j =>
    have := h j (List.mem_of_getElem? hx)
    simp [this]
theorem cont_rm (L : List I2) (ad : I2 → Nat) {j : Nat} (hj : j < L.length) : rmv (cont L ad) L.length j = cont (L.eraseIdx j) ad := by
  funext x
  unfold rmv va_up va_cpy cont
  rw [List.getElem?_eraseIdx]
  by_cases h1 : x = L.length - 1
  · rw [if_pos h1, if_neg (by omega), List.getElem?_eq_none (by omega)]
    rfl
  · rw [if_neg h1]
    by_cases h2 : x < j
    · rw [if_pos h2, if_neg (by omega)]
    · rw [if_neg h2]
      by_cases h3 : x < L.length - 1
      · rw [if_pos (by omega), show j + 1 + (x - j) = x + 1 by omega]
      · rw [if_neg (by omega), List.getElem?_eq_none (by omega), List.getElem?_eq_none (by omega)]
theorem cont_ins (L : List I2) (ad : I2 → Nat) {q : Nat} (j : I2) (hq : q ≤ L.length) : insv (cont L ad) L.length q (ad j) = cont (L.insertIdx q j) ad := by
  funext x
  unfold insv va_up va_cpy cont
  rw [List.getElem?_insertIdx]
  by_cases h1 : x = q
  · subst h1
    rw [if_pos rfl, if_neg (by omega), if_pos rfl, if_pos hq]
    rfl
  · rw [if_neg h1]
    by_cases h2 : x < q
    · rw [if_pos h2, if_neg (by omega)]
    · rw [if_neg h2, if_neg h1]
      by_cases h3 : x < L.length + 1
      · rw [if_pos (by omega), show q + (x - (q + 1)) = x - 1 by omega]
      · rw [if_neg (by omega), List.getElem?_eq_none (by omega), List.getElem?_eq_none (by omega)]
theorem lst_le (σ : Sg) {l : Nat} (h : l < 8) : lstN σ (9 + l) = (exL σ l).map (fun e => (6, e)) := by
  unfold lstN
  rw [if_neg (by omega), if_pos (by omega), Nat.add_sub_cancel_left]
theorem lst_ex (σ : Sg) (e : Nat) : lstN σ (17 + e) = (anL σ e).map (fun a => (7, a)) := by
  unfold lstN
  rw [if_neg (by omega), if_neg (by omega), Nat.add_sub_cancel_left]
theorem rng_get {n x k : Nat} (h : x < n) : ((List.range n).map (fun x => ((k, x) : I2)))[x]? = some (k, x) := by
  rw [List.getElem?_map, List.getElem?_range h]
  rfl
theorem rng_len {n : Nat} {f : Nat → I2} : ((List.range n).map f).length = n := by simp
theorem exL_mem {σ : Sg} {l e : Nat} (h : e ∈ exL σ l) : e < nEx σ ∧ les σ e = l := by
  obtain ⟨h1, h2⟩ := List.mem_filter.mp h
  exact ⟨List.mem_range.mp h1, by simpa using h2⟩
theorem anL_mem {σ : Sg} {e a : Nat} (h : a ∈ anL σ e) : a < nAn σ ∧ exe σ a = e := by
  obtain ⟨h1, h2⟩ := List.mem_filter.mp h
  exact ⟨List.mem_range.mp h1, by simpa using h2⟩
theorem exL_len (σ : Sg) (l : Nat) : (exL σ l).length ≤ nEx σ := Nat.le_trans (List.length_filter_le _ _) (by simp)
theorem anL_len (σ : Sg) (e : Nat) : (anL σ e).length ≤ nAn σ := Nat.le_trans (List.length_filter_le _ _) (by simp)
/-- what the lists' rows have room for -/
def CLL (g : CG) (σ : Sg) (L : Nat → List I2) : Prop := ∀ k, lsB σ k → (L k).length ≤ g.1 k ∧ g.1 k ≤ 200
abbrev CL (g : CG) (σ : Sg) : Prop := CLL g σ (lstN σ)
theorem cw_get {G : GT} {g : CG} {A : Nat → Prop} {ad : I2 → Nat} {σ : Sg} {L : Nat → List I2} {H : Heap} (F : cwL G g A ad σ L H) (hC : CLL g σ L) {k : Nat} (h : lsB σ k) {x n : Nat} (hn : (L k).length = n) (hx : x < n) : va_at G.1 vwCl (ad (1, k), LO (g.2.1 k) (lrow G g ad k) n) H ∧ va_at G.1 vwCl (lrow G g ad k, LA G (g.1 k) (cont (L k) ad)) H := by
  have h1 := (hC k h).1
  exact ⟨hn ▸ cw_ls F h, cw_la F h (by omega)⟩
section CAST
variable {p : Program} {l : Launch} {e : Env} {R : Room} {s : State} {m : MethodId} {args : Array Value} {below : List Frame} {meth : Method} {c : Code} {H : Heap} {locs : List Loc} {cells slots : Nat} {Q : State → Prop}
variable {cc : ByteArray} {pc nL : Nat} {ls : Array Slot} {rest : List Value} {own : String} {ret : Option FieldType} {G : GT} {a : Nat}
theorem f_castS (X : CF p s m args meth c cc nL own ret) (hK : KK G s) {ci : Nat} {fs : List Value} (hP : va_at G.1 vwCl (a, .inr (ci, fs)) H) {C : String} {T : u_T} {N : Nat} (hc : vwCl[ci]? = some (C, T, N)) {index : Nat} (hlink : Cond.classLink own index C ∈ AW) (hdg : decode cc pc = .ok (.checkcast index, 3))
    (kk : W p l e R s m args below meth c H locs cells slots Q (F0 m (pc + 3) ls (.ref a :: rest))) : W p l e R s m args below meth c H locs cells slots Q (F0 m pc ls (.ref a :: rest)) :=
  va_castS X.ex X.co X.ow (X.ts _ hlink) (hK.1 ci _ hc).2 (q_rv (hK := hK) hP hc) hdg kk
end CAST
theorem okX0 : okC RX0 TX0 10 tyX0 := ⟨in_X0, tyX0_ok, nmX0⟩
theorem okX1 : okC RX1 TX1 5 tyX1 := ⟨in_X1, tyX1_ok, nmX1⟩
theorem okX2 : okC RX2 TX2 2 tyX2 := ⟨in_X2, tyX2_ok, nmX2⟩
theorem okX3 : okC RX3 TX3 2 tyX3 := ⟨in_X3, tyX3_ok, nmX3⟩
theorem okX4 : okC RX4 TX4 9 tyX4 := ⟨in_X4, tyX4_ok, nmX4⟩
theorem okX5 : okC RX5 TX5 4 tyX5 := ⟨in_X5, tyX5_ok, nmX5⟩
theorem okX6 : okC RX6 TX6 3 tyX6 := ⟨in_X6, tyX6_ok, nmX6⟩
theorem okX7 : okC RX7 TX7 2 tyX7 := ⟨in_X7, tyX7_ok, nmX7⟩
theorem okX8 : okC RX8 TX8 2 tyX8 := ⟨in_X8, tyX8_ok, nmX8⟩
theorem okX9 : okC RX9 TX9 11 tyX9 := ⟨in_X9, tyX9_ok, nmX9⟩
