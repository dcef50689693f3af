/-! ===== THE REFERENCE: its state as two tables: numbers that are natural by slot and place, other numbers by slot and place ===== -/
abbrev Sg : Type := (Nat → Nat → Nat) × (Nat → Nat → Int32)
def sN (σ : Sg) (k j v : Nat) : Sg := (fun a b => if a = k ∧ b = j then v else σ.1 a b, σ.2)
def sV (σ : Sg) (k j : Nat) (v : Int32) : Sg := (σ.1, fun a b => if a = k ∧ b = j then v else σ.2 a b)
def nCo (σ : Sg) : Nat := σ.1 2 0
def nSt (σ : Sg) : Nat := σ.1 5 0
def nLe (σ : Sg) : Nat := σ.1 7 0
def nEx (σ : Sg) : Nat := σ.1 11 0
def nAn (σ : Sg) : Nat := σ.1 19 0
def nAp (σ : Sg) : Nat := σ.1 27 0
def nHa (σ : Sg) : Nat := σ.1 29 0
def nCr (σ : Sg) : Nat := σ.1 32 0
def nCe (σ : Sg) : Nat := σ.1 35 0
def nSz (σ : Sg) : Nat := σ.1 43 0
def dayV (σ : Sg) : Int32 := σ.2 1 0
def coh (σ : Sg) (i : Nat) : Nat := σ.1 6 i
def les (σ : Sg) (i : Nat) : Nat := σ.1 12 i
def cas (σ : Sg) (i : Nat) : Nat := σ.1 16 i
def wei (σ : Sg) (i : Nat) : Nat := σ.1 18 i
def stu (σ : Sg) (i : Nat) : Nat := σ.1 20 i
def exe (σ : Sg) (i : Nat) : Nat := σ.1 21 i
def app (σ : Sg) (i : Nat) : Nat := σ.1 28 i
def har (σ : Sg) (i : Nat) : Nat := σ.1 30 i
def hol (σ : Sg) (i : Nat) : Nat := σ.1 36 i
def cou (σ : Sg) (i : Nat) : Nat := σ.1 37 i
def eTh (σ : Sg) (i : Nat) : Nat := σ.1 39 i
def aTh (σ : Sg) (i : Nat) : Nat := σ.1 40 i
def mIsA (k : Nat) : Bool := match k with
  | 0 => false | 1 => false | 2 => false | 5 => false | 7 => false | 11 => false | 19 => false | 27 => false | 29 => false | 32 => false | 35 => false | 43 => false
  | _ => true
def mIsN (k : Nat) : Bool := match k with
  | 0 => true | 2 => true | 5 => true | 7 => true | 11 => true | 19 => true | 27 => true | 29 => true | 32 => true | 35 => true | 43 => true
  | 6 => true | 12 => true | 16 => true | 18 => true | 20 => true | 21 => true | 28 => true | 30 => true | 36 => true | 37 => true | 39 => true | 40 => true
  | _ => false
def mKd (k : Nat) : Nat := match k with
  | 26 => 1 | 41 => 1 | 42 => 2 | _ => 0
def mLen (k : Nat) : Nat := match k with
  | 3 => 4 | 4 => 4 | 6 => 8 | 8 => 8 | 9 => 8 | 10 => 8 | 12 => 12 | 13 => 12 | 14 => 12 | 15 => 12 | 16 => 12 | 17 => 72 | 18 => 72
  | 33 => 4 | 34 => 4 | 36 => 30 | 37 => 30 | 38 => 30 | 39 => 30 | 40 => 30 | 41 => 30 | 42 => 60 | _ => 100
def mRow (σ : Sg) (k : Nat) : Nat → Int32 := if mIsN k then fun j => nI (σ.1 k j) else σ.2 k
def mSc (σ : Sg) (k : Nat) : Int32 := if mIsN k then nI (σ.1 k 0) else σ.2 k 0
def mFld (mad : I2 → Nat) (σ : Sg) (k : Nat) : Value := if mIsA k then .ref (mad (1, k)) else .int (mSc σ k)
def mFields (mad : I2 → Nat) (σ : Sg) : List Value := (List.range 44).map (mFld mad σ)
def mEn (G : GT) (mad : I2 → Nat) (σ : Sg) : I2 → va_E := fun i => if i.1 = 0 then .inr (15, mFields mad σ) else if i.1 = 1 then .inl (G.2.1 (mKd i.2), mLen i.2, .inl (mRow σ i.2)) else .inr (0, [])
def mLv : I2 → Prop := fun i => i = (0, 0) ∨ (i.1 = 1 ∧ i.2 < 44 ∧ mIsA i.2 = true)
def mw (G : GT) (mad : I2 → Nat) (A : Nat → Prop) (σ : Sg) (H : Heap) : Prop := fw G.1 mLv mad (mEn G mad σ) A H
theorem mo {G : GT} {mad : I2 → Nat} {A : Nat → Prop} {σ : Sg} {H : Heap} (F : mw G mad A σ H) : va_at G.1 vwCl (mad (0, 0), .inr (15, mFields mad σ)) H := F.at (i := (0, 0)) (Or.inl rfl)
theorem ma {G : GT} {mad : I2 → Nat} {A : Nat → Prop} {σ : Sg} {H : Heap} (F : mw G mad A σ H) (k : Nat) (hk : k < 44) (h : mIsA k = true) : va_at G.1 vwCl (mad (1, k), .inl (G.2.1 (mKd k), mLen k, .inl (mRow σ k))) H := F.at (i := (1, k)) (Or.inr ⟨rfl, hk, h⟩)
theorem mFld_get {mad : I2 → Nat} {σ : Sg} {k : Nat} (hk : k < 44) : (mFields mad σ)[k]? = some (mFld mad σ k) := by
  rw [mFields, List.getElem?_map, List.getElem?_range hk]
  rfl
theorem mFields_set {mad : I2 → Nat} {σ τ : Sg} {k : Nat} {v : Value} (hk : k < 44) (h : mFld mad τ k = v) (ho : ∀ j, j ≠ k → mFld mad τ j = mFld mad σ j) : (mFields mad σ).set k v = mFields mad τ := by
  apply List.ext_getElem?
  intro j
  by_cases hj : j = k
  · subst hj
    rw [List.getElem?_set_self (by simpa [mFields] using hk), mFld_get hk, h]
  · rw [List.getElem?_set_ne (Ne.symm hj)]
    by_cases hl : j < 44
    · rw [mFld_get hl, mFld_get hl, ho j hj]
    · rw [List.getElem?_eq_none (by simpa [mFields] using hl), List.getElem?_eq_none (by simpa [mFields] using hl)]
theorem mRow_N {σ : Sg} {k j v b : Nat} : mRow (sN σ k j v) b = if b = k ∧ mIsN k = true then upd (mRow σ k) j (nI v) else mRow σ b := by
  funext q
  by_cases hb : b = k
  · subst hb
    cases hN : mIsN b <;> by_cases hq : q = j <;> simp [mRow, sN, upd, hN, hq]
  · cases hN : mIsN b <;> simp [mRow, sN, hb, hN]
theorem mRow_V {σ : Sg} {k j b : Nat} {v : Int32} : mRow (sV σ k j v) b = if b = k ∧ mIsN k = false then upd (mRow σ k) j v else mRow σ b := by
  funext q
  by_cases hb : b = k
  · subst hb
    cases hN : mIsN b <;> by_cases hq : q = j <;> simp [mRow, sV, upd, hN, hq]
  · cases hN : mIsN b <;> simp [mRow, sV, hb, hN]
theorem mSc_N {σ : Sg} {k j v b : Nat} (h : b ≠ k) : mSc (sN σ k j v) b = mSc σ b := by simp [mSc, sN, h]
theorem mSc_V {σ : Sg} {k j b : Nat} {v : Int32} (h : b ≠ k) : mSc (sV σ k j v) b = mSc σ b := by simp [mSc, sV, h]
theorem mFld_A {mad : I2 → Nat} {σ τ : Sg} {k : Nat} (h : mIsA k = true) : mFld mad τ k = mFld mad σ k := by simp [mFld, h]
theorem mFields_A {mad : I2 → Nat} {σ τ : Sg} {k : Nat} (hA : mIsA k = true) (ho : ∀ j, j ≠ k → mSc τ j = mSc σ j) : mFields mad τ = mFields mad σ := by
  refine List.map_congr_left fun j _ => ?_
  by_cases hj : j = k
  · subst hj; exact mFld_A hA
  · simp [mFld, ho j hj]
theorem mEn_up {G : GT} {mad : I2 → Nat} {σ τ : Sg} {k : Nat} {r : Nat → Int32} (hf : mFields mad τ = mFields mad σ) (h : mRow τ k = r) (ho : ∀ b, b ≠ k → mRow τ b = mRow σ b) : iup (mEn G mad σ) (1, k) (.inl (G.2.1 (mKd k), mLen k, .inl r)) = mEn G mad τ := by
  funext ⟨a, b⟩
  by_cases h1 : (a, b) = (1, k)
  · cases h1
    rw [iup_s]
    simp [mEn, h]
  · rw [iup_n _ _ h1]
    by_cases ha : a = 0
    · simp only [mEn, ha, if_true]
      rw [hf]
    · by_cases ha1 : a = 1
      · have hb : b ≠ k := fun z => h1 (by rw [ha1, z])
        simp [mEn, ha1, ho b hb]
      · simp only [mEn, ha, ha1, if_false]
theorem mEn_up0 {G : GT} {mad : I2 → Nat} {σ τ : Sg} {fs : List Value} (hf : fs = mFields mad τ) (ho : ∀ b, mIsA b = true → mRow τ b = mRow σ b) {A : Nat → Prop} {H : Heap} (F : fw G.1 mLv mad (iup (mEn G mad σ) (0, 0) (.inr (15, fs))) A H) : mw G mad A τ H := by
  refine fw.sub F fun i hi => ⟨hi, rfl, ?_⟩
  rcases hi with rfl | ⟨h1, h2, h3⟩
  · rw [iup_s, hf]; rfl
  · obtain ⟨a, b⟩ := i
    cases h1
    rw [iup_k _ _ (by decide)]
    simp [mEn, ho b h3]
section MROW
variable {p : Program} {l : Launch} {e : Env} {R : Room} {s : State} {m : MethodId} {args : Array Value} {below : List Frame} {meth : Method} {c : Code} {H : Heap} {locs : List Loc} {cells slots : Nat} {Q : State → Prop}
variable {cc : ByteArray} {pc nL : Nat} {ls : Array Slot} {rest : List Value} {own : String} {ret : Option FieldType} {G : GT} {A : Nat → Prop} {H0 : Heap} {mad : I2 → Nat} {σ : Sg}
theorem okX10 : okC RX10 TX10 44 tyX10 := ⟨in_X10, tyX10_ok, nmX10⟩
/-- a number that is kept natural -/
theorem m_getN (X : CF p s m args meth c cc nL own ret) (hK : KK G s) (F : mw G mad A σ H) (k : Nat) (hk : k < 44) (hs : mIsA k = false) (hN : mIsN k = true) {x : Nat} (hx : σ.1 k 0 = x) {index : Nat} {ref : String} (hlink : Cond.fieldLink own index ref (TX10 k).2.1 (TX10 k).2.2.1 ∈ AW) (hr : (TX10 k).1 = ref) (hdg : decode cc pc = .ok (.getfield index, 3))
    (kk : W p l e R s m args below meth c H locs cells slots Q (F0 m (pc + 3) ls (.int (nI x) :: rest))) : W p l e R s m args below meth c H locs cells slots Q (F0 m pc ls (.ref (mad (0, 0)) :: rest)) :=
  f_get X hK (mo F) okX10 rfl k hk hlink (fun _ h => by rw [← hr]; exact h) ((mFld_get hk).trans (by subst hx; simp [mFld, mSc, hs, hN])) hdg kk
theorem m_getV (X : CF p s m args meth c cc nL own ret) (hK : KK G s) (F : mw G mad A σ H) (k : Nat) (hk : k < 44) (hs : mIsA k = false) (hN : mIsN k = false) {x : Int32} (hx : σ.2 k 0 = x) {index : Nat} {ref : String} (hlink : Cond.fieldLink own index ref (TX10 k).2.1 (TX10 k).2.2.1 ∈ AW) (hr : (TX10 k).1 = ref) (hdg : decode cc pc = .ok (.getfield index, 3))
    (kk : W p l e R s m args below meth c H locs cells slots Q (F0 m (pc + 3) ls (.int x :: rest))) : W p l e R s m args below meth c H locs cells slots Q (F0 m pc ls (.ref (mad (0, 0)) :: rest)) :=
  f_get X hK (mo F) okX10 rfl k hk hlink (fun _ h => by rw [← hr]; exact h) ((mFld_get hk).trans (by subst hx; simp [mFld, mSc, hs, hN])) hdg kk
theorem m_getA (X : CF p s m args meth c cc nL own ret) (hK : KK G s) (F : mw G mad A σ H) (k : Nat) (hk : k < 44) (hs : mIsA k = true) {index : Nat} {ref : String} (hlink : Cond.fieldLink own index ref (TX10 k).2.1 (TX10 k).2.2.1 ∈ AW) (hr : (TX10 k).1 = ref) (hdg : decode cc pc = .ok (.getfield index, 3))
    (kk : W p l e R s m args below meth c H locs cells slots Q (F0 m (pc + 3) ls (.ref (mad (1, k)) :: rest))) : W p l e R s m args below meth c H locs cells slots Q (F0 m pc ls (.ref (mad (0, 0)) :: rest)) :=
  f_get X hK (mo F) okX10 rfl k hk hlink (fun _ h => by rw [← hr]; exact h) ((mFld_get hk).trans (by simp [mFld, hs])) hdg kk
theorem m_putN (X : CF p s m args meth c cc nL own ret) (hK : KK G s) (F : mw G mad A σ H) (hS : va_S A H0 H locs) (k : Nat) (hk : k < 44) (hs : mIsA k = false) (hN : mIsN k = true) {v index : Nat} {ref : String} (hlink : Cond.fieldLink own index ref (TX10 k).2.1 (TX10 k).2.2.1 ∈ AW) (hr : (TX10 k).1 = ref) (hfin : (TX10 k).2.2.2 = false) (hd : parseFieldDescriptor (TX10 k).2.2.1 = some .int) (hdg : decode cc pc = .ok (.putfield index, 3))
    (kk : ∀ (H1 : Heap) (locs1 : List Loc), mw G mad A (sN σ k 0 v) H1 → va_S A H0 H1 locs1 → W p l e R s m args below meth c H1 locs1 cells slots Q (F0 m (pc + 3) ls rest)) : W p l e R s m args below meth c H locs cells slots Q (F0 m pc ls (.int (nI v) :: .ref (mad (0, 0)) :: rest)) := by
  refine f_put X hK F hS (i := (0, 0)) (Or.inl rfl) rfl rfl okX10 rfl k hk hlink (fun _ h => by rw [← hr]; exact h) hfin hd rfl rfl (by simpa [mFields] using hk) hdg fun H1 locs1 h1 h2 => ?_
  refine kk H1 locs1 (mEn_up0 (σ := σ) (mFields_set hk (by simp [mFld, mSc, hs, hN, sN]) (fun j hj => by simp [mFld, mSc_N hj])) (fun b hb => ?_) h1) h2
  rw [mRow_N, if_neg]
  rintro ⟨rfl, -⟩
  rw [hs] at hb; cases hb
theorem m_putV (X : CF p s m args meth c cc nL own ret) (hK : KK G s) (F : mw G mad A σ H) (hS : va_S A H0 H locs) (k : Nat) (hk : k < 44) (hs : mIsA k = false) (hN : mIsN k = false) {v : Int32} {index : Nat} {ref : String} (hlink : Cond.fieldLink own index ref (TX10 k).2.1 (TX10 k).2.2.1 ∈ AW) (hr : (TX10 k).1 = ref) (hfin : (TX10 k).2.2.2 = false) (hd : parseFieldDescriptor (TX10 k).2.2.1 = some .int) (hdg : decode cc pc = .ok (.putfield index, 3))
    (kk : ∀ (H1 : Heap) (locs1 : List Loc), mw G mad A (sV σ k 0 v) H1 → va_S A H0 H1 locs1 → W p l e R s m args below meth c H1 locs1 cells slots Q (F0 m (pc + 3) ls rest)) : W p l e R s m args below meth c H locs cells slots Q (F0 m pc ls (.int v :: .ref (mad (0, 0)) :: rest)) := by
  refine f_put X hK F hS (i := (0, 0)) (Or.inl rfl) rfl rfl okX10 rfl k hk hlink (fun _ h => by rw [← hr]; exact h) hfin hd rfl rfl (by simpa [mFields] using hk) hdg fun H1 locs1 h1 h2 => ?_
  refine kk H1 locs1 (mEn_up0 (σ := σ) (mFields_set hk (by simp [mFld, mSc, hs, hN, sV]) (fun j hj => by simp [mFld, mSc_V hj])) (fun b hb => ?_) h1) h2
  rw [mRow_V, if_neg]
  rintro ⟨rfl, -⟩
  rw [hs] at hb; cases hb
theorem m_in {x : Int32} {j n : Nat} (h : j < n) (hn : n ≤ 100) (e : x = nI j) : vp_in x n ∧ x.toNatClampNeg = j := by
  subst e
  exact ⟨vp_in_nI h (by omega), nI_clamp (by omega)⟩
theorem mLen_le (k : Nat) : mLen k ≤ 100 := by
  unfold mLen
  split <;> decide
/-- a place of a row -/
theorem m_ald (X : CF p s m args meth c cc nL own ret) (hK : KK G s) (F : mw G mad A σ H) (k : Nat) (hk : k < 44) (hA : mIsA k = true) (h0 : mKd k = 0) (j : Nat) (hj : j < mLen k) {x : Int32} (hx : mRow σ k j = x) (hdg : decode cc pc = .ok (.iaload, 1))
    (kk : W p l e R s m args below meth c H locs cells slots Q (F0 m (pc + 1) ls (.int x :: rest))) : W p l e R s m args below meth c H locs cells slots Q (F0 m pc ls (.int (nI j) :: .ref (mad (1, k)) :: rest)) := by
  have hP := ma F k hk hA
  rw [h0] at hP
  obtain ⟨g1, g2⟩ := m_in (x := nI j) hj (mLen_le k) rfl
  refine f_iald X hK hP g1 hdg ?_
  rw [g2, hx]
  exact kk
theorem m_zald (X : CF p s m args meth c cc nL own ret) (hK : KK G s) (F : mw G mad A σ H) (k : Nat) (hk : k < 44) (hA : mIsA k = true) (h0 : mKd k = 1) (j : Nat) (hj : j < mLen k) {x : Int32} (hx : mRow σ k j = x) (hdg : decode cc pc = .ok (.baload, 1))
    (kk : W p l e R s m args below meth c H locs cells slots Q (F0 m (pc + 1) ls (.int x :: rest))) : W p l e R s m args below meth c H locs cells slots Q (F0 m pc ls (.int (nI j) :: .ref (mad (1, k)) :: rest)) := by
  have hP := ma F k hk hA
  rw [h0] at hP
  obtain ⟨g1, g2⟩ := m_in (x := nI j) hj (mLen_le k) rfl
  refine f_zald X hK hP g1 hdg ?_
  rw [g2, hx]
  exact kk
theorem m_cald (X : CF p s m args meth c cc nL own ret) (hK : KK G s) (F : mw G mad A σ H) (k : Nat) (hk : k < 44) (hA : mIsA k = true) (h0 : mKd k = 2) (j : Nat) (hj : j < mLen k) {x : Int32} (hx : mRow σ k j = x) (hdg : decode cc pc = .ok (.caload, 1))
    (kk : W p l e R s m args below meth c H locs cells slots Q (F0 m (pc + 1) ls (.int x :: rest))) : W p l e R s m args below meth c H locs cells slots Q (F0 m pc ls (.int (nI j) :: .ref (mad (1, k)) :: rest)) := by
  have hP := ma F k hk hA
  rw [h0] at hP
  obtain ⟨g1, g2⟩ := m_in (x := nI j) hj (mLen_le k) rfl
  refine f_cald X hK hP g1 hdg ?_
  rw [g2, hx]
  exact kk
theorem m_sto {k q : Nat} {τ : Sg} {r : Nat → Int32} (h0 : mKd k = q) (hA : mIsA k = true) (h1 : mRow τ k = r) (h2 : ∀ b, b ≠ k → mRow τ b = mRow σ b) (h3 : ∀ b, b ≠ k → mSc τ b = mSc σ b) (F : fw G.1 mLv mad (iup (mEn G mad σ) (1, k) (.inl (G.2.1 q, mLen k, .inl r))) A H) : mw G mad A τ H := by
  subst h0
  rw [mEn_up (mFields_A hA h3) h1 h2] at F
  exact F
theorem m_astN (X : CF p s m args meth c cc nL own ret) (hK : KK G s) (F : mw G mad A σ H) (hS : va_S A H0 H locs) (k : Nat) (hk : k < 44) (hA : mIsA k = true) (hN : mIsN k = true) (h0 : mKd k = 0) (j v : Nat) (hj : j < mLen k) (hdg : decode cc pc = .ok (.iastore, 1))
    (kk : ∀ (H1 : Heap) (locs1 : List Loc), mw G mad A (sN σ k j v) H1 → va_S A H0 H1 locs1 → W p l e R s m args below meth c H1 locs1 cells slots Q (F0 m (pc + 1) ls rest)) : W p l e R s m args below meth c H locs cells slots Q (F0 m pc ls (.int (nI v) :: .int (nI j) :: .ref (mad (1, k)) :: rest)) := by
  obtain ⟨g1, g2⟩ := m_in (x := nI j) hj (mLen_le k) rfl
  refine f_iast X hK F hS (i := (1, k)) (Or.inr ⟨rfl, hk, hA⟩) rfl (f := mRow σ k) (n := mLen k) (by simp [mEn, h0]) g1 hdg fun H1 locs1 h1 h2 => ?_
  rw [g2] at h1
  exact kk H1 locs1 (m_sto h0 hA (by rw [mRow_N, if_pos ⟨rfl, hN⟩]) (fun b hb => by rw [mRow_N, if_neg (fun z => hb z.1)]) (fun b hb => mSc_N hb) h1) h2
theorem m_astV (X : CF p s m args meth c cc nL own ret) (hK : KK G s) (F : mw G mad A σ H) (hS : va_S A H0 H locs) (k : Nat) (hk : k < 44) (hA : mIsA k = true) (hN : mIsN k = false) (h0 : mKd k = 0) (j : Nat) {v : Int32} (hj : j < mLen k) (hdg : decode cc pc = .ok (.iastore, 1))
    (kk : ∀ (H1 : Heap) (locs1 : List Loc), mw G mad A (sV σ k j v) H1 → va_S A H0 H1 locs1 → W p l e R s m args below meth c H1 locs1 cells slots Q (F0 m (pc + 1) ls rest)) : W p l e R s m args below meth c H locs cells slots Q (F0 m pc ls (.int v :: .int (nI j) :: .ref (mad (1, k)) :: rest)) := by
  obtain ⟨g1, g2⟩ := m_in (x := nI j) hj (mLen_le k) rfl
  refine f_iast X hK F hS (i := (1, k)) (Or.inr ⟨rfl, hk, hA⟩) rfl (f := mRow σ k) (n := mLen k) (by simp [mEn, h0]) g1 hdg fun H1 locs1 h1 h2 => ?_
  rw [g2] at h1
  exact kk H1 locs1 (m_sto h0 hA (by rw [mRow_V, if_pos ⟨rfl, hN⟩]) (fun b hb => by rw [mRow_V, if_neg (fun z => hb z.1)]) (fun b hb => mSc_V hb) h1) h2
theorem m_zst (X : CF p s m args meth c cc nL own ret) (hK : KK G s) (F : mw G mad A σ H) (hS : va_S A H0 H locs) (k : Nat) (hk : k < 44) (hA : mIsA k = true) (hN : mIsN k = false) (h0 : mKd k = 1) (j : Nat) {v : Int32} (hv : vp_nar .boolean v = v) (hj : j < mLen k) (hdg : decode cc pc = .ok (.bastore, 1))
    (kk : ∀ (H1 : Heap) (locs1 : List Loc), mw G mad A (sV σ k j v) H1 → va_S A H0 H1 locs1 → W p l e R s m args below meth c H1 locs1 cells slots Q (F0 m (pc + 1) ls rest)) : W p l e R s m args below meth c H locs cells slots Q (F0 m pc ls (.int v :: .int (nI j) :: .ref (mad (1, k)) :: rest)) := by
  obtain ⟨g1, g2⟩ := m_in (x := nI j) hj (mLen_le k) rfl
  refine f_zast X hK F hS (i := (1, k)) (Or.inr ⟨rfl, hk, hA⟩) rfl (f := mRow σ k) (n := mLen k) (by simp [mEn, h0]) g1 hdg fun H1 locs1 h1 h2 => ?_
  rw [g2, hv] at h1
  exact kk H1 locs1 (m_sto h0 hA (by rw [mRow_V, if_pos ⟨rfl, hN⟩]) (fun b hb => by rw [mRow_V, if_neg (fun z => hb z.1)]) (fun b hb => mSc_V hb) h1) h2
theorem m_cst (X : CF p s m args meth c cc nL own ret) (hK : KK G s) (F : mw G mad A σ H) (hS : va_S A H0 H locs) (k : Nat) (hk : k < 44) (hA : mIsA k = true) (hN : mIsN k = false) (h0 : mKd k = 2) (j : Nat) {v : Int32} (hv : vp_nar .char v = v) (hj : j < mLen k) (hdg : decode cc pc = .ok (.castore, 1))
    (kk : ∀ (H1 : Heap) (locs1 : List Loc), mw G mad A (sV σ k j v) H1 → va_S A H0 H1 locs1 → W p l e R s m args below meth c H1 locs1 cells slots Q (F0 m (pc + 1) ls rest)) : W p l e R s m args below meth c H locs cells slots Q (F0 m pc ls (.int v :: .int (nI j) :: .ref (mad (1, k)) :: rest)) := by
  obtain ⟨g1, g2⟩ := m_in (x := nI j) hj (mLen_le k) rfl
  refine f_cast X hK F hS (i := (1, k)) (Or.inr ⟨rfl, hk, hA⟩) rfl (f := mRow σ k) (n := mLen k) (by simp [mEn, h0]) g1 hdg fun H1 locs1 h1 h2 => ?_
  rw [g2, hv] at h1
  exact kk H1 locs1 (m_sto h0 hA (by rw [mRow_V, if_pos ⟨rfl, hN⟩]) (fun b hb => by rw [mRow_V, if_neg (fun z => hb z.1)]) (fun b hb => mSc_V hb) h1) h2
end MROW
