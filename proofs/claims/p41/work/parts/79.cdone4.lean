/-! ===== lists that lose, lists cleared, lists with one put in ===== -/
/-- a list's row keeps its place, what stands in it changes -/
theorem ls_rm {G : GT} {g : CG} {A : Nat → Prop} {ad : I2 → Nat} {σ : Sg} {L : Nat → List I2} {H : Heap} (hL : okL g σ L) {k : Nat} (hk : lsB σ k) {M : List I2} {x : Int32} {n : Nat} {f : Nat → Option Nat} (hq : 0 < g.1 k) (hn : n = M.length) (hf : f = cont M ad)
    (F : fw G.1 (cLv g σ) ad (iup (iup (cEnL G g ad σ L) (1, k) (LO x (lrow G g ad k) n)) (2, k) (LA G (g.1 k) f)) A H) : cwL G (gls g k (g.1 k) x) A ad σ (upL L k M) H := by
  have h1 : ∀ y, (gls g k (g.1 k) x).1 y = g.1 y := fun y => by
    show (if y = k then g.1 k else g.1 y) = g.1 y
    split
    · rename_i h
      rw [h]
    · rfl
  refine fw.sub F (cwAll (g := gls g k (g.1 k) x) ⟨rfl, rfl, rfl⟩ (fun y hy => ⟨hy, rfl, ?_⟩) (fun y hy h0 => ⟨⟨hy, by rw [h1] at h0; exact h0⟩, rfl, ?_⟩) (fun i h => ⟨h, rfl, rfl⟩) (fun i h => ⟨h, rfl, rfl⟩) (fun i h => ⟨h, rfl, rfl⟩) (fun i h => ⟨h, rfl, rfl⟩) (fun i h => ⟨h, rfl, rfl⟩) (fun i h => ⟨h, rfl, rfl⟩) (fun i h => ⟨h, rfl, rfl⟩) (fun i h => ⟨h, rfl, rfl⟩) (fun i h => ⟨h, rfl, rfl⟩) (fun i h => ⟨h, rfl, rfl⟩) (fun i h => ⟨h, rfl, rfl⟩) (fun i h => ⟨h, rfl, rfl⟩) ⟨rfl, rfl, rfl⟩ ⟨rfl, rfl, rfl⟩)
  · show (LO (if y = k then x else g.2.1 y) (lrow G (gls g k (g.1 k) x) ad y) (upL L k M y).length : va_E) = _
    have h2 : lrow G (gls g k (g.1 k) x) ad y = lrow G g ad y := by
      unfold lrow
      rw [h1]
    rw [h2]
    by_cases h : y = k
    · subst h
      rw [iup_n _ _ (kne (by decide)), iup_s, if_pos rfl, upL_s, hn]
    · rw [iup_n _ _ (kne (by decide)), iup_n _ _ (ine h), if_neg h, upL_n _ _ h]
      rfl
  · show (LA G ((gls g k (g.1 k) x).1 y) (cont (upL L k M y) ad) : va_E) = _
    rw [h1]
    by_cases h : y = k
    · subst h
      rw [iup_s, upL_s, hf]
    · rw [iup_n _ _ (ine h), iup_n _ _ (kne (by decide)), upL_n _ _ h]
      rfl
/-- a list without a row: nothing has stood in it -/
theorem ls_r0 {G : GT} {g : CG} {A : Nat → Prop} {ad : I2 → Nat} {σ : Sg} {L : Nat → List I2} {H : Heap} {k : Nat} {x : Int32} (hq : g.1 k = 0)
    (F : fw G.1 (cLv g σ) ad (iup (cEnL G g ad σ L) (1, k) (LO x (lrow G g ad k) 0)) A H) : cwL G (gls g k (g.1 k) x) A ad σ (upL L k []) H := by
  have h1 : ∀ y, (gls g k (g.1 k) x).1 y = g.1 y := fun y => by
    show (if y = k then g.1 k else g.1 y) = g.1 y
    split
    · rename_i h
      rw [h]
    · rfl
  refine fw.sub F (cwAll (g := gls g k (g.1 k) x) ⟨rfl, rfl, rfl⟩ (fun y hy => ⟨hy, rfl, ?_⟩) (fun y hy h0 => ⟨⟨hy, by rw [h1] at h0; exact h0⟩, rfl, ?_⟩) (fun i h => ⟨h, rfl, rfl⟩) (fun i h => ⟨h, rfl, rfl⟩) (fun i h => ⟨h, rfl, rfl⟩) (fun i h => ⟨h, rfl, rfl⟩) (fun i h => ⟨h, rfl, rfl⟩) (fun i h => ⟨h, rfl, rfl⟩) (fun i h => ⟨h, rfl, rfl⟩) (fun i h => ⟨h, rfl, rfl⟩) (fun i h => ⟨h, rfl, rfl⟩) (fun i h => ⟨h, rfl, rfl⟩) (fun i h => ⟨h, rfl, rfl⟩) (fun i h => ⟨h, rfl, rfl⟩) ⟨rfl, rfl, rfl⟩ ⟨rfl, rfl, rfl⟩)
  · show (LO (if y = k then x else g.2.1 y) (lrow G (gls g k (g.1 k) x) ad y) (upL L k [] y).length : va_E) = _
    have h2 : lrow G (gls g k (g.1 k) x) ad y = lrow G g ad y := by
      unfold lrow
      rw [h1]
    rw [h2]
    by_cases h : y = k
    · subst h
      rw [iup_s, if_pos rfl, upL_s]
      rfl
    · rw [iup_n _ _ (ine h), if_neg h, upL_n _ _ h]
      rfl
  · show (LA G ((gls g k (g.1 k) x).1 y) (cont (upL L k [] y) ad) : va_E) = _
    have h3 : y ≠ k := fun z => by
      rw [h1, z] at h0
      omega
    rw [h1, iup_n _ _ (kne (by decide)), upL_n _ _ h3]
    rfl
theorem c_rmL (l : Launch) (G : GT) (A : Nat → Prop) (hAg : ∀ q, A q → gA G q) (g : CG) (ad : I2 → Nat) (σ : Sg) (L : Nat → List I2) (hC : CLL g σ L) (hL : okL g σ L) (k : Nat) (hk : lsB σ k) (j : Nat) (y : I2) (hy : (L k)[j]? = some y) (a v : Nat) (ha : ad (1, k) = a) (hv : ad y = v) : cM l yJx4a65c_remove_915e3 cJx4a65c_remove_915e3 4 ((Option.some (FieldType.object "java/lang/Object"))) 2 0 0 G [.ref a, .int (nI j)] (cwL G g A ad σ L) (eB (some (.ref v)) (fun H => cwL G (gls g k (g.1 k) (g.2.1 k + 1)) A ad σ (upL L k ((L k).eraseIdx j)) H)) A := by
  subst ha
  subst hv
  have hj : j < (L k).length := by
    rcases Nat.lt_or_ge j (L k).length with h | h
    · exact h
    · rw [List.getElem?_eq_none h] at hy
      cases hy
  have hb := hC k hk
  have h0 : 0 < g.1 k := by omega
  have hd : lrow G g ad k = ad (2, k) := if_neg (by omega)
  have h := c_Jx4a65c_remove_915e3 l G A hAg (cLv g σ) ad (cEnL G g ad σ L) (1, k) (2, k) (kne (by decide)) hk ⟨hk, h0⟩ (ad (1, k)) (lrow G g ad k) (L k).length (g.1 k) j (g.2.1 k) (cont (L k) ad) rfl rfl hd.symm rfl hj hb.1 (by omega) (okF_L hL hk _) (ad y) (cont_get hy)
  refine cM_imp h (fun H z => z) (fun v H z => ⟨z.1, ?_⟩)
  exact ls_rm hL hk (M := (L k).eraseIdx j) h0 (by rw [List.length_eraseIdx_of_lt hj]) (cont_rm (L k) ad hj) z.2
theorem c_clL (l : Launch) (G : GT) (A : Nat → Prop) (hAg : ∀ q, A q → gA G q) (g : CG) (ad : I2 → Nat) (σ : Sg) (L : Nat → List I2) (hC : CLL g σ L) (hL : okL g σ L) (k : Nat) (hk : lsB σ k) (a : Nat) (ha : ad (1, k) = a) : cM l yJx4a65c_clear_da8c8 cJx4a65c_clear_da8c8 4 ((Option.none : Option FieldType)) 0 0 0 G [.ref a] (cwL G g A ad σ L) (eB none (fun H => cwL G (gls g k (g.1 k) (g.2.1 k + 1)) A ad σ (upL L k []) H)) A := by
  subst ha
  have hb := hC k hk
  have h := c_Jx4a65c_clear_da8c8 l G A hAg (cLv g σ) ad (cEnL G g ad σ L) (1, k) (2, k) (kne (by decide)) hk (ad (1, k)) (lrow G g ad k) (L k).length (g.1 k) (g.2.1 k) (cont (L k) ad) rfl rfl (la_L hC hk) hb.1 (by omega) (fun x hx => cont_none hx)
  refine cM_imp h (fun H z => z) (fun v H z => ⟨z.1, ?_⟩)
  rcases z.2 with ⟨h0, F⟩ | ⟨h0, F⟩
  · exact ls_r0 h0 F
  · exact ls_rm hL hk (M := []) h0 rfl (by funext x; unfold cont; simp) F
theorem c_insL (l : Launch) (G : GT) (A : Nat → Prop) (hAg : ∀ q, A q → gA G q) (g : CG) (ad : I2 → Nat) (σ : Sg) (L : Nat → List I2) (hC : CLL g σ L) (hL : okL g σ L) (k : Nat) (hk : lsB σ k) (j : I2) (hj : cLv g σ j) (h3 : 3 ≤ j.1) (h9 : j.1 ≤ 9) (hn : (L k).length ≤ 100) (p : Nat) (hp : p ≤ (L k).length) (a v : Nat) (ha : ad (1, k) = a) (hv : ad j = v) : cM l yJx4a65c_add_7a177 cJx4a65c_add_7a177 5 ((Option.none : Option FieldType)) 5 1 (addS (L k).length (g.1 k)) G [.ref a, .int (nI p), .ref v] (fun H => cwL G g A ad σ L H ∧ ∀ q, H.size ≤ q → A q) (eB none (fun H => ∃ q2, cwL G (gls g k (ncap (L k).length (g.1 k)) (g.2.1 k + 1)) A (iup ad (2, k) q2) σ (upL L k ((L k).insertIdx p j)) H)) A := by
  subst ha
  subst hv
  obtain ⟨ci, vs, r, e1, e2, e3⟩ := el_cls (G := G) (g := g) (ad := ad) (σ := σ) (L := L) j h3 h9
  have hjk : j.1 ≠ 1 ∧ j.1 ≠ 2 := by omega
  have hb := hC k hk
  have h := c_Jx4a65c_add_7a177 l G A hAg (cLv g σ) ad (cEnL G g ad σ L) (1, k) (2, k) (17, 0) j (kne (by decide)) (kne (by decide)) (kne (by decide)) (fun z => hjk.1 (by rw [z])) (fun z => hjk.2 (by rw [z])) hk (fun z => z) hj (ad (1, k)) (lrow G g ad k) (L k).length (g.1 k) (ad j) (g.2.1 k) (cont (L k) ad) rfl rfl (la_L hC hk) hb.1 (by omega) (okF_L hL hk _) (fun x hx => cont_none hx) rfl p hp ci vs r e1 e2 e3
  refine cM_imp h (fun H z => z) (fun v H z => ⟨z.1, ?_⟩)
  obtain ⟨q2, F⟩ := z.2
  have h8 := ncap_b hb.1 hn hb.2
  exact ⟨q2, ls_re hL hk (M := (L k).insertIdx p j) (fun i hi z => by
    rcases (List.mem_insertIdx hp).mp hi with h1 | h1
    · rw [h1] at z
      exact hjk.2 (by rw [z])
    · have := (hL k hk i h1).2.1
      rw [z] at this
      exact absurd this (by simp)) (by omega) (by rw [List.length_insertIdx_of_le_length hp]) (cont_ins (L k) ad j hp) F⟩
/-! appeals that are dropped -/
def dpL (M : List I2) (wf : I2 → Bool) (t : Nat) : List I2 := M.take t ++ (M.drop t).filter wf
theorem dpL_0 (M : List I2) (wf : I2 → Bool) : dpL M wf 0 = M.filter wf := by simp [dpL]
theorem dpL_n (M : List I2) (wf : I2 → Bool) {n : Nat} (h : M.length ≤ n) : dpL M wf n = M := by
  unfold dpL
  rw [List.take_of_length_le h, List.drop_of_length_le h]
  simp
theorem dpL_get {M : List I2} {wf : I2 → Bool} {t : Nat} {i : I2} (h : M[t]? = some i) : (dpL M wf (t + 1))[t]? = some i := by
  have hl : t < M.length := by
    rcases Nat.lt_or_ge t M.length with q | q
    · exact q
    · rw [List.getElem?_eq_none q] at h
      cases h
  unfold dpL
  rw [List.getElem?_append_left (by rw [List.length_take]; omega), List.getElem?_take_of_lt (by omega), h]
theorem dp_s {M : List I2} {t : Nat} {i : I2} (h : M[t]? = some i) : M.take (t + 1) = M.take t ++ [i] ∧ M.drop t = i :: M.drop (t + 1) := by
  have hl : t < M.length := by
    rcases Nat.lt_or_ge t M.length with q | q
    · exact q
    · rw [List.getElem?_eq_none q] at h
      cases h
  constructor
  · rw [List.take_succ, h]
    rfl
  · rw [List.drop_eq_getElem_cons hl]
    rw [List.getElem?_eq_getElem hl] at h
    cases h
    rfl
theorem dpL_k {M : List I2} {wf : I2 → Bool} {t : Nat} {i : I2} (h : M[t]? = some i) (hw : wf i = true) : dpL M wf (t + 1) = dpL M wf t := by
  obtain ⟨h1, h2⟩ := dp_s h
  unfold dpL
  rw [h1, h2, List.filter_cons_of_pos hw]
  simp
theorem dpL_r {M : List I2} {wf : I2 → Bool} {t : Nat} {i : I2} (h : M[t]? = some i) (hw : wf i = false) : (dpL M wf (t + 1)).eraseIdx t = dpL M wf t := by
  obtain ⟨h1, h2⟩ := dp_s h
  have hl : t < M.length := by
    rcases Nat.lt_or_ge t M.length with q | q
    · exact q
    · rw [List.getElem?_eq_none q] at h
      cases h
  have h3 : (M.take t).length = t := by rw [List.length_take]; omega
  unfold dpL
  rw [h1, h2, List.filter_cons_of_neg (by rw [hw]; decide), List.append_assoc, List.eraseIdx_append_of_length_le (by omega), h3, Nat.sub_self]
  rfl
theorem dpL_b (M : List I2) (wf : I2 → Bool) (t : Nat) : ∀ i ∈ dpL M wf t, i ∈ M := by
  intro i hi
  rcases List.mem_append.mp hi with h | h
  · exact List.mem_of_mem_take h
  · exact List.mem_of_mem_drop (List.mem_filter.mp h).1
theorem dpL_l (M : List I2) (wf : I2 → Bool) (t : Nat) : (dpL M wf t).length ≤ M.length := by
  unfold dpL
  rw [List.length_append, List.length_take]
  have := List.length_filter_le wf (M.drop t)
  rw [List.length_drop] at this
  omega
def appL (σ : Sg) : List Nat := (List.range (nAp σ)).map (app σ)
theorem dropS_L (σ : Sg) (a : Nat) : ∀ k, (List.range (dropL σ a k).1).map (app (dropL σ a k).2) = ((List.range k).map (app σ)).filter (fun x => decide (x ≠ a))
  | 0 => rfl
  | k + 1 => by
    have ih := dropS_L σ a k
    have h1 := dropL_app σ a k k (Nat.le_refl k)
    rw [List.range_succ, List.map_append, List.filter_append, ← ih]
    simp only [dropL]
    rw [h1]
    by_cases h : app σ k = a
    · rw [if_pos h]
      simp [h]
    · rw [if_neg h]
      show (List.range ((dropL σ a k).1 + 1)).map (app (sN (dropL σ a k).2 28 (dropL σ a k).1 (app σ k))) = _
      rw [List.range_succ, List.map_append]
      congr 1
      · exact List.map_congr_left fun x hx => sN_no (dropL σ a k).2 (app σ k) (k := 28) (by have := List.mem_range.mp hx; omega)
      · have e1 : app (sN (dropL σ a k).2 28 (dropL σ a k).1 (app σ k)) (dropL σ a k).1 = app σ k := if_pos ⟨rfl, rfl⟩
        simp [e1, h]
theorem appL_drop (σ : Sg) (a : Nat) : appL (dropS σ a) = (appL σ).filter (fun x => decide (x ≠ a)) := by
  unfold appL
  rw [dropS_n, ← dropS_L]
  rfl
theorem waitS_mem {σ : Sg} {a : Nat} : ∀ n, waitS σ a n = decide (a ∈ (List.range n).map (app σ))
  | 0 => rfl
  | n + 1 => by
    rw [List.range_succ, List.map_append]
    simp only [waitS, waitS_mem n, List.mem_append, List.map_cons, List.map_nil, List.mem_singleton]
    by_cases h : a ∈ (List.range n).map (app σ)
    · simp [h]
    · simp only [h, decide_false, Bool.false_or, false_or]
      exact decide_eq_decide.mpr ⟨fun z => z.symm, fun z => z.symm⟩
theorem wait_L {σ : Sg} {a : Nat} : waitS σ a (nAp σ) = decide (a ∈ appL σ) := waitS_mem _
theorem wait_drop {σ : Sg} {a x : Nat} : waitS (dropS σ a) x (nAp (dropS σ a)) = (waitS σ x (nAp σ) && decide (x ≠ a)) := by
  rw [wait_L, wait_L, appL_drop]
  by_cases h : x ∈ appL σ <;> by_cases h2 : x = a <;> simp [h, h2, List.mem_filter]
theorem dropL_V (σ : Sg) (a : Nat) : ∀ k, (dropL σ a k).2.2 = σ.2
  | 0 => rfl
  | k + 1 => by
    simp only [dropL]
    split
    · exact dropL_V σ a k
    · exact dropL_V σ a k
theorem dropS_V (σ : Sg) (a : Nat) : (dropS σ a).2 = σ.2 := dropL_V σ a _
theorem dropL_N (σ : Sg) (a : Nat) {k : Nat} (h : k ≠ 28) : ∀ n, (dropL σ a n).2.1 k = σ.1 k
  | 0 => rfl
  | n + 1 => by
    simp only [dropL]
    split
    · exact dropL_N σ a h n
    · refine Eq.trans ?_ (dropL_N σ a h n)
      funext y
      exact if_neg (fun z => h z.1)
theorem dropS_N (σ : Sg) (a : Nat) {k : Nat} (h : k ≠ 27) (h2 : k ≠ 28) : (dropS σ a).1 k = σ.1 k := by
  refine Eq.trans ?_ (dropL_N σ a h2 (nAp σ))
  funext y
  exact if_neg (fun z => h z.1)
theorem sameC_drop (σ : Sg) (a : Nat) : sameC σ (dropS σ a) := ⟨fun k _ h1 h2 _ _ => dropS_N σ a h1 h2, fun k _ _ => by rw [dropS_V]⟩
theorem lst7 (σ : Sg) : lstN σ 7 = (appL σ).map (fun x => (7, x)) := by
  show (List.range (nAp σ)).map (fun x => ((7, app σ x) : I2)) = _
  unfold appL
  rw [List.map_map]
  rfl
theorem lst7_f {σ τ : Sg} {p : Nat → Bool} (h : appL τ = (appL σ).filter p) : (lstN σ 7).filter (fun i => p i.2) = lstN τ 7 := by
  rw [lst7, lst7, h, List.filter_map]
  rfl
theorem lst7_tl {σ : Sg} (hI : MI σ) (h0 : 0 < nAp σ) : (lstN σ 7).eraseIdx 0 = lstN (dropS σ (app σ 0)) 7 := by
  obtain ⟨n, hn⟩ : ∃ n, nAp σ = n + 1 := ⟨nAp σ - 1, by omega⟩
  have e : appL σ = app σ 0 :: ((List.range n).map Nat.succ).map (app σ) := by
    unfold appL
    rw [hn, List.range_succ_eq_map, List.map_cons]
  have e2 : (((List.range n).map Nat.succ).map (app σ)).filter (fun x => decide (x ≠ app σ 0)) = ((List.range n).map Nat.succ).map (app σ) := by
    rw [List.filter_eq_self]
    intro x hx
    obtain ⟨y, hy, rfl⟩ := List.mem_map.mp hx
    obtain ⟨z, hz, rfl⟩ := List.mem_map.mp hy
    have hz' := List.mem_range.mp hz
    simp only [decide_eq_true_eq]
    intro q
    have q2 : z + 1 = 0 := hI.2.2.2.1 (z + 1) 0 (by omega) h0 q
    omega
  rw [lst7, lst7, appL_drop, e, List.filter_cons_of_neg (by simp), e2]
  rfl
theorem lt_get {M : List I2} {t : Nat} {i : I2} (h : M[t]? = some i) : t < M.length := by
  rcases Nat.lt_or_ge t M.length with q | q
  · exact q
  · rw [List.getElem?_eq_none q] at h
    cases h
theorem upL_id (L : Nat → List I2) (k : Nat) : upL L k (L k) = L := by
  funext x
  unfold upL
  split
  · rename_i h
    rw [h]
  · rfl
theorem upL_upL (L : Nat → List I2) (k : Nat) (M N : List I2) : upL (upL L k M) k N = upL L k N := by
  funext x
  unfold upL
  split <;> rfl
theorem gls_id (g : CG) (k : Nat) : gls g k (g.1 k) (g.2.1 k) = g := by
  obtain ⟨a, b, c⟩ := g
  show ((fun y => if y = k then a k else a y), (fun y => if y = k then b k else b y), c) = (a, b, c)
  congr 1
  · funext y
    split
    · rename_i h
      rw [h]
    · rfl
  · congr 1
    funext y
    split
    · rename_i h
      rw [h]
    · rfl
theorem gls_gls (g : CG) (k q q' : Nat) (x y : Int32) : gls (gls g k q x) k q' y = gls g k q' y := by
  show ((fun z => if z = k then q' else if z = k then q else g.1 z), (fun z => if z = k then y else if z = k then x else g.2.1 z), g.2.2) = ((fun z => if z = k then q' else g.1 z), (fun z => if z = k then y else g.2.1 z), g.2.2)
  congr 1
  · funext z
    split <;> rfl
  · congr 1
    funext z
    split <;> rfl
theorem gls_1 (g : CG) (k q : Nat) (x : Int32) : (gls g k q x).1 k = q := if_pos rfl
/-- lists of states that differ in the waiting -/
theorem lst_same {σ τ : Sg} (h : ∀ k, k ≠ 27 → k ≠ 28 → τ.1 k = σ.1 k) {M : List I2} (h7 : M = lstN τ 7) : ∀ k, lsB τ k → lstN τ k = upL (lstN σ) 7 M k := by
  have c1 : nCo τ = nCo σ := congrFun (h 2 (by decide) (by decide)) 0
  have c2 : nSt τ = nSt σ := congrFun (h 5 (by decide) (by decide)) 0
  have c3 : nLe τ = nLe σ := congrFun (h 7 (by decide) (by decide)) 0
  have c4 : nEx τ = nEx σ := congrFun (h 11 (by decide) (by decide)) 0
  have c5 : nAn τ = nAn σ := congrFun (h 19 (by decide) (by decide)) 0
  have c6 : nCr τ = nCr σ := congrFun (h 32 (by decide) (by decide)) 0
  have c7 : nCe τ = nCe σ := congrFun (h 35 (by decide) (by decide)) 0
  have c8 : nHa τ = nHa σ := congrFun (h 29 (by decide) (by decide)) 0
  have f1 : har τ = har σ := h 30 (by decide) (by decide)
  have f2 : les τ = les σ := h 12 (by decide) (by decide)
  have f6 : exe τ = exe σ := h 21 (by decide) (by decide)
  intro k _
  by_cases hk7 : k = 7
  · subst hk7
    rw [upL_s, h7]
  · rw [upL_n _ _ hk7]
    by_cases h9 : k < 9
    · have hc : k = 0 ∨ k = 1 ∨ k = 2 ∨ k = 3 ∨ k = 4 ∨ k = 5 ∨ k = 6 ∨ k = 8 := by omega
      rcases hc with rfl | rfl | rfl | rfl | rfl | rfl | rfl | rfl
      · show (List.range (nCo τ)).map _ = (List.range (nCo σ)).map _
        rw [c1]
      · show (List.range (nSt τ)).map _ = (List.range (nSt σ)).map _
        rw [c2]
      · show (List.range (nLe τ)).map _ = (List.range (nLe σ)).map _
        rw [c3]
      · show (List.range (nEx τ)).map _ = (List.range (nEx σ)).map _
        rw [c4]
      · show (List.range (nAn τ)).map _ = (List.range (nAn σ)).map _
        rw [c5]
      · show (List.range (nCr τ)).map _ = (List.range (nCr σ)).map _
        rw [c6]
      · show (List.range (nCe τ)).map _ = (List.range (nCe σ)).map _
        rw [c7]
      · show (List.range (nHa τ)).map (fun x => ((7, har τ x) : I2)) = (List.range (nHa σ)).map (fun x => ((7, har σ x) : I2))
        rw [c8, f1]
    · unfold lstN
      rw [if_neg h9, if_neg h9]
      unfold exL anL
      rw [c4, c5, f2, f6]
theorem dec_N (σ : Sg) (j : Nat) (p d : Int32) : ∀ k, k ≠ 27 → k ≠ 28 → (sV (sV (dropS σ j) 25 j p) 26 j d).1 k = σ.1 k := fun _ h1 h2 => dropS_N σ j h1 h2
theorem sameC_dec (σ : Sg) (j : Nat) (p d : Int32) : sameC (sV (sV σ 25 j p) 26 j d) (sV (sV (dropS σ j) 25 j p) 26 j d) :=
  ⟨fun k _ h1 h2 _ _ => dropS_N σ j h1 h2, fun k _ _ => by
    funext y
    show (if k = 26 ∧ y = j then d else if k = 25 ∧ y = j then p else (dropS σ j).2 k y) = (if k = 26 ∧ y = j then d else if k = 25 ∧ y = j then p else σ.2 k y)
    rw [dropS_V]⟩
theorem dec_gr {σ : Sg} (hI0 : MI0 σ) {j : Nat} (hj : j < nAn σ) (p d : Int32) : gradR σ (σ.2 22 j) (σ.2 23 j) (exe σ j) p = grade (sV (sV (dropS σ j) 25 j p) 26 j d) j := by
  have n : ∀ k, k ≠ 27 → k ≠ 28 → (sV (sV (dropS σ j) 25 j p) 26 j d).1 k = σ.1 k := dec_N σ j p d
  have v : ∀ k, k ≠ 25 → k ≠ 26 → (sV (sV (dropS σ j) 25 j p) 26 j d).2 k = σ.2 k := fun k h1 h2 => by
    funext y
    show (if k = 26 ∧ y = j then d else if k = 25 ∧ y = j then p else (dropS σ j).2 k y) = _
    rw [if_neg (fun z => h2 z.1), if_neg (fun z => h1 z.1), dropS_V]
  have v25 : (sV (sV (dropS σ j) 25 j p) 26 j d).2 25 j = p := if_pos ⟨rfl, rfl⟩
  have he : exe (sV (sV (dropS σ j) 25 j p) 26 j d) = exe σ := n 21 (by decide) (by decide)
  have hc : cas (sV (sV (dropS σ j) 25 j p) 26 j d) = cas σ := n 16 (by decide) (by decide)
  have hw : wei (sV (sV (dropS σ j) 25 j p) 26 j d) = wei σ := n 18 (by decide) (by decide)
  have h1 := allS_b hI0 (hI0.an hj).2.1 _ (Nat.le_refl _)
  have h2 := (hI0.an hj).2.2
  have e2 := grade_R2 (σ := sV (sV (dropS σ j) 25 j p) 26 j d) (a := j) (by rw [he, hc, allS_w hw]; omega)
  rw [← e2, he, v25, v 22 (by decide) (by decide), v 23 (by decide) (by decide), gradR_e (v 13 (by decide) (by decide)) (v 14 (by decide) (by decide)) (v 15 (by decide) (by decide)) hc (v 17 (by decide) (by decide)) hw]
/-- an appeal waits no longer -/
theorem CB_dec {G : GT} {g g' : CG} {A : Nat → Prop} {ad : I2 → Nat} {σ : Sg} {L : Nat → List I2} {H : Heap} {b j : Nat} {p d gr fl : Int32} (hI0 : MI0 σ) (hgr : ∀ a, a < nAn σ → g.2.2.1 0 a = grade σ a) (hwt : ∀ a, a < nAn σ → g.2.2.1 1 a = bI (waitS σ a (nAp σ))) (hsb : LI g σ) (hj : j < nAn σ) (hG : gr = grade (sV (sV (dropS σ j) 25 j p) 26 j d) j) (hb : ad (0, 0) = b) (hL : ∀ k, lsB (sV (sV (dropS σ j) 25 j p) 26 j d) k → lstN (sV (sV (dropS σ j) 25 j p) 26 j d) k = L k) (hC : CLL g' σ L) (hg : g'.2.2 = (gAn g j gr 0 fl).2.2) (F : cwL G g' A ad (sV (sV (dropS σ j) 25 j p) 26 j d) L H) : CB G A b (sV (sV (dropS σ j) 25 j p) 26 j d) H := by
  obtain ⟨τ, hτ⟩ : ∃ τ, τ = sV (sV (dropS σ j) 25 j p) 26 j d := ⟨_, rfl⟩
  have n : ∀ k, k ≠ 27 → k ≠ 28 → τ.1 k = σ.1 k := by rw [hτ]; exact dec_N σ j p d
  have v : ∀ k y, (k ≠ 25 ∧ k ≠ 26) ∨ ¬ y = j → τ.2 k y = σ.2 k y := fun k y h => by
    rw [hτ]
    show (if k = 26 ∧ y = j then d else if k = 25 ∧ y = j then p else (dropS σ j).2 k y) = _
    rw [if_neg (fun z => h.elim (fun q => q.2 z.1) (fun q => q z.2)), if_neg (fun z => h.elim (fun q => q.1 z.1) (fun q => q z.2)), dropS_V]
  have cn : nAn τ = nAn σ := congrFun (n 19 (by decide) (by decide)) 0
  have cl : nLe τ = nLe σ := congrFun (n 7 (by decide) (by decide)) 0
  have cx : nEx τ = nEx σ := congrFun (n 11 (by decide) (by decide)) 0
  have cz : nSz τ = nSz σ := congrFun (n 43 (by decide) (by decide)) 0
  have he : exe τ = exe σ := n 21 (by decide) (by decide)
  have hc : cas τ = cas σ := n 16 (by decide) (by decide)
  have hw : wei τ = wei σ := n 18 (by decide) (by decide)
  have ha : app τ = app (dropS σ j) := by rw [hτ]; rfl
  have hp : nAp τ = nAp (dropS σ j) := by rw [hτ]; rfl
  rw [← hτ] at hG hL F ⊢
  refine mkCB hb hL (fun k hk => hC k (by unfold lsB at *; omega)) (fun x hx => ?_) (fun x hx => ?_) ?_ F
  · rw [hg]
    by_cases h : x = j
    · subst h
      rw [gAn_g, hG]
    · rw [gAn_no h, hgr x (by omega)]
      exact (grade_c (σ := σ) (by rw [he]) (by rw [hc]) (v _ _ (Or.inl (by decide))) (v _ _ (Or.inl (by decide))) (v _ _ (Or.inl (by decide))) (v _ _ (Or.inl (by decide))) (v _ _ (Or.inl (by decide))) (v _ _ (Or.inr h)) (fun k hk => ⟨by rw [hw], v _ _ (Or.inl (by decide))⟩)).symm
  · rw [hg, hp, waitS_c ha, wait_drop]
    by_cases h : x = j
    · subst h
      rw [gAn_w]
      simp [bI]
    · rw [gAn_no h, hwt x (by omega), show decide (x ≠ j) = true from decide_eq_true h, Bool.and_true]
  · unfold LI at hsb ⊢
    rw [hg, cz, show τ.2 42 = σ.2 42 from funext fun y => v _ _ (Or.inl (by decide))]
    exact hsb
theorem dec_id (σ : Sg) (j : Nat) : sV (sV (dropS σ j) 25 j (σ.2 25 j)) 26 j (σ.2 26 j) = dropS σ j := by
  have h1 : sV (dropS σ j) 25 j (σ.2 25 j) = dropS σ j := by
    have := sV_id (dropS σ j) 25 j
    rw [dropS_V] at this
    exact this
  have h2 : sV (dropS σ j) 26 j (σ.2 26 j) = dropS σ j := by
    have := sV_id (dropS σ j) 26 j
    rw [dropS_V] at this
    exact this
  rw [h1, h2]
theorem wd_M {σ : Sg} (hI : MI σ) {g' : CG} {p : Nat → Bool} (h : ∀ y ∈ appL σ, g'.2.2.1 1 y = bI (p y)) : ∀ i ∈ lstN σ 7, i.1 = 7 ∧ i.2 < nAn σ ∧ g'.2.2.1 1 i.2 = bI (p i.2) := by
  intro i hi
  rw [lst7] at hi
  obtain ⟨y, hy, rfl⟩ := List.mem_map.mp hi
  refine ⟨rfl, ?_, h y hy⟩
  obtain ⟨z, hz, rfl⟩ := List.mem_map.mp hy
  exact hI.ap (List.mem_range.mp hz)
theorem wd_f {σ : Sg} {g : CG} (hwt : ∀ a, a < nAn σ → g.2.2.1 1 a = bI (waitS σ a (nAp σ))) (hI : MI σ) {j : Nat} {gr fl : Int32} : ∀ y ∈ appL σ, (gAn g j gr 0 fl).2.2.1 1 y = bI (decide (y ≠ j)) := by
  intro y hy
  by_cases h : y = j
  · subst h
    rw [gAn_w]
    simp [bI]
  · obtain ⟨z, hz, e⟩ := List.mem_map.mp hy
    rw [gAn_no h, hwt y (by rw [← e]; exact hI.ap (List.mem_range.mp hz)), wait_L, show decide (y ∈ appL σ) = true from decide_eq_true hy, show decide (y ≠ j) = true from decide_eq_true h]
