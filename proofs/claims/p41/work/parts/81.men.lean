/-! ===== a mend, over an exercise's own answers ===== -/
def mst (p : Nat × Sg) (k : Nat) : Nat × Sg := (p.1 + (decide (¬ grade (menA p.2 k) k = (menA p.2 k).2 31 k)).toNat, harP (menA p.2 k) k)
def menF (σ : Sg) (M : List Nat) : Nat × Sg := M.foldl mst (0, σ)
theorem menF_s {σ : Sg} {M : List Nat} {i y : Nat} (h : M[i]? = some y) : menF σ (M.take (i + 1)) = mst (menF σ (M.take i)) y := by
  unfold menF
  rw [take_s h, List.foldl_append]
  rfl
theorem menF_n (σ : Sg) (e : Nat) : ∀ n, menF σ ((List.range n).filter (fun a => decide (exe σ a = e))) = menL σ e n
  | 0 => rfl
  | n + 1 => by
    have ih := menF_n σ e n
    rw [List.range_succ, List.filter_append]
    unfold menF at ih ⊢
    rw [List.foldl_append, ih]
    simp only [menL]
    by_cases he : exe σ n = e
    · rw [List.filter_cons_of_pos (by simpa using he), if_pos he]
      rfl
    · rw [List.filter_cons_of_neg (by simpa using he), if_neg he]
      rfl
theorem harP_V (τ : Sg) (k : Nat) : (harP τ k).2 = τ.2 := harD_2 k (nHa τ) τ
theorem harP_k (τ : Sg) (k : Nat) {b : Nat} (h : b ≠ 30) (h2 : b ≠ 29) : (harP τ k).1 b = τ.1 b := by
  refine Eq.trans ?_ (harD_1 k h (nHa τ) τ)
  funext j
  show (if b = 29 ∧ _ then _ else if b = 30 ∧ _ then _ else _) = _
  rw [if_neg (fun z => h2 z.1), if_neg (fun z => h z.1)]
theorem menA_V (τ : Sg) (k : Nat) {b : Nat} (h : b ≠ 25) (h2 : b ≠ 26) : (menA τ k).2 b = τ.2 b := by
  funext y
  show (if b = 26 ∧ _ then _ else if b = 25 ∧ _ then _ else (dropS τ k).2 b y) = _
  rw [if_neg (fun z => h2 z.1), if_neg (fun z => h z.1), dropS_V]
theorem sameC_har (τ : Sg) (k : Nat) : sameC τ (harP τ k) := ⟨fun b _ _ _ h3 h4 => harP_k τ k h4 h3, fun b _ _ => by rw [harP_V]⟩
section MF
variable {σ : Sg}
theorem mf_N : ∀ (M : List Nat) (p : Nat × Sg), eqN p.2 σ → eqN (M.foldl mst p).2 σ
  | [], _, h => h
  | x :: M, p, h => mf_N M (mst p x) (harP_N (menA_N h x) x)
theorem mf_V {b : Nat} (h : b ≠ 25) (h2 : b ≠ 26) : ∀ (M : List Nat) (p : Nat × Sg), (M.foldl mst p).2.2 b = p.2.2 b
  | [], _ => rfl
  | x :: M, p => (mf_V h h2 M (mst p x)).trans ((congrFun (harP_V (menA p.2 x) x) b).trans (menA_V p.2 x h h2))
theorem mst_25 (p : Nat × Sg) (x y : Nat) : (mst p x).2.2 25 y = if y = x then 0 else p.2.2 25 y := by
  show (harP (menA p.2 x) x).2 25 y = _
  rw [harP_V]
  show (if (25 : Nat) = 26 ∧ y = x then (0 : Int32) else if (25 : Nat) = 25 ∧ y = x then 0 else (dropS p.2 x).2 25 y) = _
  rw [if_neg (fun z => absurd z.1 (by decide)), dropS_V]
  by_cases h : y = x
  · rw [if_pos ⟨rfl, h⟩, if_pos h]
  · rw [if_neg (fun z => h z.2), if_neg h]
theorem mf_25 : ∀ (M : List Nat) (p : Nat × Sg) (y : Nat), (M.foldl mst p).2.2 25 y = if y ∈ M then 0 else p.2.2 25 y
  | [], _, y => by simp
  | x :: M, p, y => by
    rw [List.foldl_cons, mf_25 M (mst p x) y, mst_25]
    by_cases h1 : y ∈ M <;> by_cases h2 : y = x <;> simp [h1, h2]
theorem mf_app : ∀ (M : List Nat) (p : Nat × Sg), appL (M.foldl mst p).2 = (appL p.2).filter (fun x => decide (x ∉ M))
  | [], p => (List.filter_eq_self.mpr (fun _ _ => by simp)).symm
  | x :: M, p => by
    rw [List.foldl_cons, mf_app M (mst p x)]
    have h1 : appL (mst p x).2 = appL (dropS p.2 x) := by
      unfold appL
      have := harP_ap (menA p.2 x) x
      show (List.range (nAp (harP (menA p.2 x) x))).map (app (harP (menA p.2 x) x)) = _
      rw [this.1, this.2]
      rfl
    rw [h1, appL_drop, List.filter_filter]
    congr 1
    funext y
    by_cases h2 : y ∈ M <;> by_cases h3 : y = x <;> simp [h2, h3]
theorem menA_H (τ : Sg) (k : Nat) : nHa (menA τ k) = nHa τ ∧ har (menA τ k) = har τ := ⟨congrFun (dropS_1 τ k (b := 29) (by decide) (by decide)) 0, dropS_1 τ k (b := 30) (by decide) (by decide)⟩
theorem mf_H : ∀ (M : List Nat) (p : Nat × Sg), nHa (M.foldl mst p).2 = nHa p.2 + M.length
  | [], _ => rfl
  | x :: M, p => by
    rw [List.foldl_cons, mf_H M (mst p x)]
    show nHa (harP (menA p.2 x) x) + M.length = _
    rw [harP_n, (menA_H p.2 x).1, List.length_cons]
    omega
end MF
def harL (σ : Sg) : List Nat := (List.range (nHa σ)).map (har σ)
theorem lst8 (σ : Sg) : lstN σ 8 = (harL σ).map (fun x => (7, x)) := by
  show (List.range (nHa σ)).map (fun x => ((7, har σ x) : I2)) = _
  unfold harL
  rw [List.map_map]
  rfl
theorem harD_le (k : Nat) : ∀ (q : Nat) (τ : Sg), (harD τ k q).1 ≤ q
  | 0, τ => Nat.le_refl 0
  | q + 1, τ => by
    by_cases h : grade τ (har τ q) - τ.2 31 (har τ q) ≤ grade τ k - τ.2 31 k
    · rw [harD_g h]
      exact Nat.le_refl _
    · rw [harD_s h]
      exact Nat.le_succ_of_le (harD_le k q _)
theorem harD_val (k : Nat) : ∀ (q : Nat) (τ : Sg) (z : Nat), har (harD τ k q).2 z = if (harD τ k q).1 < z ∧ z ≤ q then har τ (z - 1) else har τ z
  | 0, τ, z => by
    show har τ z = if 0 < z ∧ z ≤ 0 then _ else _
    rw [if_neg (by omega)]
  | q + 1, τ, z => by
    by_cases h : grade τ (har τ q) - τ.2 31 (har τ q) ≤ grade τ k - τ.2 31 k
    · rw [harD_g h]
      show har τ z = if q + 1 < z ∧ z ≤ q + 1 then _ else _
      rw [if_neg (by omega)]
    · rw [harD_s h, harD_val k q]
      have h1 := harD_le k q (sN τ 30 (q + 1) (har τ q))
      have h2 : ∀ y, ¬ y = q + 1 → har (sN τ 30 (q + 1) (har τ q)) y = har τ y := fun y hy => sN_no τ (har τ q) hy
      have h3 : har (sN τ 30 (q + 1) (har τ q)) (q + 1) = har τ q := if_pos ⟨rfl, rfl⟩
      by_cases hz : z = q + 1
      · subst hz
        rw [if_neg (by omega), if_pos (by omega), h3]
        rfl
      · by_cases hc : (harD (sN τ 30 (q + 1) (har τ q)) k q).1 < z ∧ z ≤ q
        · rw [if_pos hc, if_pos (by omega), h2 _ (by omega)]
        · rw [if_neg hc, if_neg (by omega), h2 _ hz]
theorem harL_P (τ : Sg) (k : Nat) : harL (harP τ k) = (harL τ).insertIdx (harD τ k (nHa τ)).1 k := by
  have h1 := harD_le k (nHa τ) τ
  have hl : (harL τ).length = nHa τ := by unfold harL; simp
  apply List.ext_getElem?
  intro z
  rw [List.getElem?_insertIdx, hl]
  have hv : har (harP τ k) z = if z = (harD τ k (nHa τ)).1 then k else har (harD τ k (nHa τ)).2 z := by
    show (if (30 : Nat) = 30 ∧ z = (harD τ k (nHa τ)).1 then k else har (harD τ k (nHa τ)).2 z) = _
    by_cases hz : z = (harD τ k (nHa τ)).1
    · rw [if_pos ⟨rfl, hz⟩, if_pos hz]
    · rw [if_neg (fun w => hz w.2), if_neg hz]
  have hL : ∀ y, y < nHa τ → (harL τ)[y]? = some (har τ y) := fun y hy => by
    unfold harL
    rw [List.getElem?_map, List.getElem?_range hy]
    rfl
  by_cases hz : z < nHa τ + 1
  · have h2 : (harL (harP τ k))[z]? = some (har (harP τ k) z) := by
      unfold harL
      rw [harP_n, List.getElem?_map, List.getElem?_range hz]
      rfl
    rw [h2, hv, harD_val]
    by_cases c1 : z < (harD τ k (nHa τ)).1
    · rw [if_pos c1, if_neg (by omega), if_neg (by omega), hL z (by omega)]
    · rw [if_neg c1]
      by_cases c2 : z = (harD τ k (nHa τ)).1
      · rw [if_pos c2, if_pos c2, if_pos (by omega)]
      · rw [if_neg c2, if_neg c2, if_pos (by omega), hL (z - 1) (by omega)]
  · have h2 : (harL (harP τ k))[z]? = none := by
      unfold harL
      rw [harP_n, List.getElem?_map, List.getElem?_eq_none (by simp; omega)]
      rfl
    rw [h2, if_neg (by omega), if_neg (by omega), List.getElem?_eq_none (by omega)]
theorem map_ins (f : Nat → I2) (L : List Nat) (p k : Nat) : (L.insertIdx p k).map f = (L.map f).insertIdx p (f k) := by
  apply List.ext_getElem?
  intro z
  rw [List.getElem?_map, List.getElem?_insertIdx, List.getElem?_insertIdx, List.length_map]
  by_cases h1 : z < p
  · rw [if_pos h1, if_pos h1, List.getElem?_map]
  · rw [if_neg h1, if_neg h1]
    by_cases h2 : z = p
    · rw [if_pos h2, if_pos h2]
      split <;> rfl
    · rw [if_neg h2, if_neg h2, List.getElem?_map]
theorem lst8_P (τ : Sg) (k : Nat) : lstN (harP τ k) 8 = (lstN τ 8).insertIdx (harD τ k (nHa τ)).1 (7, k) := by
  rw [lst8, lst8, harL_P, map_ins]
def plc (fl : Nat → Int32) (c : Int32) : Nat → Nat
  | 0 => 0
  | q + 1 => if fl q < c then plc fl c q else q + 1
theorem plc_c {fl fl' : Nat → Int32} {c : Int32} : ∀ q, (∀ j, j < q → fl j = fl' j) → plc fl c q = plc fl' c q
  | 0, _ => rfl
  | q + 1, h => by
    simp only [plc]
    rw [h q (by omega), plc_c q (fun j hj => h j (by omega))]
theorem plc_le (fl : Nat → Int32) (c : Int32) : ∀ q, plc fl c q ≤ q
  | 0 => Nat.le_refl 0
  | q + 1 => by
    simp only [plc]
    have := plc_le fl c q
    split <;> omega
theorem harD_p {k : Nat} {Q : Nat → Prop} {fa : Nat → Int32} : ∀ (q : Nat) (τ : Sg), (∀ x y, Q x → Q y → (grade τ x - τ.2 31 x ≤ grade τ y - τ.2 31 y ↔ ¬ fa x < fa y)) → Q k → (∀ j, j < q → Q (har τ j)) → (harD τ k q).1 = plc (fun j => fa (har τ j)) (fa k) q
  | 0, τ, _, _, _ => rfl
  | q + 1, τ, h, hk, hq => by
    have hc := h (har τ q) k (hq q (by omega)) hk
    simp only [plc]
    by_cases c : grade τ (har τ q) - τ.2 31 (har τ q) ≤ grade τ k - τ.2 31 k
    · rw [harD_g c, if_neg (hc.mp c)]
    · have c2 : fa (har τ q) < fa k := by
        rcases Classical.em (fa (har τ q) < fa k) with z | z
        · exact z
        · exact absurd (hc.mpr z) c
      rw [harD_s c, if_pos c2]
      have hg : ∀ x, grade (sN τ 30 (q + 1) (har τ q)) x = grade τ x := fun x => grade_e ((eqN.rf τ).n (by decide) _ _) ⟨rfl, rfl, rfl, rfl, rfl, rfl⟩ rfl
      have hh : ∀ j, j < q → har (sN τ 30 (q + 1) (har τ q)) j = har τ j := fun j hj => sN_no τ (har τ q) (by omega)
      rw [harD_p q (sN τ 30 (q + 1) (har τ q)) (fun x y hx hy => by rw [hg, hg]; exact h x y hx hy) hk (fun j hj => by rw [hh j hj]; exact hq j (by omega))]
      exact plc_c q fun j hj => by rw [hh j hj]
theorem sub_i : ∀ a, a < 101 → ∀ b, b < 101 → (nI a - nI b).toInt = (a : Int) - b := by decide +kernel
theorem fall_c {a b x y : Nat} (ha : a ≤ 100) (hb : b ≤ 100) (hx : x ≤ 100) (hy : y ≤ 100) : nI a - nI b ≤ nI x - nI y ↔ ¬ nI b - nI a < nI y - nI x := by
  rw [Int32.le_iff_toInt_le, Int32.lt_iff_toInt_lt, sub_i a (by omega) b (by omega), sub_i x (by omega) y (by omega), sub_i b (by omega) a (by omega), sub_i y (by omega) x (by omega)]
  omega
theorem fall_0 {a b : Nat} (ha : a ≤ 100) (hb : b ≤ 100) : nI b - nI a = 0 ↔ nI a = nI b := by
  constructor
  · intro h
    have h1 := sub_i b (by omega) a (by omega)
    rw [h, show (0 : Int32).toInt = 0 by decide] at h1
    have : a = b := by omega
    rw [this]
  · intro h
    rw [h]
    exact Int32.sub_self _
