/-! ===== how the bench's world changes ===== -/
theorem allS_w {τ σ : Sg} (h : wei τ = wei σ) (e : Nat) : ∀ n, allS τ e n = allS σ e n
  | 0 => rfl
  | n + 1 => by simp only [allS, allS_w h e n, h]
/-- what stands in the lists lives, and is of a kind that lists hold -/
def okL (g : CG) (σ : Sg) (L : Nat → List I2) : Prop := ∀ k, lsB σ k → ∀ i ∈ L k, cLv g σ i ∧ 3 ≤ i.1 ∧ i.1 ≤ 9
theorem el_cls {G : GT} {g : CG} {ad : I2 → Nat} {σ : Sg} {L : Nat → List I2} : ∀ i : I2, 3 ≤ i.1 → i.1 ≤ 9 → ∃ (ci : Nat) (vs : List Value) (r : vw_C), cEnL G g ad σ L i = .inr (ci, vs) ∧ vwCl[ci]? = some r ∧ r.1 ∈ nX
  | (3, _), _, _ => ⟨7, _, _, rfl, rfl, by decide⟩
  | (4, _), _, _ => ⟨13, _, _, rfl, rfl, by decide⟩
  | (5, _), _, _ => ⟨10, _, _, rfl, rfl, by decide⟩
  | (6, _), _, _ => ⟨9, _, _, rfl, rfl, by decide⟩
  | (7, _), _, _ => ⟨5, _, _, rfl, rfl, by decide⟩
  | (8, _), _, _ => ⟨8, _, _, rfl, rfl, by decide⟩
  | (9, _), _, _ => ⟨6, _, _, rfl, rfl, by decide⟩
  | (0, _), h, _ => absurd h (by simp)
  | (1, _), h, _ => absurd h (by simp)
  | (2, _), h, _ => absurd h (by simp)
  | (n + 10, _), _, h => absurd h (by simp)
theorem lstN_ok {g : CG} {σ : Sg} (hI : MI σ) : okL g σ (lstN σ) := by
  have hm : ∀ {n k : Nat} {i : I2}, i ∈ (List.range n).map (fun x => ((k, x) : I2)) → ∃ x, x < n ∧ i = (k, x) := fun h => by
    obtain ⟨x, h1, h2⟩ := List.mem_map.mp h
    exact ⟨x, List.mem_range.mp h1, h2.symm⟩
  intro k hk i hi
  have hb := hI.1.1
  by_cases h9 : k < 9
  · have hc : k = 0 ∨ k = 1 ∨ k = 2 ∨ k = 3 ∨ k = 4 ∨ k = 5 ∨ k = 6 ∨ k = 7 ∨ k = 8 := by omega
    rcases hc with rfl | rfl | rfl | rfl | rfl | rfl | rfl | rfl | rfl
    · obtain ⟨x, h1, rfl⟩ := hm hi; exact ⟨h1, Nat.le_of_ble_eq_true rfl, Nat.le_of_ble_eq_true rfl⟩
    · obtain ⟨x, h1, rfl⟩ := hm hi; exact ⟨h1, Nat.le_of_ble_eq_true rfl, Nat.le_of_ble_eq_true rfl⟩
    · obtain ⟨x, h1, rfl⟩ := hm hi; exact ⟨h1, Nat.le_of_ble_eq_true rfl, Nat.le_of_ble_eq_true rfl⟩
    · obtain ⟨x, h1, rfl⟩ := hm hi; exact ⟨h1, Nat.le_of_ble_eq_true rfl, Nat.le_of_ble_eq_true rfl⟩
    · obtain ⟨x, h1, rfl⟩ := hm hi; exact ⟨h1, Nat.le_of_ble_eq_true rfl, Nat.le_of_ble_eq_true rfl⟩
    · obtain ⟨x, h1, rfl⟩ := hm hi; exact ⟨h1, Nat.le_of_ble_eq_true rfl, Nat.le_of_ble_eq_true rfl⟩
    · obtain ⟨x, h1, rfl⟩ := hm hi; exact ⟨h1, Nat.le_of_ble_eq_true rfl, Nat.le_of_ble_eq_true rfl⟩
    · obtain ⟨x, h1, h2⟩ := List.mem_map.mp (show i ∈ (List.range (nAp σ)).map (fun x => ((7, app σ x) : I2)) from hi)
      subst h2
      exact ⟨hI.ap (List.mem_range.mp h1), Nat.le_of_ble_eq_true rfl, Nat.le_of_ble_eq_true rfl⟩
    · obtain ⟨x, h1, h2⟩ := List.mem_map.mp (show i ∈ (List.range (nHa σ)).map (fun x => ((7, har σ x) : I2)) from hi)
      subst h2
      exact ⟨hI.ha (List.mem_range.mp h1), Nat.le_of_ble_eq_true rfl, Nat.le_of_ble_eq_true rfl⟩
  · unfold lstN at hi
    rw [if_neg h9] at hi
    by_cases h17 : k < 17
    · rw [if_pos h17] at hi
      obtain ⟨x, h1, rfl⟩ := List.mem_map.mp hi
      exact ⟨(exL_mem h1).1, Nat.le_of_ble_eq_true rfl, Nat.le_of_ble_eq_true rfl⟩
    · rw [if_neg h17] at hi
      obtain ⟨x, h1, rfl⟩ := List.mem_map.mp hi
      exact ⟨(anL_mem h1).1, Nat.le_of_ble_eq_true rfl, Nat.le_of_ble_eq_true rfl⟩
/-- lists that hold the same -/
theorem cwL_eq {G : GT} {g : CG} {A : Nat → Prop} {ad : I2 → Nat} {σ : Sg} {L L' : Nat → List I2} {H : Heap} (h : ∀ k, lsB σ k → L' k = L k) (F : cwL G g A ad σ L H) : cwL G g A ad σ L' H := by
  refine fw.sub F (cwAll ⟨rfl, rfl, rfl⟩ (fun k hk => ⟨hk, rfl, ?_⟩) (fun k hk h0 => ⟨⟨hk, h0⟩, rfl, ?_⟩) (fun i h => ⟨h, rfl, rfl⟩) (fun i h => ⟨h, rfl, rfl⟩) (fun i h => ⟨h, rfl, rfl⟩) (fun i h => ⟨h, rfl, rfl⟩) (fun i h => ⟨h, rfl, rfl⟩) (fun i h => ⟨h, rfl, rfl⟩) (fun i h => ⟨h, rfl, rfl⟩) (fun i h => ⟨h, rfl, rfl⟩) (fun i h => ⟨h, rfl, rfl⟩) (fun i h => ⟨h, rfl, rfl⟩) (fun i h => ⟨h, rfl, rfl⟩) (fun i h => ⟨h, rfl, rfl⟩) ⟨rfl, rfl, rfl⟩ ⟨rfl, rfl, rfl⟩)
  · show (LO (g.2.1 k) (lrow G g ad k) (L' k).length : va_E) = LO (g.2.1 k) (lrow G g ad k) (L k).length
    rw [h k hk]
  · show (LA G (g.1 k) (cont (L' k) ad) : va_E) = LA G (g.1 k) (cont (L k) ad)
    rw [h k hk]
theorem mkCB {G : GT} {g : CG} {A : Nat → Prop} {ad : I2 → Nat} {σ : Sg} {L : Nat → List I2} {H : Heap} {b : Nat} (hb : ad (0, 0) = b) (hL : ∀ k, lsB σ k → lstN σ k = L k) (hC : CLL g σ L) (hgr : ∀ a, a < nAn σ → g.2.2.1 0 a = grade σ a) (hwt : ∀ a, a < nAn σ → g.2.2.1 1 a = bI (waitS σ a (nAp σ))) (hsb : LI g σ) (F : cwL G g A ad σ L H) : CB G A b σ H :=
  ⟨g, ad, hb, ⟨fun k hk => by rw [hL k hk]; exact hC k hk, hgr, hwt, hsb⟩, cwL_eq hL F⟩
/-! a list grows -/
def upL (L : Nat → List I2) (k : Nat) (M : List I2) : Nat → List I2 := fun x => if x = k then M else L x
def gls (g : CG) (k q : Nat) (x : Int32) : CG := (fun y => if y = k then q else g.1 y, fun y => if y = k then x else g.2.1 y, g.2.2)
def addS (n q : Nat) : Nat := if n = q then gcap q else 0
theorem addS_le {n q : Nat} (h : q ≤ 200) : addS n q ≤ 301 := by
  unfold addS gcap
  split
  · split
    · decide
    · split <;> omega
  · exact Nat.zero_le _
theorem ncap_b {n q : Nat} (h : n ≤ q) (hn : n ≤ 100) (hq : q ≤ 200) : n + 1 ≤ ncap n q ∧ ncap n q ≤ 200 := by
  unfold ncap gcap
  split
  · split
    · omega
    · split <;> omega
  · omega
/-- a list's row is another one -/
theorem ls_re {G : GT} {g : CG} {A : Nat → Prop} {ad : I2 → Nat} {σ : Sg} {L : Nat → List I2} {H : Heap} (hL : okL g σ L) {k : Nat} (hk : lsB σ k) {M : List I2} (hM : ∀ i ∈ M, i ≠ (2, k)) {q q2 : Nat} {x : Int32} {n : Nat} {f : Nat → Option Nat} (hq : 0 < q) (hn : n = M.length) (hf : f = cont M ad)
    (F : fw G.1 (fun j => cLv g σ j ∨ j = (2, k)) (iup ad (2, k) q2) (iup (iup (cEnL G g ad σ L) (1, k) (LO x q2 n)) (2, k) (LA G q f)) A H) : cwL G (gls g k q x) A (iup ad (2, k) q2) σ (upL L k M) H := by
  have hne : ∀ y, lsB σ y → ∀ j ∈ L y, j ≠ ((2, k) : I2) := fun y hy j hj z => by
    have := (hL y hy j hj).2.1
    rw [z] at this
    exact absurd this (by simp)
  refine fw.sub F (cwAll (g := gls g k q x) ⟨Or.inl rfl, rfl, rfl⟩ (fun y hy => ⟨Or.inl hy, rfl, ?_⟩) (fun y hy h0 => ?_) (fun i h => ⟨Or.inl h, rfl, rfl⟩) (fun i h => ⟨Or.inl h, rfl, rfl⟩) (fun i h => ⟨Or.inl h, rfl, rfl⟩) (fun i h => ⟨Or.inl h, rfl, rfl⟩) (fun i h => ⟨Or.inl h, rfl, rfl⟩) (fun i h => ⟨Or.inl h, rfl, rfl⟩) (fun i h => ⟨Or.inl h, rfl, rfl⟩) (fun i h => ⟨Or.inl h, rfl, rfl⟩) (fun i h => ⟨Or.inl h, rfl, rfl⟩) (fun i h => ⟨Or.inl h, rfl, rfl⟩) (fun i h => ⟨Or.inl h, rfl, rfl⟩) (fun i h => ⟨Or.inl h, rfl, rfl⟩) ⟨Or.inl rfl, rfl, rfl⟩ ⟨Or.inl rfl, rfl, rfl⟩)
  · by_cases h : y = k
    · subst h
      rw [iup_n _ _ (kne (by decide)), iup_s]
      show (LO (if y = y then x else g.2.1 y) (if (if y = y then q else g.1 y) = 0 then G.2.2 0 else iup ad (2, y) q2 (2, y)) (if y = y then M else L y).length : va_E) = LO x q2 n
      rw [if_pos rfl, if_pos rfl, if_pos rfl, if_neg (by omega), iup_s, hn]
    · rw [iup_n _ _ (kne (by decide)), iup_n _ _ (ine h)]
      show (LO (if y = k then x else g.2.1 y) (if (if y = k then q else g.1 y) = 0 then G.2.2 0 else iup ad (2, k) q2 (2, y)) (if y = k then M else L y).length : va_E) = LO (g.2.1 y) (lrow G g ad y) (L y).length
      rw [if_neg h, if_neg h, if_neg h, iup_n _ _ (ine h)]
      rfl
  · by_cases h : y = k
    · subst h
      refine ⟨Or.inr rfl, rfl, ?_⟩
      rw [iup_s]
      show (LA G (if y = y then q else g.1 y) (cont (if y = y then M else L y) (iup ad (2, y) q2)) : va_E) = LA G q f
      rw [if_pos rfl, if_pos rfl, hf, cont_ad (fun j hj => iup_n _ _ (hM j hj))]
    · have h1 : 0 < g.1 y := by
        have h2 : 0 < (if y = k then q else g.1 y) := h0
        rw [if_neg h] at h2
        exact h2
      refine ⟨Or.inl ⟨hy, h1⟩, rfl, ?_⟩
      rw [iup_n _ _ (ine h), iup_n _ _ (kne (by decide))]
      show (LA G (if y = k then q else g.1 y) (cont (if y = k then M else L y) (iup ad (2, k) q2)) : va_E) = LA G (g.1 y) (cont (L y) ad)
      rw [if_neg h, if_neg h, cont_ad (fun j hj => iup_n _ _ (hne y hy j hj))]
theorem okF_L {G : GT} {g : CG} {ad : I2 → Nat} {σ : Sg} {L : Nat → List I2} (hL : okL g σ L) {k : Nat} (hk : lsB σ k) (q : Nat) : okF (cLv g σ) ad (cEnL G g ad σ L) (cont (L k) ad) q := by
  intro x _ y hy
  unfold cont at hy
  cases hx : (L k)[x]? with
  | none => rw [hx] at hy; cases hy
  | some i =>
    rw [hx] at hy
    obtain ⟨h1, h2, h3⟩ := hL k hk i (List.mem_of_getElem? hx)
    obtain ⟨ci, vs, r, e1, e2, e3⟩ := el_cls (G := G) (g := g) (ad := ad) (σ := σ) (L := L) i h2 h3
    exact ⟨i, ci, vs, r, h1, by cases hy; rfl, e1, e2, e3⟩
theorem la_L {G : GT} {g : CG} {ad : I2 → Nat} {σ : Sg} {L : Nat → List I2} (hC : CLL g σ L) {k : Nat} (hk : lsB σ k) : la G (cLv g σ) ad (cEnL G g ad σ L) (2, k) (lrow G g ad k) (g.1 k) (cont (L k) ad) := by
  by_cases h : g.1 k = 0
  · refine Or.inl ⟨h, fun z => absurd z.2 (by show ¬ 0 < g.1 k; omega), if_pos h, ?_⟩
    have h1 := (hC k hk).1
    funext x
    exact cont_none (by omega)
  · exact Or.inr ⟨Nat.pos_of_ne_zero h, ⟨hk, Nat.pos_of_ne_zero h⟩, (if_neg h).symm, rfl⟩
theorem cM_imp {l : Launch} {y : MethodName} {cc : ByteArray} {n : Nat} {ret : Option FieldType} {hh mc ms : Nat} {G : GT} {av : List Value} {P P' : Heap → Prop} {B B' : Option Value → Heap → Prop} {A : Nat → Prop} (h : cM l y cc n ret hh mc ms G av P B A) (hP : ∀ H, P' H → P H) (hB : ∀ v H, B v H → B' v H) : cM l y cc n ret hh mc ms G av P' B' A := by
  intro p e ha hc hk s m args below hf happ hp hk'
  obtain ⟨n, o, h1, h2, h3, ⟨v0, e1, hb, hF⟩, h5⟩ := h p e ha hc hk s m args below hf happ ⟨hp.1, hp.2.1, hP _ hp.2.2⟩ hk'
  exact ⟨n, o, h1, h2, h3, ⟨v0, e1, hB _ _ hb, hF⟩, h5⟩
theorem c_addL (l : Launch) (G : GT) (A : Nat → Prop) (hAg : ∀ q, A q → gA G q) (g : CG) (ad : I2 → Nat) (σ : Sg) (L : Nat → List I2) (hC : CLL g σ L) (hL : okL g σ L) (k : Nat) (hk : lsB σ k) (j : I2) (hj : cLv g σ j) (h3 : 3 ≤ j.1) (h9 : j.1 ≤ 9) (hn : (L k).length ≤ 100) : cM l yJx4a65c_add_9ea2d cJx4a65c_add_9ea2d 2 ((Option.some FieldType.boolean)) 6 1 (addS (L k).length (g.1 k)) G [.ref (ad (1, k)), .ref (ad j)] (fun H => cwL G g A ad σ L H ∧ ∀ q, H.size ≤ q → A q) (eB (some (.int 1)) (fun H => ∃ q2, cwL G (gls g k (ncap (L k).length (g.1 k)) (g.2.1 k + 1)) A (iup ad (2, k) q2) σ (upL L k (L k ++ [j])) H)) A := by
  obtain ⟨ci, vs, r, e1, e2, e3⟩ := el_cls (G := G) (g := g) (ad := ad) (σ := σ) (L := L) j h3 h9
  have hjk : j.1 ≠ 1 ∧ j.1 ≠ 2 := by omega
  have hb := hC k hk
  have h := c_Jx4a65c_add_9ea2d l G A hAg (cLv g σ) ad (cEnL G g ad σ L) (1, k) (2, k) (17, 0) j (kne (by decide)) (kne (by decide)) (kne (by decide)) (fun z => hjk.1 (by rw [z])) (fun z => hjk.2 (by rw [z])) hk (fun z => z) hj (ad (1, k)) (lrow G g ad k) (L k).length (g.1 k) (ad j) (g.2.1 k) (cont (L k) ad) rfl rfl (la_L hC hk) hb.1 (by omega) (okF_L hL hk _) (fun x hx => cont_none hx) rfl ci vs r e1 e2 e3
  refine cM_imp h (fun H z => z) (fun v H z => ⟨z.1, ?_⟩)
  obtain ⟨q2, F⟩ := z.2
  have h8 := ncap_b hb.1 hn hb.2
  exact ⟨q2, ls_re hL hk (M := L k ++ [j]) (fun i hi z => by
    rcases List.mem_append.mp hi with h1 | h1
    · have := (hL k hk i h1).2.1
      rw [z] at this
      exact absurd this (by simp)
    · rw [List.mem_singleton.mp h1] at z
      exact hjk.2 (by rw [z])) (by omega) (by simp) (cont_push (L k) ad j) F⟩
theorem eEx_w {ad ad' : I2 → Nat} {σ τ : Sg} {i : Nat} (hw : wei τ = wei σ) (hc : cas τ i = cas σ i) (h1 : ad' (5, les τ i) = ad (5, les σ i)) (h2 : τ.2 15 i = σ.2 15 i) (h3 : ad' (13, i) = ad (13, i)) (h4 : ad' (14, i) = ad (14, i)) (h5 : ad' (1, 17 + i) = ad (1, 17 + i)) (h6 : ad' (11, i) = ad (11, i)) : (eEx ad' τ i : va_E) = eEx ad σ i := by
  unfold eEx
  rw [allS_w hw, hc, h1, h2, h3, h4, h5, h6]
set_option maxHeartbeats 1000000 in
theorem push3 {G : GT} {g : CG} {A : Nat → Prop} {ad : I2 → Nat} {σ : Sg} {L : Nat → List I2} {H : Heap} {q : Nat} (hI0 : MI0 σ) (hL : okL g σ L) {x y : Int32} (F : fw G.1 (fun j => cLv g σ j ∨ j = (3, nCo σ)) (iup ad (3, nCo σ) q) (iup (cEnL G g ad σ L) (3, nCo σ) (.inr (7, [.int x, .int y]))) A H) : cwL G g A (iup ad (3, nCo σ) q) (sN (sV (sV σ 3 (nCo σ) x) 4 (nCo σ) y) 2 0 (nCo σ + 1)) L H := by
  have hno : ¬ cLv g σ (3, nCo σ) := show ¬ nCo σ < nCo σ by omega
  exact fw.sub F (cwAll ⟨Or.inl rfl, rfl, rfl⟩ (fun i h => ⟨Or.inl h, rfl, rfl⟩) (fun k h h0 => ⟨Or.inl ⟨h, h0⟩, rfl, congrArg (fun f => (LA G (g.1 k) f : va_E)) (cont_ad fun j hj => iup_n _ _ (fun z => absurd (hL k h j hj).1 (by rw [z]; exact hno)))⟩) (fun i h => by
      rcases Nat.lt_succ_iff_lt_or_eq.mp (show i < nCo σ + 1 from h) with h1 | h1
      · exact ⟨Or.inl h1, rfl, by rw [iup_n _ _ (ine (by omega))]; (have hne : ¬ i = nCo σ := by omega); simp [cEnL, eCo, sN, sV, hne]⟩
      · subst h1
        exact ⟨Or.inr rfl, rfl, by rw [iup_s]; simp [cEnL, sN, sV]⟩) (fun i h => ⟨Or.inl h, rfl, by show (eSt _ _ i : va_E) = eSt _ _ i; unfold eSt; simp only [show coh (sN (sV (sV σ 3 (nCo σ) x) 4 (nCo σ) y) 2 0 (nCo σ + 1)) i = coh σ i from rfl]; rw [show (iup ad (3, nCo σ) q) (3, coh σ i) = ad (3, coh σ i) from iup_n _ _ (ine (by have := hI0.st h; omega))] ⟩) (fun i h => ⟨Or.inl h, rfl, rfl⟩) (fun i h => ⟨Or.inl h, rfl, eEx_w (ad := ad) (ad' := (iup ad (3, nCo σ) q)) (σ := σ) (τ := (sN (sV (sV σ 3 (nCo σ) x) 4 (nCo σ) y) 2 0 (nCo σ + 1))) (i := i) rfl rfl rfl rfl rfl rfl rfl rfl⟩) (fun i h => ⟨Or.inl h, rfl, rfl⟩) (fun i h => ⟨Or.inl h, rfl, rfl⟩) (fun i h => ⟨Or.inl h, rfl, rfl⟩) (fun i h => ⟨Or.inl h, rfl, rfl⟩) (fun i h => ⟨Or.inl h, rfl, rfl⟩) (fun i h => ⟨Or.inl h, rfl, rfl⟩) (fun i h => ⟨Or.inl h, rfl, rfl⟩) (fun i h => ⟨Or.inl h, rfl, rfl⟩) ⟨Or.inl rfl, rfl, rfl⟩ ⟨Or.inl rfl, rfl, rfl⟩)
