/-! ===== the law's world: the bench, the law's two arrays ===== -/
def lvO : I2 → Prop := fun j => j = (0, 0) ∨ j = (0, 1)
def arE (G : GT) (mf wf : Nat → Int32) : I2 → va_E := fun j => if j = (0, 1) then .inl (G.2.1 1, 30, .inl wf) else .inl (G.2.1 0, 30, .inl mf)
def aW (G : GT) (AO : Nat → Prop) (oad : I2 → Nat) (mf wf : Nat → Int32) (H : Heap) : Prop := fw G.1 lvO oad (arE G mf wf) AO H
def LW (G : GT) (A AO : Nat → Prop) (b d : Nat) (σ : Sg) (oad : I2 → Nat) (mf wf : Nat → Int32) (H : Heap) : Prop := Lw d σ ∧ CB G A b σ H ∧ (∀ q, H.size ≤ q → A q) ∧ aW G AO oad mf wf H
/-- the law's numbers of what there is -/
def mR (σ : Sg) : Nat → Int32 := fun j => nI (if j = 0 then 2 else if j = 1 then nSt σ else if j = 2 then nLe σ else if j = 3 then nEx σ else if j = 4 then nCr σ else if j = 5 then nCe σ else if 10 ≤ j ∧ j < 10 + nEx σ then les σ (j - 10) else 0)
theorem mR_1 (σ : Sg) : mR σ 1 = nI (nSt σ) := rfl
theorem mR_2 (σ : Sg) : mR σ 2 = nI (nLe σ) := rfl
theorem mR_3 (σ : Sg) : mR σ 3 = nI (nEx σ) := rfl
theorem mR_4 (σ : Sg) : mR σ 4 = nI (nCr σ) := rfl
theorem mR_5 (σ : Sg) : mR σ 5 = nI (nCe σ) := rfl
theorem mR_e {σ : Sg} {e : Nat} (h : e < nEx σ) : mR σ (10 + e) = nI (les σ e) := by
  unfold mR
  rw [if_neg (by omega), if_neg (by omega), if_neg (by omega), if_neg (by omega), if_neg (by omega), if_neg (by omega), if_pos (by omega), show 10 + e - 10 = e by omega]
/-- the arrays where the bench is not -/
theorem aW.kept {G : GT} {A AO : Nat → Prop} {oad : I2 → Nat} {mf wf : Nat → Int32} {H H1 : Heap} (F : aW G AO oad mf wf H) (hd : ∀ q, A q → ¬ AO q) (hk : ∀ q : Nat, q < H.size → ¬ A q → H1[q]? = H[q]?) : aW G AO oad mf wf H1 :=
  fw.kept F fun j hj => hk _ (fw.lt F hj) (fun z => hd _ z (fw.in F hj))
theorem aW.at0 {G : GT} {AO : Nat → Prop} {oad : I2 → Nat} {mf wf : Nat → Int32} {H : Heap} (F : aW G AO oad mf wf H) : va_at G.1 vwCl (oad (0, 0), .inl (G.2.1 0, 30, .inl mf)) H := fw.at F (i := (0, 0)) (Or.inl rfl)
theorem aW.at1 {G : GT} {AO : Nat → Prop} {oad : I2 → Nat} {mf wf : Nat → Int32} {H : Heap} (F : aW G AO oad mf wf H) : va_at G.1 vwCl (oad (0, 1), .inl (G.2.1 1, 30, .inl wf)) H := fw.at F (i := (0, 1)) (Or.inr rfl)
theorem aW.ne {G : GT} {AO : Nat → Prop} {oad : I2 → Nat} {mf wf : Nat → Int32} {H : Heap} (F : aW G AO oad mf wf H) : AO (oad (0, 0)) ∧ AO (oad (0, 1)) := ⟨fw.in F (i := (0, 0)) (Or.inl rfl), fw.in F (i := (0, 1)) (Or.inr rfl)⟩
theorem arE_0 (G : GT) (mf wf f : Nat → Int32) : ∀ j, lvO j → arE G f wf j = iup (arE G mf wf) (0, 0) (.inl (G.2.1 0, 30, .inl f)) j := fun j hj => by
  rcases hj with rfl | rfl
  · rw [iup_s]
    rfl
  · rw [iup_n _ _ (ine (by decide))]
    rfl
theorem arE_1 (G : GT) (mf wf f : Nat → Int32) : ∀ j, lvO j → arE G mf f j = iup (arE G mf wf) (0, 1) (.inl (G.2.1 1, 30, .inl f)) j := fun j hj => by
  rcases hj with rfl | rfl
  · rw [iup_n _ _ (ine (by decide))]
    rfl
  · rw [iup_s]
    rfl
section KROW
variable {p : Program} {l : Launch} {e : Env} {R : Room} {hR rc rs : Nat} {s : State} {m : MethodId} {args : Array Value} {below : List Frame} {meth : Method} {c : Code} {H H0 : Heap} {locs : List Loc} {cells slots : Nat} {Q : State → Prop}
variable {cc : ByteArray} {pc nL : Nat} {ls : Array Slot} {rest st0 : List Value} {own : String} {ret : Option FieldType} {G : GT} {A A1 A2 AO : Nat → Prop} {lv : I2 → Prop} {ad : I2 → Nat} {en : I2 → va_E} {i : I2} {a : Nat}
variable {y : MethodName} {bytes : ByteArray} {maxL n h mc ms index b d d' : Nat} {rt : Option FieldType} {As : List Value} {hh : List (Nat × Nat × Nat × Nat)} {σ τ : Sg} {oad : I2 → Nat} {mf wf : Nat → Int32} {cs : List Int32} {r : Int32 × Sg}
theorem k_ist (X : CF p s m args meth c cc nL own ret) (hK : KK G s) (F : fw G.1 lv ad en A1 H) (hS : va_S A H0 H locs) (hA : ∀ q, A1 q → A q) (hi : lv i) (hia : ad i = a) {n : Nat} {f : Nat → Int32} (he : en i = .inl (G.2.1 0, n, .inl f)) {x v : Int32} (hin : vp_in x n) (hdg : decode cc pc = .ok (.iastore, 1))
    (kk : ∀ (H1 : Heap) (locs1 : List Loc), fw G.1 lv ad (iup en i (.inl (G.2.1 0, n, .inl (upd f x.toNatClampNeg v)))) A1 H1 → (∀ q : Nat, q ≠ a → H1[q]? = H[q]?) → H.size ≤ H1.size → va_S A H0 H1 locs1 → W p l e R s m args below meth c H1 locs1 cells slots Q (F0 m (pc + 1) ls rest)) : W p l e R s m args below meth c H locs cells slots Q (F0 m pc ls (.int v :: .int x :: .ref a :: rest)) := by
  subst hia
  obtain ⟨ids, f1, f2, f3, f4⟩ := F
  obtain ⟨q0, g1, g2⟩ := fl_get (ad := ad) (en := en) ((f2 i).mpr hi)
  have g3 := g2.trans (by rw [he])
  refine W.iast X.ex X.co (f3 q0 _ g3) ((hK.2 0 _ rfl).1 n (fun j => .int (f j))) (fun q => by cases q) (by show ¬ (x < 0 ∨ (arrV _ _ _).slots.size ≤ _); rw [arrV_size]; exact hin) rfl rfl hdg fun H1 e z oq => ?_
  have h9 : va_P G.1 vwCl ((fl ids ad en).set q0 (ad i, .inl (G.2.1 0, n, .inl (upd f x.toNatClampNeg v)))) H1 := f3.set f4 g3 (by
    show H1[ad i]? = some (vp_cell _ _)
    rw [e]
    rw [vp_cell_i, vp_cell_i, arrV_store]
    congr 2
    funext q
    by_cases hq : q = x.toNatClampNeg
    · subst hq
      simp [updV, upd]
    · simp [updV, upd, hq]) oq
  have h8 : va_D A1 ((fl ids ad en).set q0 (ad i, .inl (G.2.1 0, n, .inl (upd f x.toNatClampNeg v)))) := f4.set g3
  rw [fl_set f1 g1] at h9 h8
  exact kk H1 _ ⟨ids, f1, f2, h9, h8⟩ oq (Nat.le_of_eq z.symm) (hS.put z oq (hA _ (f4.2 q0 _ g3)))
theorem k_zst (X : CF p s m args meth c cc nL own ret) (hK : KK G s) (F : fw G.1 lv ad en A1 H) (hS : va_S A H0 H locs) (hA : ∀ q, A1 q → A q) (hi : lv i) (hia : ad i = a) {n : Nat} {f : Nat → Int32} (he : en i = .inl (G.2.1 1, n, .inl f)) {x v : Int32} (hin : vp_in x n) (hdg : decode cc pc = .ok (.bastore, 1))
    (kk : ∀ (H1 : Heap) (locs1 : List Loc), fw G.1 lv ad (iup en i (.inl (G.2.1 1, n, .inl (upd f x.toNatClampNeg (vp_nar .boolean v))))) A1 H1 → (∀ q : Nat, q ≠ a → H1[q]? = H[q]?) → H.size ≤ H1.size → va_S A H0 H1 locs1 → W p l e R s m args below meth c H1 locs1 cells slots Q (F0 m (pc + 1) ls rest)) : W p l e R s m args below meth c H locs cells slots Q (F0 m pc ls (.int v :: .int x :: .ref a :: rest)) := by
  subst hia
  obtain ⟨ids, f1, f2, f3, f4⟩ := F
  obtain ⟨q0, g1, g2⟩ := fl_get (ad := ad) (en := en) ((f2 i).mpr hi)
  have g3 := g2.trans (by rw [he])
  refine W.zast X.ex X.co (f3 q0 _ g3) ((hK.2 1 _ rfl).1 n (fun j => .int (f j))) (fun q => by cases q) (by show ¬ (x < 0 ∨ (arrV _ _ _).slots.size ≤ _); rw [arrV_size]; exact hin) rfl rfl hdg fun H1 e z oq => ?_
  have h9 : va_P G.1 vwCl ((fl ids ad en).set q0 (ad i, .inl (G.2.1 1, n, .inl (upd f x.toNatClampNeg (vp_nar .boolean v))))) H1 := f3.set f4 g3 (by
    show H1[ad i]? = some (vp_cell _ _)
    rw [e]
    rw [vp_cell_i, vp_cell_i, arrV_store]
    congr 2
    funext q
    by_cases hq : q = x.toNatClampNeg
    · subst hq
      simp [updV, upd, vp_nar]
      try rfl
    · simp [updV, upd, hq]) oq
  have h8 : va_D A1 ((fl ids ad en).set q0 (ad i, .inl (G.2.1 1, n, .inl (upd f x.toNatClampNeg (vp_nar .boolean v))))) := f4.set g3
  rw [fl_set f1 g1] at h9 h8
  exact kk H1 _ ⟨ids, f1, f2, h9, h8⟩ oq (Nat.le_of_eq z.symm) (hS.put z oq (hA _ (f4.2 q0 _ g3)))
/-- a place of the law's numbers -/
theorem k_ml (X : CF p s m args meth c cc nL own ret) (hK : KK G s) (F : aW G AO oad mf wf H) (j : Nat) (hj : j < 30) {v : Int32} (hv : mf j = v) (hdg : decode cc pc = .ok (.iaload, 1))
    (kk : W p l e R s m args below meth c H locs cells slots Q (F0 m (pc + 1) ls (.int v :: rest))) : W p l e R s m args below meth c H locs cells slots Q (F0 m pc ls (.int (nI j) :: .ref (oad (0, 0)) :: rest)) := by
  refine f_iald X hK F.at0 (x := nI j) (vp_in_nI hj (by omega)) hdg ?_
  rw [nI_clamp (show j < 2 ^ 31 by omega), hv]
  exact kk
theorem k_wl (X : CF p s m args meth c cc nL own ret) (hK : KK G s) (F : aW G AO oad mf wf H) (j : Nat) (hj : j < 30) {v : Int32} (hv : wf j = v) (hdg : decode cc pc = .ok (.baload, 1))
    (kk : W p l e R s m args below meth c H locs cells slots Q (F0 m (pc + 1) ls (.int v :: rest))) : W p l e R s m args below meth c H locs cells slots Q (F0 m pc ls (.int (nI j) :: .ref (oad (0, 1)) :: rest)) := by
  refine f_zald X hK F.at1 (x := nI j) (vp_in_nI hj (by omega)) hdg ?_
  rw [nI_clamp (show j < 2 ^ 31 by omega), hv]
  exact kk
theorem k_ms (X : CF p s m args meth c cc nL own ret) (hK : KK G s) (W0 : LW G A AO b d σ oad mf wf H) (hd : ∀ q, A q → ¬ AO q) (hS : va_S A2 H0 H locs) (hA : ∀ q, AO q → A2 q) (j : Nat) (hj : j < 30) {v : Int32} (hdg : decode cc pc = .ok (.iastore, 1))
    (kk : ∀ (H1 : Heap) (locs1 : List Loc), LW G A AO b d σ oad (upd mf j v) wf H1 → va_S A2 H0 H1 locs1 → W p l e R s m args below meth c H1 locs1 cells slots Q (F0 m (pc + 1) ls rest)) : W p l e R s m args below meth c H locs cells slots Q (F0 m pc ls (.int v :: .int (nI j) :: .ref (oad (0, 0)) :: rest)) := by
  obtain ⟨hL, hCB, hfr, hO⟩ := W0
  refine k_ist X hK hO hS hA (i := (0, 0)) (Or.inl rfl) rfl rfl (vp_in_nI hj (by omega)) hdg fun H1 locs1 F hq hz hS => ?_
  rw [nI_clamp (show j < 2 ^ 31 by omega)] at F
  refine kk H1 locs1 ⟨hL, hCB.kept fun q hq1 _ => hq q (fun z => hd q hq1 (by rw [z]; exact hO.ne.1)), fun q h => hfr q (Nat.le_trans hz h), ?_⟩ hS
  exact fw.sub F fun j9 hj9 => ⟨hj9, rfl, arE_0 G mf wf _ j9 hj9⟩
theorem k_ws (X : CF p s m args meth c cc nL own ret) (hK : KK G s) (W0 : LW G A AO b d σ oad mf wf H) (hd : ∀ q, A q → ¬ AO q) (hS : va_S A2 H0 H locs) (hA : ∀ q, AO q → A2 q) (j : Nat) (hj : j < 30) {v : Int32} (hn : vp_nar .boolean v = v) (hdg : decode cc pc = .ok (.bastore, 1))
    (kk : ∀ (H1 : Heap) (locs1 : List Loc), LW G A AO b d σ oad mf (upd wf j v) H1 → va_S A2 H0 H1 locs1 → W p l e R s m args below meth c H1 locs1 cells slots Q (F0 m (pc + 1) ls rest)) : W p l e R s m args below meth c H locs cells slots Q (F0 m pc ls (.int v :: .int (nI j) :: .ref (oad (0, 1)) :: rest)) := by
  obtain ⟨hL, hCB, hfr, hO⟩ := W0
  refine k_zst X hK hO hS hA (i := (0, 1)) (Or.inr rfl) rfl rfl (vp_in_nI hj (by omega)) hdg fun H1 locs1 F hq hz hS => ?_
  rw [nI_clamp (show j < 2 ^ 31 by omega), hn] at F
  refine kk H1 locs1 ⟨hL, hCB.kept fun q hq1 _ => hq q (fun z => hd q hq1 (by rw [z]; exact hO.ne.2)), fun q h => hfr q (Nat.le_trans hz h), ?_⟩ hS
  exact fw.sub F fun j9 hj9 => ⟨hj9, rfl, arE_1 G mf wf _ j9 hj9⟩
/-- a deed or a question -/
theorem k_call (X : CF p s m args meth c cc nL own ret) (hc : Cond.codeWith y bytes maxL rt hh ∈ AW) (hini : Cond.initialized y.cls ∈ AW) (hsta : Cond.static y ∈ AW) (hdd : y.cls ≠ "java/lang/invoke/MethodHandle" ∧ y.cls ≠ "java/lang/invoke/VarHandle" ∧ (parseMethodDescriptor y.desc).map (fun d => d.parameters.length) = some n) (hm : maxL ≤ 81) (hl : Cond.methodLink own index y ∈ AW)
    (hM : Met l y (wofW y bytes maxL rt hh) (RM h mc ms) (cPre As G (fun H => CB G A b σ H ∧ ∀ q, H.size ≤ q → A q)) (cQ (lB G A b cs r) A) mc ms A) (hG : GG G s H) (W0 : LW G A AO b d σ oad mf wf H) (hd : ∀ q, A q → ¬ AO q) (hr : lS r = τ) (hL : Lw d' τ) {v : Int32} (hv : lC cs r = v) (hh9 : h + 1 ≤ hR) (hn : As.length = n) (hls : ls.size = nL) (hst : st0 = As.reverse ++ rest) (hW : (rest.map fun v => v.category).sum ≤ 8) (hdg : decode cc pc = .ok (.invokestatic index, 3)) (h1 : cells + mc ≤ rc) (h2 : slots + ms ≤ rs) (hS : va_S A2 s.heap H locs) (hA : ∀ q, A q → A2 q)
    (kk : ∀ (H1 : Heap) (locs1 : List Loc), LW G A AO b d' τ oad mf wf H1 → H.size ≤ H1.size → (∀ q : Nat, q < H.size → ¬ A q → H1[q]? = H[q]?) → va_S A2 s.heap H1 locs1 → W p l e (RM hR rc rs) s m args below meth c H1 locs1 (cells + mc) (slots + ms) Q (F0 m (pc + 3) ls (.int v :: rest))) : W p l e (RM hR rc rs) s m args below meth c H locs cells slots Q (F0 m pc ls st0) := by
  refine w_cS X hc hini hsta hdd hm hl hM hG ⟨W0.2.1, W0.2.2.1⟩ hh9 hn hls hst hW hdg h1 h2 hS hA (fun v0 H1 locs1 hB hz hk9 hS => ?_)
  obtain ⟨rfl, hCB⟩ := hB
  rw [hr] at hCB
  rw [hv]
  exact kk H1 locs1 ⟨hL, hCB, fun q hq => W0.2.2.1 q (Nat.le_trans hz hq), W0.2.2.2.kept hd hk9⟩ hz hk9 hS
/-- a question that never throws -/
theorem k_cnt (X : CF p s m args meth c cc nL own ret) (ce : ceV y bytes maxL rt n) (hl : Cond.methodLink own index y ∈ AW) (hM : cM l y bytes maxL rt h mc ms G (.ref b :: As) (fun H => CB G A b σ H ∧ ∀ q, H.size ≤ q → A q) (fB G A b r) A) (hG : GG G s H) (W0 : LW G A AO b d σ oad mf wf H) (hd : ∀ q, A q → ¬ AO q) (hr : r.2 = σ) {v : Int32} (hv : r.1 = v) {T : u_T} {N : Nat} (hc : vwCl[14]? = some (y.cls, T, N)) (hh : h + 1 ≤ hR) (hn : As.length = n) (hls : ls.size = nL) (hst : st0 = As.reverse ++ .ref b :: rest) (hW : (rest.map fun v => v.category).sum ≤ 8) (hdg : decode cc pc = .ok (.invokevirtual index, 3)) (h1 : cells + mc ≤ rc) (h2 : slots + ms ≤ rs) (hS : va_S A2 s.heap H locs) (hA : ∀ q, A q → A2 q)
    (kk : ∀ (H1 : Heap) (locs1 : List Loc), LW G A AO b d σ oad mf wf H1 → H.size ≤ H1.size → (∀ q : Nat, q < H.size → ¬ A q → H1[q]? = H[q]?) → va_S A2 s.heap H1 locs1 → W p l e (RM hR rc rs) s m args below meth c H1 locs1 (cells + mc) (slots + ms) Q (F0 m (pc + 3) ls (.int v :: rest))) : W p l e (RM hR rc rs) s m args below meth c H locs cells slots Q (F0 m pc ls st0) := by
  obtain ⟨fsB, hfB⟩ := CB_at W0.2.1
  refine q_cV X ce hl hM hG ⟨W0.2.1, W0.2.2.1⟩ hfB hc hh hn hls hst hW hdg h1 h2 hS hA (fun v0 H1 locs1 hB hz hk9 hS => ?_)
  obtain ⟨rfl, hk0, hCB⟩ := hB
  rw [hr] at hCB
  rw [hv]
  exact kk H1 locs1 ⟨W0.1, hCB, fun q hq => W0.2.2.1 q (Nat.le_trans hz hq), W0.2.2.2.kept hd hk9⟩ hz hk9 hS
end KROW
/-! ===== what a question answers ===== -/
theorem lsq_ve {σ : Sg} (h0 : σ.1 0 0 = 0) (v : Int32) : lS (fVersionOf σ v) = σ := by
  unfold fVersionOf
  split
  · exact lS_ok h0 _
  · exact lS_err h0 _
theorem lsq_op {σ : Sg} (h0 : σ.1 0 0 = 0) (v : Int32) : lS (fOpenLessons σ v) = σ := by
  unfold fOpenLessons
  split
  · exact lS_ok h0 _
  · exact lS_err h0 _
theorem lsq_re {σ : Sg} (h0 : σ.1 0 0 = 0) (v w : Int32) : lS (fReason σ v w) = σ := by
  unfold fReason
  split
  · exact lS_ok h0 _
  · exact lS_err h0 _
theorem lsq_gr {σ : Sg} (h0 : σ.1 0 0 = 0) (v : Int32) : lS (fGradeOf σ v) = σ := by
  unfold fGradeOf
  split
  · exact lS_ok h0 _
  · exact lS_err h0 _
theorem lsq_cr {σ : Sg} (h0 : σ.1 0 0 = 0) (v w : Int32) : lS (fCreditOf σ v w) = σ := by
  unfold fCreditOf
  split
  · split
    · exact lS_ok h0 _
    · exact lS_err h0 _
  · exact lS_err h0 _
theorem lsq_st {σ : Sg} (h0 : σ.1 0 0 = 0) (v : Int32) : lS (fStudentOf σ v) = σ := by
  unfold fStudentOf
  split
  · exact lS_ok h0 _
  · exact lS_err h0 _
theorem lsq_da {σ : Sg} (h0 : σ.1 0 0 = 0) (v : Int32) : lS (fDayOf σ v) = σ := by
  unfold fDayOf
  split
  · exact lS_ok h0 _
  · exact lS_err h0 _
theorem lsq_be {σ : Sg} (h0 : σ.1 0 0 = 0) (v w : Int32) : lS (fBestAnswer σ v w) = σ := by
  unfold fBestAnswer
  split
  · split
    · exact lS_err h0 _
    · exact lS_ok h0 _
  · exact lS_err h0 _
theorem lsq_ma {σ : Sg} (h0 : σ.1 0 0 = 0) (v w : Int32) : lS (fMastery σ v w) = σ := by
  unfold fMastery
  split
  · exact lS_ok h0 _
  · exact lS_err h0 _
theorem lsq_ap {σ : Sg} (h0 : σ.1 0 0 = 0) (v : Int32) : lS (fAppealAt σ v) = σ := by
  unfold fAppealAt
  split
  · exact lS_ok h0 _
  · exact lS_err h0 _
theorem lsq_ha {σ : Sg} (h0 : σ.1 0 0 = 0) (v : Int32) : lS (fHarmedAt σ v) = σ := by
  unfold fHarmedAt
  split
  · exact lS_ok h0 _
  · exact lS_err h0 _
theorem lsq_ds {σ : Sg} (h0 : σ.1 0 0 = 0) (v : Int32) : lS (fDoesStand σ v) = σ := by
  unfold fDoesStand
  split
  · exact lS_ok h0 _
  · exact lS_err h0 _
theorem lsq_ce {σ : Sg} (h0 : σ.1 0 0 = 0) (v w : Int32) : lS (fCertificateOf σ v w) = σ := by
  unfold fCertificateOf
  split
  · split
    · exact lS_err h0 _
    · exact lS_ok h0 _
  · exact lS_err h0 _
section QA
variable {d : Nat} {σ : Sg}
theorem q_ve (h : Lw d σ) {l : Nat} (hl : l < nLe σ) : lC [(-2001)] (fVersionOf σ (nI l)) = σ.2 10 l := by
  have hb := h.1.1.1.1.1
  unfold fVersionOf
  rw [if_pos (okP_t hl (by omega)), ix_nI (by omega)]
  exact lC_ok _ h.1.2 _
theorem q_op (h : Lw d σ) {s : Nat} (hs : s < nSt σ) : lC [(-2001)] (fOpenLessons σ (nI s)) = nI (opnS σ s (nLe σ)) := by
  have hb := h.1.1.1.1.1
  unfold fOpenLessons
  rw [if_pos (okP_t hs (by omega)), ix_nI (by omega)]
  exact lC_ok _ h.1.2 _
theorem q_op9 (h : Lw d σ) : lC [(-2001)] (fOpenLessons σ (nI (nSt σ))) = -2001 := by
  have hb := h.1.1.1.1.1
  unfold fOpenLessons
  rw [if_neg (by rw [okP_f (Nat.le_refl _) (by omega)]; exact Bool.false_ne_true)]
  exact lC_err _ _ 0
theorem q_re (h : Lw d σ) {s e : Nat} (hs : s < nSt σ) (he : e < nEx σ) : lC [(-2001)] (fReason σ (nI s) (nI e)) = whyS σ s e := by
  have hb := h.1.1.1.1.1
  unfold fReason
  rw [if_pos (Bool.and_eq_true_iff.mpr ⟨okP_t hs (by omega), okP_t he (by omega)⟩), ix_nI (by omega), ix_nI (by omega)]
  exact lC_ok _ h.1.2 _
theorem why_4 (σ : Sg) (s e : Nat) : whyS σ s e = 45 ∨ whyS σ s e = 100 ∨ whyS σ s e = 99 ∨ whyS σ s e = 112 := by
  unfold whyS
  split
  · exact Or.inr (Or.inl rfl)
  · split
    · exact Or.inr (Or.inr (Or.inl rfl))
    · split
      · exact Or.inl rfl
      · exact Or.inr (Or.inr (Or.inr rfl))
theorem q_gr (h : Lw d σ) {a : Nat} (ha : a < nAn σ) : lC [(-2001)] (fGradeOf σ (nI a)) = nI (graN σ a) := by
  have hb := h.1.1.1.1.1
  unfold fGradeOf
  rw [if_pos (okP_t ha (by omega)), ix_nI (by omega), (grade_g h.1.1.1 ha).1]
  exact lC_ok _ h.1.2 _
theorem q_gr9 (h : Lw d σ) : lC [(-2001)] (fGradeOf σ (nI (nAn σ))) = -2001 := by
  have hb := h.1.1.1.1.1
  unfold fGradeOf
  rw [if_neg (by rw [okP_f (Nat.le_refl _) (by omega)]; exact Bool.false_ne_true)]
  exact lC_err _ _ 0
theorem q_crm (h : Lw d σ) : lC [(-2001), (-2005)] (fCreditOf σ (-1) 0) = -2001 := by
  have hb := h.1.1.1.1.1
  unfold fCreditOf
  rw [if_neg (by rw [okP_m (by omega)]; exact Bool.false_ne_true)]
  exact lC_err _ _ 0
theorem q_cr0 (h : Lw d σ) {a : Nat} (ha : a < nAn σ) : ∃ q, q ≤ 9 ∧ lC [(-2001), (-2005)] (fCreditOf σ (nI a) 0) = nI q := by
  have hI := h.1.1.1
  have hb := hI.1.1
  have h3 := hI.1.an ha
  have h4 := (hI.1.ex h3.2.1).2
  obtain ⟨q, hq, eq⟩ := cred_n hI.1 ha (k := 0) (by omega)
  have hw := hI.1.we h3.2.1 (k := 0) (by omega)
  refine ⟨q, by omega, ?_⟩
  unfold fCreditOf
  rw [if_pos (okP_t ha (by omega)), ix_nI (by omega), show (0 : Int32) = nI 0 from rfl, if_pos (okP_t (by omega) (by omega)), ix_nI (by omega), eq]
  exact lC_ok _ h.1.2 _
theorem q_cr6 (h : Lw d σ) {a : Nat} (ha : a < nAn σ) : lC [(-2001), (-2005)] (fCreditOf σ (nI a) 6) = -2005 := by
  have hI := h.1.1.1
  have hb := hI.1.1
  have h4 := (hI.1.ex (hI.1.an ha).2.1).2
  unfold fCreditOf
  rw [if_pos (okP_t ha (by omega)), ix_nI (by omega), show (6 : Int32) = nI 6 from rfl, if_neg (by rw [okP_f h4 (by omega)]; exact Bool.false_ne_true)]
  exact lC_err _ _ 1
theorem q_st (h : Lw d σ) {a : Nat} (ha : a < nAn σ) : lC [(-2001)] (fStudentOf σ (nI a)) = nI (stu σ a) := by
  have hb := h.1.1.1.1.1
  unfold fStudentOf
  rw [if_pos (okP_t ha (by omega)), ix_nI (by omega)]
  exact lC_ok _ h.1.2 _
theorem q_da (h : Lw d σ) {a : Nat} (ha : a < nAn σ) : lC [(-2001)] (fDayOf σ (nI a)) = σ.2 24 a := by
  have hb := h.1.1.1.1.1
  unfold fDayOf
  rw [if_pos (okP_t ha (by omega)), ix_nI (by omega)]
  exact lC_ok _ h.1.2 _
theorem q_be0 (h : Lw d σ) {s e : Nat} (hs : s < nSt σ) (he : e < nEx σ) (hn : bestS σ s e (dayV σ) (nAn σ) = none) : lC [(-2001), (-2005)] (fBestAnswer σ (nI s) (nI e)) = -2005 := by
  have hb := h.1.1.1.1.1
  unfold fBestAnswer
  rw [if_pos (Bool.and_eq_true_iff.mpr ⟨okP_t hs (by omega), okP_t he (by omega)⟩), ix_nI (by omega), ix_nI (by omega), hn]
  exact lC_err _ _ 1
theorem q_be1 (h : Lw d σ) {s e z : Nat} (hs : s < nSt σ) (he : e < nEx σ) (hn : bestS σ s e (dayV σ) (nAn σ) = some z) : lC [(-2001), (-2005)] (fBestAnswer σ (nI s) (nI e)) = nI z := by
  have hb := h.1.1.1.1.1
  unfold fBestAnswer
  rw [if_pos (Bool.and_eq_true_iff.mpr ⟨okP_t hs (by omega), okP_t he (by omega)⟩), ix_nI (by omega), ix_nI (by omega), hn]
  exact lC_ok _ h.1.2 _
theorem bestS_st {σ : Sg} {st e : Nat} {on : Int32} : ∀ {k b : Nat}, bestS σ st e on k = some b → stu σ b = st
  | 0, b, h => by cases h
  | k + 1, b, h => by
    simp only [bestS] at h
    split at h
    · rename_i hc
      split at h
      · cases h
        exact hc.1
      · rename_i b' hb'
        have := bestS_st hb'
        split at h <;> cases h
        · exact this
        · exact hc.1
    · exact bestS_st h
theorem q_ma (h : Lw d σ) {s l : Nat} (hs : s < nSt σ) (hl : l < nLe σ) : lC [(-2001)] (fMastery σ (nI s) (nI l)) = masNow σ s l := by
  have hb := h.1.1.1.1.1
  unfold fMastery
  rw [if_pos (Bool.and_eq_true_iff.mpr ⟨okP_t hs (by omega), okP_t hl (by omega)⟩), ix_nI (by omega), ix_nI (by omega)]
  exact lC_ok _ h.1.2 _
theorem q_ma8 (h : Lw d σ) (v : Int32) : lC [(-2001)] (fMastery σ (nI (nSt σ)) v) = -2001 := by
  have hb := h.1.1.1.1.1
  unfold fMastery
  rw [if_neg (by rw [okP_f (Nat.le_refl _) (by omega), Bool.false_and]; exact Bool.false_ne_true)]
  exact lC_err _ _ 0
theorem q_ma9 (h : Lw d σ) (v : Int32) : lC [(-2001)] (fMastery σ v (nI (nLe σ))) = -2001 := by
  have hb := h.1.1.1.1.1
  unfold fMastery
  rw [if_neg (by rw [okP_f (n := nLe σ) (Nat.le_refl _) (by omega), Bool.and_false]; exact Bool.false_ne_true)]
  exact lC_err _ _ 0
theorem mas_now (h : Lw d σ) (hd : d ≤ 2000) (s l : Nat) : ∃ M, masNow σ s l = nI M ∧ M ≤ 100 ∧ (masN σ l (nEx σ) = 0 → M = 100) ∧ (0 < masN σ l (nEx σ) → M ≤ 100 * ansN σ s l (dayV σ) (nAn σ) (nEx σ) / masN σ l (nEx σ)) := by
  unfold masNow
  rw [h.2.2.1]
  obtain ⟨M, M2, q1, q2, q3, q4, q5, q6⟩ := masBy_n h s l (D := d) (D2 := d) (Nat.le_refl _) (Nat.le_refl _) hd
  exact ⟨M, q1, q4, q5, q6⟩
theorem q_ap (h : Lw d σ) {j : Nat} (hj : j < nAp σ) : lC [(-2001)] (fAppealAt σ (nI j)) = nI (app σ j) := by
  have hb := h.1.1.1.1.1
  have h2 := h.1.1.1.2.1.1
  unfold fAppealAt
  rw [if_pos (okP_t hj (by omega)), ix_nI (by omega)]
  exact lC_ok _ h.1.2 _
theorem q_ap0 (h : Lw d σ) (h0 : nAp σ = 0) : lC [(-2001)] (fAppealAt σ 0) = -2001 := by
  unfold fAppealAt
  rw [if_neg (by rw [h0, show (0 : Int32) = nI 0 from rfl, okP_f (Nat.le_refl 0) (by omega)]; exact Bool.false_ne_true)]
  exact lC_err _ _ 0
theorem q_ha (h : Lw d σ) {j : Nat} (hj : j < nHa σ) : lC [(-2001)] (fHarmedAt σ (nI j)) = nI (har σ j) := by
  have hb := h.1.1.1.1.1
  have h2 := h.1.1.1.2.1.2.1
  unfold fHarmedAt
  rw [if_pos (okP_t hj (by omega)), ix_nI (by omega)]
  exact lC_ok _ h.1.2 _
theorem q_ha9 (h : Lw d σ) : lC [(-2001)] (fHarmedAt σ (nI (nHa σ))) = -2001 := by
  have hb := h.1.1.1.1.1
  have h2 := h.1.1.1.2.1.2.1
  unfold fHarmedAt
  rw [if_neg (by rw [okP_f (Nat.le_refl _) (by omega)]; exact Bool.false_ne_true)]
  exact lC_err _ _ 0
theorem q_ds (h : Lw d σ) {c : Nat} (hc : c < nCe σ) : lC [(-2001)] (fDoesStand σ (nI c)) = bI (decide (σ.2 41 c = 0)) := by
  have hb := h.1.1.1.1.1
  unfold fDoesStand
  rw [if_pos (okP_t hc (by omega)), ix_nI (by omega)]
  exact lC_ok _ h.1.2 _
theorem q_ds9 (h : Lw d σ) : lC [(-2001)] (fDoesStand σ (nI (nCe σ))) = -2001 := by
  have hb := h.1.1.1.1.1
  unfold fDoesStand
  rw [if_neg (by rw [okP_f (Nat.le_refl _) (by omega)]; exact Bool.false_ne_true)]
  exact lC_err _ _ 0
theorem q_ce0 (h : Lw d σ) {s k : Nat} (hs : s < nSt σ) (hk : k < nCr σ) (hn : stdS σ s k (nCe σ) = none) : lC [(-2001), (-2005)] (fCertificateOf σ (nI s) (nI k)) = -2005 := by
  have hb := h.1.1.1.1.1
  unfold fCertificateOf
  rw [if_pos (Bool.and_eq_true_iff.mpr ⟨okP_t hs (by omega), okP_t hk (by omega)⟩), ix_nI (by omega), ix_nI (by omega), hn]
  exact lC_err _ _ 1
theorem q_ce1 (h : Lw d σ) {s k z : Nat} (hs : s < nSt σ) (hk : k < nCr σ) (hn : stdS σ s k (nCe σ) = some z) : lC [(-2001), (-2005)] (fCertificateOf σ (nI s) (nI k)) = nI z := by
  have hb := h.1.1.1.1.1
  unfold fCertificateOf
  rw [if_pos (Bool.and_eq_true_iff.mpr ⟨okP_t hs (by omega), okP_t hk (by omega)⟩), ix_nI (by omega), ix_nI (by omega), hn]
  exact lC_ok _ h.1.2 _
theorem q_ce9 (h : Lw d σ) (v : Int32) : lC [(-2001), (-2005)] (fCertificateOf σ (nI (nSt σ)) v) = -2001 := by
  have hb := h.1.1.1.1.1
  unfold fCertificateOf
  rw [if_neg (by rw [okP_f (Nat.le_refl _) (by omega), Bool.false_and]; exact Bool.false_ne_true)]
  exact lC_err _ _ 0
end QA
/-! ===== a line written: all but the line is as it was ===== -/
def eqL (τ σ : Sg) : Prop := (∀ k, k ≠ 43 → τ.1 k = σ.1 k) ∧ ∀ k, k ≠ 42 → τ.2 k = σ.2 k
theorem eqL.rf (σ : Sg) : eqL σ σ := ⟨fun _ _ => rfl, fun _ _ => rfl⟩
theorem eqL.tr {a b c : Sg} (h : eqL a b) (g : eqL b c) : eqL a c := ⟨fun k hk => (h.1 k hk).trans (g.1 k hk), fun k hk => (h.2 k hk).trans (g.2 k hk)⟩
theorem eqL.w {τ σ : Sg} (h : eqL τ σ) : eqW τ σ := ⟨fun k j _ _ _ _ _ h6 => congrFun (h.1 k h6) j, h.2⟩
theorem eqL.c {τ σ : Sg} (h : eqL τ σ) {k : Nat} (hk : k ≠ 43) : τ.1 k 0 = σ.1 k 0 := congrFun (h.1 k hk) 0
theorem eqL.mr {τ σ : Sg} (h : eqL τ σ) : mR τ = mR σ := by
  funext j
  unfold mR
  rw [show nSt τ = nSt σ from h.c (by decide), show nLe τ = nLe σ from h.c (by decide), show nEx τ = nEx σ from h.c (by decide), show nCr τ = nCr σ from h.c (by decide), show nCe τ = nCe σ from h.c (by decide), show les τ = les σ from h.1 12 (by decide)]
theorem eqL.lw {d : Nat} {τ σ : Sg} (h : eqL τ σ) (hL : Lw d σ) (hQ : Qs τ) : Lw d τ :=
  Lw_of hL hQ ((h.c (by decide)).trans hL.1.2) (h.2 25 (by decide)) (h.2 26 (by decide)) (h.c (by decide)) (h.1 28 (by decide)) (congrFun (h.2 1 (by decide)) 0) (by rw [show nAn τ = nAn σ from h.c (by decide), h.2 24 (by decide)]; exact hL.2.2.2.1) (by rw [show nLe τ = nLe σ from h.c (by decide), h.2 9 (by decide)]; exact hL.2.2.2.2)
theorem putL_eq (L : List Nat) : ∀ σ : Sg, eqL (putL σ L) σ := by
  induction L with
  | nil => intro σ; exact eqL.rf σ
  | cons x L ih =>
    intro σ
    refine (ih (putS σ (nI x))).tr ⟨fun k hk => ?_, fun k hk => putS_V σ _ hk⟩
    funext j
    exact if_neg (fun z => hk z.1)
theorem s_write {d : Nat} {σ : Sg} (h : Lw d σ) {a : Nat} (ha : a < nAn σ) : ∃ n, 15 < n ∧ n ≤ 40 ∧ lC [(-2001)] (fWriteAnswer σ (nI a)) = nI n ∧ ∃ τ, lS (fWriteAnswer σ (nI a)) = τ ∧ Lw d τ ∧ eqL τ σ := by
  have hb := h.1.1.1.1.1
  have e : fWriteAnswer σ (nI a) = (nI (lineS σ a).length, putL (sN σ 43 0 0) (lineS σ a)) := by
    unfold fWriteAnswer
    rw [if_pos (okP_t ha (by omega)), ix_nI (by omega)]
  have hq : eqL (putL (sN σ 43 0 0) (lineS σ a)) σ := (putL_eq (lineS σ a) (sN σ 43 0 0)).tr ⟨fun k hk => funext fun j => if_neg (fun z => hk z.1), fun _ _ => rfl⟩
  have z0 : (putL (sN σ 43 0 0) (lineS σ a)).1 0 0 = 0 := (hq.c (by decide)).trans h.1.2
  have hQ := pr_writeAnswer h.1.1 (nI a)
  rw [e] at hQ
  have d1 : ∀ v, 1 ≤ (decS v).length := fun v => by
    unfold decS
    split
    · simp
    · split <;> simp
  refine ⟨(lineS σ a).length, ?_, (lineS_b h.1.1.1 ha).1, by rw [e]; exact lC_ok _ z0 _, putL (sN σ 43 0 0) (lineS σ a), by rw [e]; exact lS_ok z0 _, hq.lw h hQ, hq⟩
  unfold lineS
  simp only [List.length_append]
  have t1 : tAns.length = 7 := rfl
  have t2 : tCol.length = 2 := rfl
  have t3 : (if grade σ a < 50 then tFai else tPas).length = 7 := by split <;> rfl
  have q1 := d1 a
  have q2 := d1 (graN σ a)
  omega
theorem s_write9 {d : Nat} {σ : Sg} (h : Lw d σ) : lC [(-2001)] (fWriteAnswer σ (nI (nAn σ))) = -2001 ∧ lS (fWriteAnswer σ (nI (nAn σ))) = σ := by
  have hb := h.1.1.1.1.1
  have e : fWriteAnswer σ (nI (nAn σ)) = err σ 1 := by
    unfold fWriteAnswer
    rw [if_neg (by rw [okP_f (Nat.le_refl _) (by omega)]; exact Bool.false_ne_true)]
  rw [e]
  exact ⟨lC_err _ _ 0, lS_err h.1.2 1⟩
