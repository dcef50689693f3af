/-! ===== the law's callers: methods with handlers ===== -/
abbrev wofW (y : MethodName) (cc : ByteArray) (n : Nat) (ret : Option FieldType) (hh : List (Nat × Nat × Nat × Nat)) : List Cond := Cond.codeWith y cc n ret hh :: AW
theorem mk_w {l : Launch} {cc : ByteArray} {ret : Option FieldType} {G : GT} {y : MethodName} {n h mc ms : Nat} {av : List Value} {P : Heap → Prop} {Qc : Array Value → State → Outcome → State → Prop} {free : Nat → Prop} {hh : List (Nat × Nat × Nat × Nat)} (hpl : plainName y.cls = true) (hlen : (lg_sl av).length ≤ n)
    (body : ∀ p e s m args below meth c, CF p s m args meth c cc n y.cls ret → (∀ ls : Array Slot, lv_has ls n (lv_args 0 av) → GG G s s.heap → P s.heap → c.exceptionTable.toList = tableOf hh →
      W p l e (RM h mc ms) s m args below meth c s.heap [] 0 0 (MQ below Qc args s mc ms free) (F0 m 0 ls []))) : Met l y (wofW y cc n ret hh) (RM h mc ms) (cPre av G P) Qc mc ms free := by
  refine MetFree.of_bodyS (code := cc) (maxLocals := n) (ret := ret) hpl ?_ ?_
  · intro args s m h hn
    obtain ⟨m9, meth, c, hn9, h1, h2, h3, h4, -, h5, h6, -⟩ := Cond.codeWith_spec (atoms_spec (ws := wofW y cc n ret hh) h _ List.mem_cons_self)
    cases hn.symm.trans hn9
    exact ⟨meth, c, h1, h2, h3, h4, h5, h6⟩
  · intro p e s m args below meth c s₁ B hml hP _
    have hh0 : s₁.heap = s.heap := by rw [B.state]; rfl
    obtain ⟨rfl, hG, hP⟩ := hP
    have hts := atoms_spec (ws := wofW y cc n ret hh) B.pre
    have hl := lv_entry av hlen
    have ht := vx_table (x := y) B (hts _ List.mem_cons_self)
    have hb := body p e s m av.toArray below meth c ⟨⟨B.exec, B.bytes, hml, findClass_of_methodNamed B.named, fun w hw => hts w (List.mem_cons_of_mem _ hw)⟩, B.returns, B.notSynchronized⟩ _ hl hG hP ht
    rw [← lg_entry_eq] at hb
    obtain ⟨t, a1, o, b1, b2, b3⟩ := hb s₁ hh0 (Stand.of_body B)
    exact ⟨t, o, a1, b1, b2, b3⟩
section WRAP
variable {p : Program} {l : Launch} {e : Env} {hR rc rs : Nat} {s : State} {m : MethodId} {args : Array Value} {below : List Frame} {meth : Method} {c : Code} {H : Heap} {locs : List Loc} {cells slots : Nat} {Q : State → Prop}
variable {cc : ByteArray} {pc nL : Nat} {ls : Array Slot} {rest st0 : List Value} {own : String} {ret : Option FieldType} {G : GT} {A A1 : Nat → Prop}
variable {y : MethodName} {bytes : ByteArray} {maxL n h mc ms index : Nat} {rt : Option FieldType} {As : List Value} {b : Nat} {P : Heap → Prop} {B1 : Option Value → Heap → Prop} {BX1 : String → Heap → Prop}
/-- a call that returns or throws, in a method that may catch -/
theorem w_some {a' : Array Value} (hr : vx_Run p l e (RM hR rc rs) s m args below meth c H locs cells slots mc ms (F0 m pc ls st0) rest (cQ B1 A1 a') (cX BX1 A1) A1) (hS : va_S A s.heap H locs) (hA : ∀ q, A1 q → A q)
    (kx : ∀ (E : String) (ce : Cell) (q9 : Addr) (H1 : Heap) (locs1 : List Loc), BX1 E H1 → H.size ≤ H1.size → (∀ q : Nat, q < H.size → ¬ A1 q → H1[q]? = H[q]?) → va_S A s.heap H1 locs1 → H1[q9]? = some ce → ce.vm = .none → s.vm.findClass E = some ce.cls → vx_W p l e (RM hR rc rs) s m args below meth c H1 locs1 (cells + mc) (slots + ms) Q (F0 m pc ls rest) q9)
    (kk : ∀ (v0 : Option Value) (H1 : Heap) (locs1 : List Loc), B1 v0 H1 → H.size ≤ H1.size → (∀ q : Nat, q < H.size → ¬ A1 q → H1[q]? = H[q]?) → va_S A s.heap H1 locs1 → W p l e (RM hR rc rs) s m args below meth c H1 locs1 (cells + mc) (slots + ms) Q (F0 m (pc + 3) ls (v0.toList ++ rest))) :
    W p l e (RM hR rc rs) s m args below meth c H locs cells slots Q (F0 m pc ls st0) := by
  intro T hT X
  rcases hr T hT X with ⟨v, st₀, t, T', L, h0, X', hL, e1, e2, ⟨v0, hv, hb, hF⟩, st⟩ | ⟨q, st₀, t, T', L, E, ce, h0, X', hL, e1, e2, ⟨hb, hF⟩, hce, hcv, hcl, st⟩
  · cases hv
    obtain ⟨k1, k2, k3⟩ := vx_keep h0 e1 hS (fun q _ z => hA q z) hA hL hF
    obtain ⟨t2, a1, b1⟩ := kk v T'.heap (locs ++ L) (by rw [e1]; exact hb) k1 k2 k3 T' rfl X'
    exact ⟨t2, st t2 a1, b1⟩
  · obtain ⟨k1, k2, k3⟩ := vx_keep h0 e1 hS (fun q _ z => hA q z) hA hL hF
    obtain ⟨t2, a1, b1⟩ := kx E ce q T'.heap (locs ++ L) (by rw [e1]; exact hb) k1 k2 k3 (by rw [e1]; exact hce) hcv hcl T' rfl X'
    exact ⟨t2, st.trans a1, b1⟩
theorem w_V (X : CF p s m args meth c cc nL own ret) (ce : ceV y bytes maxL rt n) (hl : Cond.methodLink own index y ∈ AW) (hM : xM l y bytes maxL rt h mc ms G (.ref b :: As) P B1 BX1 A1) (hG : GG G s H) (hP : P H) {ci : Nat} {fs : List Value} (ho : va_at G.1 vwCl (b, .inr (ci, fs)) H) {T : u_T} {N : Nat} (hc : vwCl[ci]? = some (y.cls, T, N)) (hh : h + 1 ≤ hR) (hn : As.length = n) (hls : ls.size = nL) (hst : st0 = As.reverse ++ .ref b :: rest) (hW : (rest.map fun v => v.category).sum ≤ 8) (hdg : decode cc pc = .ok (.invokevirtual index, 3)) (h1 : cells + mc ≤ rc) (h2 : slots + ms ≤ rs) (hS : va_S A s.heap H locs) (hA : ∀ q, A1 q → A q)
    (kx : ∀ (E : String) (ce : Cell) (q9 : Addr) (H1 : Heap) (locs1 : List Loc), BX1 E H1 → H.size ≤ H1.size → (∀ q : Nat, q < H.size → ¬ A1 q → H1[q]? = H[q]?) → va_S A s.heap H1 locs1 → H1[q9]? = some ce → ce.vm = .none → s.vm.findClass E = some ce.cls → vx_W p l e (RM hR rc rs) s m args below meth c H1 locs1 (cells + mc) (slots + ms) Q (F0 m pc ls rest) q9)
    (kk : ∀ (v0 : Option Value) (H1 : Heap) (locs1 : List Loc), B1 v0 H1 → H.size ≤ H1.size → (∀ q : Nat, q < H.size → ¬ A1 q → H1[q]? = H[q]?) → va_S A s.heap H1 locs1 → W p l e (RM hR rc rs) s m args below meth c H1 locs1 (cells + mc) (slots + ms) Q (F0 m (pc + 3) ls (v0.toList ++ rest))) :
    W p l e (RM hR rc rs) s m args below meth c H locs cells slots Q (F0 m pc ls st0) :=
  w_some (vx_runV X.1 hM (q_V X ce hl hh) ⟨(q_pre hG hP (.ref b :: As)).1, q_rv (hK := hG.1) ho hc, (q_pre hG hP (.ref b :: As)).2⟩ rfl hn hls hst (lv_room hW) hdg ⟨h1, h2⟩) hS hA kx kk
end WRAP
theorem cd_at {G : GT} {s : State} (g0 : GG G s s.heap) {C T : String} (hw : Cond.castable C T ∈ tables_1) {args : Array Value} : (Cond.castable C T).before args s = true := va_Nw.use rfl (g0.2.1.2.2.2.2.2.2.2.1 _ hw rfl)
theorem nc_at {G : GT} {s : State} (g0 : GG G s s.heap) {C T : String} (hw : (C, T) ∈ ncX) : va_Nc C T s := g0.2.1.2.2.2.2.2.2.2.2 (C, T) hw
theorem fw.narrow {D : va_G} {lv : I2 → Prop} {ad : I2 → Nat} {en : I2 → va_E} {A B : Nat → Prop} {H : Heap} (F : fw D lv ad en A H) (h : ∀ i, lv i → B (ad i)) : fw D lv ad en B H := by
  obtain ⟨ids, h1, h2, h3, h4⟩ := F
  refine ⟨ids, h1, h2, h3, h4.1, fun k q hk => ?_⟩
  obtain ⟨i, hm, rfl⟩ := List.mem_map.mp (List.mem_of_getElem? hk)
  exact h i ((h2 i).mp hm)
theorem CB.kept {G : GT} {A : Nat → Prop} {b : Nat} {σ : Sg} {H H1 : Heap} (h : CB G A b σ H) (hk : ∀ q : Nat, A q → q < H.size → H1[q]? = H[q]?) : CB G A b σ H1 := by
  obtain ⟨g, ad, h1, h2, F⟩ := h
  exact ⟨g, ad, h1, h2, F.kept fun i hi => hk _ (F.in hi) (F.lt hi)⟩
abbrev LgA (G : GT) (f : Nat → Int64) : va_E := .inl (G.2.1 5, 1, .inr (.inl f))
abbrev DbA (G : GT) (f : Nat → UInt64) : va_E := .inl (G.2.1 6, 1, .inr (.inr (.inr (.inl f))))
section OUT
variable {p : Program} {l : Launch} {e : Env} {R : Room} {s : State} {m : MethodId} {args : Array Value} {below : List Frame} {meth : Method} {c : Code} {H0 H : Heap} {locs : List Loc} {cells slots : Nat} {Q : State → Prop}
variable {cc : ByteArray} {pc nL : Nat} {ls : Array Slot} {rest : List Value} {own : String} {ret : Option FieldType} {G : GT} {A A2 : Nat → Prop} {lv : I2 → Prop} {ad : I2 → Nat} {en : I2 → va_E} {i : I2} {a : Nat}
end OUT
section OUT2
variable {p : Program} {l : Launch} {e : Env} {R : Room} {s : State} {m : MethodId} {args : Array Value} {below : List Frame} {meth : Method} {c : Code} {H0 H : Heap} {locs : List Loc} {cells slots : Nat} {Q : State → Prop}
variable {cc : ByteArray} {pc nL : Nat} {ls : Array Slot} {rest : List Value} {own : String} {ret : Option FieldType} {G : GT} {A A2 : Nat → Prop} {lv : I2 → Prop} {ad : I2 → Nat} {en : I2 → va_E} {i : I2} {a : Nat}
end OUT2
theorem iup_eq {en : I2 → va_E} {i : I2} {x : va_E} (h : en i = x) : iup en i x = en := by
  funext j
  unfold iup
  split
  · rename_i hj
    rw [hj, h]
  · rfl
theorem CB_at {G : GT} {A : Nat → Prop} {b : Nat} {σ : Sg} {H : Heap} (h : CB G A b σ H) : ∃ fs, va_at G.1 vwCl (b, .inr (14, fs)) H := by
  obtain ⟨g, ad, rfl, h2, F⟩ := h
  exact ⟨_, cw_be F⟩
/-- what a caller leaves -/
def wB (G : GT) (A AO : Nat → Prop) (b : Nat) (r : Int32 × Sg) (lv : I2 → Prop) (ad : I2 → Nat) (en : I2 → va_E) (i : I2) : Option Value → Heap → Prop := fun v H => v = some (.int (nI (r.2.1 0 0))) ∧ CB G A b r.2 H ∧ r.2.1 0 0 ≤ 4 ∧ ∃ f1, fw G.1 lv ad (iup en i (LgA G f1)) AO H ∧ (r.2.1 0 0 = 0 → f1 0 = r.1.toInt64)
def wBd (G : GT) (A AO : Nat → Prop) (b : Nat) (r : UInt64 × Sg) (lv : I2 → Prop) (ad : I2 → Nat) (en : I2 → va_E) (i : I2) : Option Value → Heap → Prop := fun v H => v = some (.int (nI (r.2.1 0 0))) ∧ CB G A b r.2 H ∧ r.2.1 0 0 ≤ 4 ∧ ∃ f1, fw G.1 lv ad (iup en i (DbA G f1)) AO H ∧ (r.2.1 0 0 = 0 → f1 0 = r.1)
def wBf (G : GT) (A AO : Nat → Prop) (b : Nat) (r : UInt32 × Sg) (lv : I2 → Prop) (ad : I2 → Nat) (en : I2 → va_E) (i : I2) : Option Value → Heap → Prop := fun v H => v = some (.int (nI (r.2.1 0 0))) ∧ CB G A b r.2 H ∧ r.2.1 0 0 ≤ 4 ∧ ∃ f1, fw G.1 lv ad (iup en i (DbA G f1)) AO H ∧ (r.2.1 0 0 = 0 → f1 0 = FP.f2d r.1)
def wPre (G : GT) (A AO : Nat → Prop) (b : Nat) (σ : Sg) (lv : I2 → Prop) (ad : I2 → Nat) (en : I2 → va_E) : Heap → Prop := fun H => (CB G A b σ H ∧ ∀ q, H.size ≤ q → A q) ∧ fw G.1 lv ad en AO H
theorem ss_n {σ : Sg} (hI : MI σ) (h : (fStandingShare σ).2.1 0 0 = 0) : vf_n64 (FP.f2d (fStandingShare σ).1) := by
  unfold fStandingShare at h ⊢
  split
  · rename_i h1
    rw [if_pos h1] at h
    exact absurd (show (1 : Nat) = 0 from h) (by decide)
  · rename_i h1
    have hb := hI.1.1
    have h0 : ¬ nI (nCe σ) = 0 := nI_nz (Nat.pos_of_ne_zero h1) (by omega)
    have h2 := fp_fout (nI (nCe σ) - nI (revS σ (nCe σ))) h0
    refine fp_n64 ?_
    show FP.Core.dIsNaN (FP.f2d (FP.fdiv (FP.i2f (nI (nCe σ) - nI (revS σ (nCe σ)))) (FP.i2f (nI (nCe σ))))) = false
    unfold FP.f2d
    rw [if_neg (by rw [h2]; decide)]
    exact FP.Core.f2d_out h2
theorem ds_01 (σ : Sg) (p : Int32) : (fDoesStand σ p).1 = 0 ∨ (fDoesStand σ p).1 = 1 := by
  unfold fDoesStand
  split
  · show bI _ = 0 ∨ bI _ = 1
    cases decide (σ.2 41 (ix p) = 0)
    · exact Or.inl rfl
    · exact Or.inr rfl
  · exact Or.inl rfl
