/-! ===== what the law's callers answer ===== -/
def lC (cs : List Int32) (r : Int32 × Sg) : Int32 := if r.2.1 0 0 = 0 then r.1 else cs.getD (r.2.1 0 0 - 1) 0
def lS (r : Int32 × Sg) : Sg := sN r.2 0 0 0
def lB (G : GT) (A : Nat → Prop) (b : Nat) (cs : List Int32) (r : Int32 × Sg) : Option Value → Heap → Prop := fun v H => v = some (.int (lC cs r)) ∧ CB G A b (lS r) H
section WS
variable {p : Program} {l : Launch} {e : Env} {hR rc rs : Nat} {s : State} {m : MethodId} {args : Array Value} {below : List Frame} {meth : Method} {c : Code} {H : Heap} {locs : List Loc} {cells slots : Nat} {Q : State → Prop}
variable {cc : ByteArray} {pc nL : Nat} {ls : Array Slot} {rest st0 : List Value} {own : String} {ret : Option FieldType} {G : GT} {A A1 : Nat → Prop}
variable {y : MethodName} {bytes : ByteArray} {maxL n h mc ms index : Nat} {rt : Option FieldType} {As : List Value} {b : Nat} {P : Heap → Prop} {B1 : Option Value → Heap → Prop} {BX1 : String → Heap → Prop}
theorem w_S (X : CF p s m args meth c cc nL own ret) (ce : ceS y bytes maxL rt n) (hl : Cond.methodLink own index y ∈ AW) (hM : xM l y bytes maxL rt h mc ms G As P B1 BX1 A1) (hG : GG G s H) (hP : P H) (hh : h + 1 ≤ hR) (hn : As.length = n) (hls : ls.size = nL) (hst : st0 = As.reverse ++ rest) (hW : (rest.map fun v => v.category).sum ≤ 8) (hdg : decode cc pc = .ok (.invokestatic index, 3)) (h1 : cells + mc ≤ rc) (h2 : slots + ms ≤ rs) (hS : va_S A s.heap H locs) (hA : ∀ q, A1 q → A q)
    (kx : ∀ (E : String) (ce : Cell) (q9 : Addr) (H1 : Heap) (locs1 : List Loc), BX1 E H1 → H.size ≤ H1.size → (∀ q : Nat, q < H.size → ¬ A1 q → H1[q]? = H[q]?) → va_S A s.heap H1 locs1 → H1[q9]? = some ce → ce.vm = .none → s.vm.findClass E = some ce.cls → vx_W p l e (RM hR rc rs) s m args below meth c H1 locs1 (cells + mc) (slots + ms) Q (F0 m pc ls rest) q9)
    (kk : ∀ (v0 : Option Value) (H1 : Heap) (locs1 : List Loc), B1 v0 H1 → H.size ≤ H1.size → (∀ q : Nat, q < H.size → ¬ A1 q → H1[q]? = H[q]?) → va_S A s.heap H1 locs1 → W p l e (RM hR rc rs) s m args below meth c H1 locs1 (cells + mc) (slots + ms) Q (F0 m (pc + 3) ls (v0.toList ++ rest))) :
    W p l e (RM hR rc rs) s m args below meth c H locs cells slots Q (F0 m pc ls st0) :=
  w_some (vx_runS X.1 hM (q_S X ce hl hh) (q_pre hG hP As) rfl hn hls hst (lv_room hW) hdg ⟨h1, h2⟩) hS hA kx kk
end WS
/-! ===== a method that reads the script ===== -/
def cPreX (av : List Value) (G : GT) (b L : Nat) (xs : Nat → Int32) : Array Value → State → Prop := fun v U => v = av.toArray ∧ GG G U U.heap ∧ va_X b L xs U U.heap
theorem cPreX_blind {av : List Value} {G : GT} {b L : Nat} {xs : Nat → Int32} : FrameBlind (cPreX av G b L xs) := by
  intro a U g mk h
  obtain ⟨h1, h2, h3⟩ := h
  exact ⟨h1, h2.warm (u := U) (U := U.calling g mk a) (State.WarmedH.refl U), h3.moved (u := U) (U := U.calling g mk a) (State.WarmedH.refl U).alike⟩
theorem mk_mX {l : Launch} {cc : ByteArray} {ret : Option FieldType} {G : GT} {y : MethodName} {n h : Nat} {av : List Value} {b L : Nat} {xs : Nat → Int32} {v0 : Option Value} (hpl : plainName y.cls = true) (hlen : (lg_sl av).length ≤ n)
    (body : ∀ p e s m args below meth c, CF p s m args meth c cc n y.cls ret → (∀ ls : Array Slot, lv_has ls n (lv_args 0 av) → GG G s s.heap → va_X b L xs s s.heap →
      W p l e (RM h 0 0) s m args below meth c s.heap [] 0 0 (MQ below (rQ v0) args s 0 0 (fun _ => False)) (F0 m 0 ls []))) : Met l y (wof y cc n ret) (RM h 0 0) (cPreX av G b L xs) (rQ v0) 0 0 (fun _ => False) := by
  refine Met.ofW (cc := cc) (maxL := n) (ret := ret) hpl rfl ?_
  intro p e s m args below meth c s₁ B hml hv
  obtain ⟨rfl, hG, hP⟩ := hv
  have hts := atoms_spec (ws := wof y cc n ret) B.pre
  have hl := lv_entry av hlen
  rw [lg_entry_eq]
  exact body p e s m av.toArray below meth c ⟨⟨B.exec, B.bytes, hml, findClass_of_methodNamed B.named, fun w hw => hts w (List.mem_cons_of_mem _ hw)⟩, B.returns, B.notSynchronized⟩ _ hl hG hP
section XS
variable {p : Program} {l : Launch} {e : Env} {hR rc rs : Nat} {s : State} {m : MethodId} {args : Array Value} {below : List Frame} {meth : Method} {c : Code} {H : Heap} {locs : List Loc} {cells slots : Nat} {Q : State → Prop}
variable {cc : ByteArray} {pc nL : Nat} {ls : Array Slot} {rest st0 : List Value} {own : String} {ret : Option FieldType} {G : GT}
variable {y : MethodName} {bytes : ByteArray} {maxL n h index : Nat} {rt : Option FieldType} {As : List Value} {b L : Nat} {xs : Nat → Int32} {v : Value}
theorem q_rSX (X : CF p s m args meth c cc nL own ret) (ce : ceS y bytes maxL rt n) (hl : Cond.methodLink own index y ∈ AW) (hM : Met l y (wof y bytes maxL rt) (RM h 0 0) (cPreX As G b L xs) (rQ (some v)) 0 0 (fun _ => False)) (hG : GG G s H) (hX : va_X b L xs s H) (hh : h + 1 ≤ hR) (hn : As.length = n) (hls : ls.size = nL) (hst : st0 = As.reverse ++ rest) (hW : (rest.map fun v => v.category).sum ≤ 8) (hdg : decode cc pc = .ok (.invokestatic index, 3)) (h1 : cells ≤ rc) (h2 : slots ≤ rs)
    (kk : W p l e (RM hR rc rs) s m args below meth c H locs cells slots Q (F0 m (pc + 3) ls (v :: rest))) : W p l e (RM hR rc rs) s m args below meth c H locs cells slots Q (F0 m pc ls st0) :=
  q_same (g := F0 m pc ls st0) (va_runS X.1 hM (q_S X ce hl hh) ⟨cPreX_blind, fun U hU hW => ⟨rfl, by rw [hU]; exact hG.warm hW, by rw [hU]; exact hX.moved hW.alike⟩⟩ rfl hn hls hst (lv_room hW) hdg ⟨h1, h2⟩) kk
end XS
/-! ===== numbers out of the script ===== -/
def shU (h k : Int32) : Int32 := (Int32.toUInt32 h >>> (Int32.toUInt32 k &&& Int32.toUInt32 31)).toInt32
def cel0 (x : Int32) (i : Nat) : Int32 := (69069 * (x + nI (1009 * i))) + 12345
def cel1 (h : Int32) : Int32 := (h ^^^ shU h 13) * 1103515245
def cel2 (h : Int32) : Int32 := h ^^^ shU h 16
def cellV (xs : Nat → Int32) (L i : Nat) : Int32 := cel2 (cel1 (cel0 (if i < L then xs i else 0) i))
def pkN (xs : Nat → Int32) (L i m : Nat) : Nat := (cellV xs L i).toBitVec.toNat / 2 ^ 8 % m
theorem pkN_lt {xs : Nat → Int32} {L i m : Nat} (h : 0 < m) : pkN xs L i m < m := Nat.mod_lt _ h
theorem shU_8 (x : Int32) : shU x 8 = nI (x.toBitVec.toNat / 2 ^ 8) := by
  have h1 := nI_tn (shU x 8)
  have h2 : (shU x 8).toBitVec.toNat = x.toBitVec.toNat / 2 ^ 8 := pk_ushr x (nI 8) 8 (sh_u 8 (by omega))
  rw [h2] at h1
  exact h1
theorem ce_L_cell : ceS yL_cell cL_cell 3 ((Option.some FieldType.int)) 2 := ⟨mn_10, m_0, mn_11, ⟨by decide, by decide, by decide +kernel⟩, by decide⟩
theorem ce_L_pick : ceS yL_pick cL_pick 3 ((Option.some FieldType.int)) 3 := ⟨mn_7, m_0, mn_8, ⟨by decide, by decide, by decide +kernel⟩, by decide⟩
