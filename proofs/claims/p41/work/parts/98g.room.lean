/-! ===== room: what holds with less room holds with more; the law's end ===== -/
theorem w_room {p : Program} {l : Launch} {e : Env} {R R1 : Room} {s : State} {m : MethodId} {args : Array Value} {below : List Frame} {meth : Method} {c : Code} {H : Heap} {locs : List Loc} {cells slots : Nat} {Q : State → Prop} {g : JFrame} (hf : R1.frames ≤ R.frames) (hc : R1.cells ≤ R.cells) (hs : R1.slots ≤ R.slots) (hl : R1.locals ≤ R.locals) (k : W p l e R1 s m args below meth c H locs cells slots Q g) : W p l e R s m args below meth c H locs cells slots Q g := by
  intro T hT X
  refine k T hT { X with room := ?_ }
  have h := X.room
  simp only [State.hasRoom, Bool.and_eq_true, decide_eq_true_eq] at h ⊢
  obtain ⟨⟨⟨⟨h1, h2, h3, h4, h5, h6⟩, h7⟩, h8⟩, h9⟩ := h
  exact ⟨⟨⟨⟨by omega, by omega, by omega, by omega, by omega, h6⟩, by omega⟩, by omega⟩, h9⟩
theorem law_fin {p : Program} {l : Launch} {e : Env} {s : State} {m : MethodId} {below : List Frame} {meth : Method} {c : Code} {G : GT} {b L : Nat} {xs : Nat → Int32} {ls : Array Slot} (hst : l.stackTraces = false) (hr : meth.sig.returnType = ret) (X : CF p s m #[Value.ref b] meth c cL_law 13 "CourseForgeLaw" (some .boolean)) (g0 : GG G s s.heap) (hAg : ∀ q, s.heap.size ≤ q → gA G q) (hX : va_X b L xs s s.heap) (hbl : b < s.heap.size) (hL : L ≤ 260) (hl : lv_has ls 13 [(0, .ref b)]) : W p l e room_1 s m #[Value.ref b] below meth c s.heap [] 0 0 (lw_Z below #[Value.ref b] s) (F0 m 0 ls []) := by
  refine w_room (R1 := RM 20 101000 2710000) (Nat.le_of_ble_eq_true rfl) (Nat.le_of_ble_eq_true rfl) (Nat.le_of_ble_eq_true rfl) (Nat.le_of_ble_eq_true rfl) ?_
  refine law_all hst X g0 hAg hX hbl (by omega) hl (Nat.le_of_ble_eq_true rfl) (Nat.le_refl _) (Nat.le_refl _) (fun A3 H locs ls cells slots hA3 hS hc hs => ?_)
  refine va_forget (fun q hq => hA3 _ (hS.2.2 q hq)) ?_
  refine W.widen (k := room_1.cells) (n := room_1.slots) (Nat.le_trans hc (Nat.le_of_ble_eq_true rfl)) (Nat.le_trans hs (Nat.le_of_ble_eq_true rfl)) ?_
  refine W.base ?_
  exact lw_ret (Drawn.sameBut.refl s.drawn lw_cs) X.ex X.co hr X.lk dL_law_1335
