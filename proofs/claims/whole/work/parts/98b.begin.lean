/-! ===== the law's beginning ===== -/
section BEGINS
variable {p : Program} {l : Launch} {e : Env} {hR rc rs : Nat} {s : State} {m : MethodId} {args : Array Value} {below : List Frame} {meth : Method} {c : Code} {Q : State → Prop} {G : GT} {b : Nat} {ls : Array Slot}
theorem CB.narrow {G : GT} {A B : Nat → Prop} {b : Nat} {σ : Sg} {H : Heap} (h : CB G A b σ H) (hB : ∀ q, A q → q < H.size → B q) : CB G B b σ H := by
  obtain ⟨g, ad, h1, h2, F⟩ := h
  exact ⟨g, ad, h1, h2, fw.narrow F fun i hi => hB _ (fw.in F hi) (fw.lt F hi)⟩
theorem law_b1 (X : CF p s m args meth c cL_law 9 "CourseForgeLaw" (some .boolean)) (g0 : GG G s s.heap) (hAg : ∀ q, s.heap.size ≤ q → gA G q) (hl : lv_has ls 9 [(0, .ref b)]) (h9 : 10 ≤ hR) (h1 : 30 ≤ rc) (h2 : 200 ≤ rs)
    (kk : ∀ (x : Nat) (H : Heap) (locs : List Loc) (ls : Array Slot), CB G (fun q => s.heap.size ≤ q) x sg0 H → va_S (fun q => s.heap.size ≤ q) s.heap H locs → lv_has ls 9 [(1, .ref x), (0, .ref b)] → W p l e (RM hR rc rs) s m args below meth c H locs (0 + 1 + 20) (0 + 11 + 100) Q (F0 m 8 ls [])) :
    W p l e (RM hR rc rs) s m args below meth c s.heap [] 0 0 Q (F0 m 0 ls []) := by
  have hS : va_S (fun q => s.heap.size ≤ q) s.heap s.heap [] := va_S.rf
  refine f_new X g0.1 (fw.nil (ad := fun _ => 0) (en := fun _ => .inr (0, [])) (A := fun q => s.heap.size ≤ q)) hS (fun q h => h) (0, 0) (fun z => z) (ci := 14) okX9 rfl m_39 m_40 m_1 [.null, .null, .null, .null, .null, .null, .null, .null, .null, .null, .int 0] (by intro j hj; match j, hj with | 0, _ => rfl | 1, _ => rfl | 2, _ => rfl | 3, _ => rfl | 4, _ => rfl | 5, _ => rfl | 6, _ => rfl | 7, _ => rfl | 8, _ => rfl | 9, _ => rfl | 10, _ => rfl | n + 11, h => exact absurd h (by omega)) (by show _ ≤ rc; omega) (by show _ ≤ rs; omega) dL_law_0 (fun q H F hS => ?_)
  refine lv_dup X.ex X.co dL_law_3 rfl ?_
  refine q_cI X ce_X9_init m_41 (c_X9_init l G (fun q => s.heap.size ≤ q) hAg (iup (fun _ => 0) (0, 0) q) (iup (fun _ => .inr (0, [])) (0, 0) _) (iup_s _ _ _)) (g0.step hS hAg) ⟨F, fun q hq => Nat.le_trans hS.1 hq⟩ (by omega) rfl hl.1 rfl (Nat.le_of_ble_eq_true rfl) dL_law_4 (by omega) (by omega) hS (fun _ h => h) (fun v0 H locs hB hz hk9 hS => ?_)
  obtain ⟨rfl, hCB⟩ := hB
  refine lv_astore_n (lv' := [(1, .ref q), (0, .ref b)]) X.ex X.co dL_law_7 rfl hl (by decide) rfl (fun ls hl => ?_)
  exact kk q H locs ls hCB hS hl
end BEGINS
