section TAIL
variable {p : Program} {l : Launch} {e : Env} {hR rc rs : Nat} {s : State} {m : MethodId} {args : Array Value} {below : List Frame} {meth : Method} {c : Code} {H : Heap} {locs : List Loc} {cells slots : Nat} {Q : State → Prop}
variable {G : GT} {A AO : Nat → Prop} {b d : Nat} {σ : Sg} {oad : I2 → Nat} {wf : Nat → Int32} {ls : Array Slot}
variable {sx L k i x9 w9 : Nat} {xs : Nat → Int32}
set_option maxHeartbeats 4000000 in
set_option maxRecDepth 100000 in
theorem law_tail (hst : l.stackTraces = false) (hAg : ∀ q, A q → gA G q) (hA2 : ∀ q, (fun q => A q ∨ AO q) q → gA G q) (hdis : ∀ q, A q → ¬ AO q) (X : CF p s m args meth c cL_law 13 "CourseForgeLaw" (some .boolean)) (g0 : GG G s s.heap) (hX : va_X sx L xs s s.heap) (hxl : sx < s.heap.size) (hxA : ¬ (fun q => A q ∨ AO q) sx) (hL : L ≤ 2560) (hR9 : 20 ≤ hR) (W0 : LW G A AO b d σ oad (mR σ) wf H) (hS : va_S (fun q => A q ∨ AO q) s.heap H locs) (hl : lv_has ls 13 [(0, .ref sx), (1, .ref b), (2, .ref (oad (0, 0))), (3, .ref (oad (0, 1))), (4, .int 1)]) (hrc : cells + 1 ≤ rc) (hrs : slots + 3 ≤ rs) (kend : ∀ (H : Heap) (locs : List Loc) (ls : Array Slot) (cells1 slots1 : Nat), va_S (fun q => A q ∨ AO q) s.heap H locs → cells1 ≤ cells + 1 → slots1 ≤ slots + 3 → W p l e (RM hR rc rs) s m args below meth c H locs cells1 slots1 Q (F0 m 1335 ls [.int 1])) : W p l e (RM hR rc rs) s m args below meth c H locs cells slots Q (F0 m 1318 ls []) := by
  refine lv_iload X.ex X.co dL_law_1318 (lv_at hl 4 rfl) ?_
  refine lv_if_eq (tgt := 1334) X.ex X.co dL_law_1320 (by decide) (fun c_1 => ?_) (fun c_1 => ?_)
  · exact absurd c_1 (by decide)
  · refine lv_aload_n X.ex X.co dL_law_1323 rfl (lv_at hl 1 rfl) ?_
    refine k_cnt X ce_X9_isConsistent mn_5 (c_X9_isConsistent l G A hAg b σ W0.1.1.1.1 W0.1.1.1.2 W0.1.1.2) (g0.step hS hA2) W0 hdis (r := fIsConsistent σ) rfl (v := 1) rfl rfl (by omega) rfl hl.1 rfl (Nat.le_of_ble_eq_true rfl) dL_law_1324 (by omega) (by omega) hS (fun q h => Or.inl h) (fun H locs W0 hz hk9 hS => ?_)
    refine lv_if_eq (tgt := 1334) X.ex X.co dL_law_1327 (by decide) (fun c_2 => ?_) (fun c_2 => ?_)
    · exact absurd c_2 (by decide)
    · refine lv_iconst (v := 1) X.ex X.co dL_law_1330 (by decide) ?_
      refine lv_goto (tgt := 1335) X.ex X.co dL_law_1331 (by decide) ?_
      exact kend H locs ls _ _ hS (by omega) (by omega)
end TAIL
section LALL
variable {p : Program} {l : Launch} {e : Env} {hR rc rs : Nat} {s : State} {m : MethodId} {args : Array Value} {below : List Frame} {meth : Method} {c : Code} {Q : State → Prop} {G : GT} {sx L : Nat} {xs : Nat → Int32} {ls : Array Slot}
/-- the law from its first instruction to its last -/
theorem law_all (hst : l.stackTraces = false) (X : CF p s m args meth c cL_law 13 "CourseForgeLaw" (some .boolean)) (g0 : GG G s s.heap) (hAg : ∀ q, s.heap.size ≤ q → gA G q) (hX : va_X sx L xs s s.heap) (hxl : sx < s.heap.size) (hL : L ≤ 2560) (hl : lv_has ls 13 [(0, .ref sx)]) (hR9 : 20 ≤ hR) (h1 : 101000 ≤ rc) (h2 : 2710000 ≤ rs)
    (kend : ∀ (A3 : Nat → Prop) (H : Heap) (locs : List Loc) (ls : Array Slot) (cells slots : Nat), (∀ q, A3 q → s.heap.size ≤ q) → va_S A3 s.heap H locs → cells ≤ rc → slots ≤ rs → W p l e (RM hR rc rs) s m args below meth c H locs cells slots Q (F0 m 1335 ls [.int 1])) :
    W p l e (RM hR rc rs) s m args below meth c s.heap [] 0 0 Q (F0 m 0 ls []) := by
  have hS : va_S (fun q => s.heap.size ≤ q) s.heap s.heap [] := va_S.rf
  refine f_new X g0.1 (fw.nil (ad := fun _ => 0) (en := fun _ => .inr (0, [])) (A := fun q => s.heap.size ≤ q)) hS (fun q h => h) (0, 0) (fun z => z) (ci := 14) okX9 rfl mn_0 m_40 m_1 [.null, .null, .null, .null, .null, .null, .null, .null, .null, .null, .int 0] (by intro j hj; match j, hj with | 0, _ => rfl | 1, _ => rfl | 2, _ => rfl | 3, _ => rfl | 4, _ => rfl | 5, _ => rfl | 6, _ => rfl | 7, _ => rfl | 8, _ => rfl | 9, _ => rfl | 10, _ => rfl | n + 11, h => exact absurd h (by omega)) (by show _ ≤ rc; omega) (by show _ ≤ rs; omega) dL_law_0 (fun q H F hS => ?_)
  refine lv_dup X.ex X.co dL_law_3 rfl ?_
  refine q_cI X ce_X9_init mn_1 (c_X9_init l G (fun q => s.heap.size ≤ q) hAg (iup (fun _ => 0) (0, 0) q) (iup (fun _ => .inr (0, [])) (0, 0) _) (iup_s _ _ _)) (g0.step hS hAg) ⟨F, fun q hq => Nat.le_trans hS.1 hq⟩ (by omega) rfl hl.1 rfl (Nat.le_of_ble_eq_true rfl) dL_law_4 (by omega) (by omega) hS (fun _ h => h) (fun v0 H locs hB hz hk9 hS => ?_)
  obtain ⟨rfl, hCB⟩ := hB
  refine lv_astore_n (lv' := [(1, .ref q), (0, .ref sx)]) X.ex X.co dL_law_7 rfl hl (by decide) rfl (fun ls hl => ?_)
  refine lv_bipush (v := 30) X.ex X.co dL_law_8 (by decide) ?_
  refine k_newi X g0.1 hS (N' := 30) (by decide) (by decide) (by decide) (by show _ ≤ rc; omega) (by show _ ≤ rs; omega) dL_law_10 (fun q1 H1 hq1 hat1 hz1 ho1 hS1 => ?_)
  refine lv_astore_n (lv' := [(2, .ref q1), (1, .ref q), (0, .ref sx)]) X.ex X.co dL_law_12 rfl hl (by decide) rfl (fun ls hl => ?_)
  refine lv_bipush (v := 30) X.ex X.co dL_law_13 (by decide) ?_
  refine k_newz X g0.1 hS1 (N' := 30) (by decide) (by decide) (by decide) (by show _ ≤ rc; omega) (by show _ ≤ rs; omega) dL_law_15 (fun q2 H2 hq2 hat2 hz2 ho2 hS2 => ?_)
  refine lv_astore_n (lv' := [(3, .ref q2), (2, .ref q1), (1, .ref q), (0, .ref sx)]) X.ex X.co dL_law_17 rfl hl (by decide) rfl (fun ls hl => ?_)
  have hge := hS.1
  have hne : q1 ≠ q2 := by omega
  have W0 : LW G (fun x => s.heap.size ≤ x ∧ ¬ (x = q1 ∨ x = q2)) (fun x => x = q1 ∨ x = q2) q 0 sg0 (fun j => if j = (0, 1) then q2 else q1) (fun _ => 0) (fun _ => 0) H2 :=
    ⟨Lw_0, CB_old (CB_old (hCB.wd fun x h3 h4 => ⟨h3, by omega⟩) ho1) ho2, fun x hx => ⟨by omega, by omega⟩, aW.mk ((ho2 q1 (by omega)).trans hat1) hat2 hne⟩
  have hA2 : ∀ x, (fun x => (fun x => s.heap.size ≤ x ∧ ¬ (x = q1 ∨ x = q2)) x ∨ (fun x => x = q1 ∨ x = q2) x) x → s.heap.size ≤ x := fun x h => by
    rcases h with h | h | h
    · exact h.1
    · omega
    · omega
  have hS3 : va_S (fun x => (fun x => s.heap.size ≤ x ∧ ¬ (x = q1 ∨ x = q2)) x ∨ (fun x => x = q1 ∨ x = q2) x) s.heap H2 _ := hS2.up fun x hx => by
    rcases Classical.em (x = q1 ∨ x = q2) with z | z
    · exact Or.inr z
    · exact Or.inl ⟨hx, z⟩
  have hxA : ¬ (fun x => (fun x => s.heap.size ≤ x ∧ ¬ (x = q1 ∨ x = q2)) x ∨ (fun x => x = q1 ∨ x = q2) x) sx := fun z => absurd (hA2 sx z) (by omega)
  refine law_co (A := (fun x => s.heap.size ≤ x ∧ ¬ (x = q1 ∨ x = q2))) (AO := (fun x => x = q1 ∨ x = q2)) hst (fun x h => hAg x h.1) (fun x h => hAg x (hA2 x h)) (fun x h => h.2) X g0 hX hxl hxA hL hR9 W0 hS3 (lv_sub hl [3, 2, 1, 0] rfl) (by omega) (by omega) (fun σ H locs ls cells1 slots1 W0 hst9 hS hl hc hs => ?_)
  refine lv_iconst (v := 0) X.ex X.co dL_law_135 (by decide) ?_
  refine lv_istore (lv' := [(5, .int 0), (0, .ref sx), (1, .ref q), (2, .ref ((fun j => if j = (0, 1) then q2 else q1 : I2 → Nat) (0, 0))), (3, .ref ((fun j => if j = (0, 1) then q2 else q1 : I2 → Nat) (0, 1))), (4, .int 1)]) X.ex X.co dL_law_136 hl (by decide) rfl (fun ls hl => ?_)
  have hpk := pkN_lt (xs := xs) (L := L) (i := 2) (m := 4) (by omega)
  exact law_loop (A := (fun x => s.heap.size ≤ x ∧ ¬ (x = q1 ∨ x = q2))) (AO := (fun x => x = q1 ∨ x = q2)) hst (fun x h => hAg x h.1) (fun x h => hAg x (hA2 x h)) (fun x h => h.2) X g0 hX hxl hxA hL hR9 40 2100 (by omega) (by omega) (fun d σ wf H locs ls cells slots W0 hS hl hc hs => law_tail hst (fun x h => hAg x h.1) (fun x h => hAg x (hA2 x h)) (fun x h => h.2) X g0 hX hxl hxA hL hR9 W0 hS hl (by omega) (by omega) (fun H locs ls c1 s1 hS hc1 hs1 => kend _ H locs ls c1 s1 hA2 hS (by omega) (by omega))) 80 0 (by omega) 0 σ (fun _ => 0) H locs ls _ _ W0 (fun c hc => absurd rfl hc) (by unfold LZ; omega) hS (lv_sub hl [1, 2, 3, 4, 5, 0] rfl) (by omega) (by omega)
end LALL
