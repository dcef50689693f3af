theorem and63 (x : Int32) : ∃ k, k < 64 ∧ x &&& 63 = nI k := ⟨(x &&& 63).toBitVec.toNat, by
  rw [Int32.toBitVec_and, BitVec.toNat_and]
  exact Nat.lt_of_le_of_lt Nat.and_le_right (by decide), nI_tn _⟩
theorem sub5 : ∀ L, L < 2561 → (nI L - 5).toInt = (L : Int) - 5 := by decide +kernel
theorem cmp5 {L i : Nat} (hL : L ≤ 2560) (hi : i < 2 ^ 31) (h : ¬ nI L - 5 < nI i) : i + 5 ≤ L := by
  rw [Int32.lt_iff_toInt_lt, sub5 L (by omega), nI_toInt hi] at h
  omega
theorem cmp5t {L i : Nat} (hL : L ≤ 2560) (hi : i < 2 ^ 31) (h : nI L - 5 < nI i) : L < i + 5 := by
  rw [Int32.lt_iff_toInt_lt, sub5 L (by omega), nI_toInt hi] at h
  omega
section LOOP
variable {p : Program} {l : Launch} {e : Env} {hR rc rs : Nat} {s : State} {m : MethodId} {args : Array Value} {below : List Frame} {meth : Method} {c : Code} {Q : State → Prop}
variable {G : GT} {Ac Am AO : Nat → Prop} {b L x : Nat} {xs : Nat → Int32} {mad oad : I2 → Nat}
set_option maxHeartbeats 4000000 in
set_option maxRecDepth 100000 in
theorem law_loop (hst : l.stackTraces = false) (hAc : ∀ q, Ac q → gA G q) (hAm : ∀ q, Am q → gA G q) (hA3 : ∀ q, (fun q => Ac q ∨ AO q ∨ Am q) q → gA G q) (d1 : ∀ q, Ac q → ¬ AO q) (d2 : ∀ q, Ac q → ¬ Am q) (d3 : ∀ q, Am q → ¬ AO q) (X : CF p s m args meth c cL_law 9 "CourseForgeLaw" (some .boolean)) (g0 : GG G s s.heap) (hX : va_X b L xs s s.heap) (hbl : b < s.heap.size) (hbA : ¬ (fun q => Ac q ∨ AO q ∨ Am q) b) (hR9 : 20 ≤ hR) (hL : L ≤ 2560) (c0 s0 : Nat) (hrc : c0 + 110 * 514 ≤ rc) (hrs : s0 + 2210 * 514 ≤ rs)
    (kend : ∀ (ρ : Sg) (f : Nat → Int64) (f2 : Nat → UInt64) (H : Heap) (locs : List Loc) (ls : Array Slot) (cells slots : Nat), lawW G Ac Am AO x mad oad ρ f f2 H → va_S (fun q => Ac q ∨ AO q ∨ Am q) s.heap H locs → ls.size = 9 → cells ≤ rc → slots ≤ rs → W p l e (RM hR rc rs) s m args below meth c H locs cells slots Q (F0 m 2354 ls [])) :
    ∀ (n j : Nat), L < 5 * j + 5 * n + 5 ∧ 5 * j ≤ L + 4 → ∀ (ρ : Sg) (f : Nat → Int64) (f2 : Nat → UInt64) (H : Heap) (locs : List Loc) (ls : Array Slot) (cells slots : Nat), lawW G Ac Am AO x mad oad ρ f f2 H → va_S (fun q => Ac q ∨ AO q ∨ Am q) s.heap H locs → lv_has ls 9 [(0, .ref b), (1, .ref x), (2, .ref (mad (0, 0))), (3, .ref (oad (0, 0))), (4, .ref (oad (0, 1))), (5, .int (nI (5 * j)))] → cells ≤ c0 + 110 * j → slots ≤ s0 + 2210 * j → W p l e (RM hR rc rs) s m args below meth c H locs cells slots Q (F0 m 28 ls []) := by
  intro n
  induction n with
  | zero =>
    intro j hj ρ f f2 H locs ls cells slots W0 hS hl hcc hss
    refine lv_iload X.ex X.co dL_law_28 (lv_at hl 5 rfl) ?_
    refine lv_aload_n X.ex X.co dL_law_30 rfl (lv_at hl 0 rfl) ?_
    refine va_slen X.ex X.co hX hbl hbA hS dL_law_31 ?_
    refine lv_iconst (v := 5) X.ex X.co dL_law_32 (by decide) ?_
    refine lv_isub X.ex X.co dL_law_33 ?_
    refine lv_icmp_gt (tgt := 2354) X.ex X.co dL_law_34 (by decide) (fun c_1 => ?_) (fun c_1 => ?_)
    · exact kend ρ f f2 H locs ls cells slots W0 hS hl.1 (by omega) (by omega)
    · exact absurd (cmp5 hL (by omega) c_1) (by omega)
  | succ n ih =>
    intro j hj ρ f f2 H locs ls cells slots W0 hS hl hcc hss
    refine lv_iload X.ex X.co dL_law_28 (lv_at hl 5 rfl) ?_
    refine lv_aload_n X.ex X.co dL_law_30 rfl (lv_at hl 0 rfl) ?_
    refine va_slen X.ex X.co hX hbl hbA hS dL_law_31 ?_
    refine lv_iconst (v := 5) X.ex X.co dL_law_32 (by decide) ?_
    refine lv_isub X.ex X.co dL_law_33 ?_
    refine lv_icmp_gt (tgt := 2354) X.ex X.co dL_law_34 (by decide) (fun c_1 => ?_) (fun c_1 => ?_)
    · exact kend ρ f f2 H locs ls cells slots W0 hS hl.1 (by omega) (by omega)
    · have hi5 : 5 * j + 5 ≤ L := cmp5 hL (by omega) c_1
      refine lv_aload_n X.ex X.co dL_law_37 rfl (lv_at hl 0 rfl) ?_
      refine lv_iload X.ex X.co dL_law_38 (lv_at hl 5 rfl) ?_
      refine va_sld X.ex X.co hX hbl hbA hS (i := nI (5 * j)) (vp_in_nI (show 5 * j < L by omega) (by omega)) dL_law_40 ?_
      rw [nI_clamp (show 5 * j < 2 ^ 31 by omega)]
      refine lv_bipush (v := 63) X.ex X.co dL_law_41 (by decide) ?_
      refine lv_iand X.ex X.co dL_law_43 ?_
      obtain ⟨k, hk, hkv⟩ := and63 (xs (5 * j))
      rw [hkv]
      have KK : ∀ (ρ : Sg) (f : Nat → Int64) (f2 : Nat → UInt64) (H : Heap) (locs : List Loc) (ls : Array Slot) (cells1 slots1 : Nat), lawW G Ac Am AO x mad oad ρ f f2 H → va_S (fun q => Ac q ∨ AO q ∨ Am q) s.heap H locs → lv_has ls 9 [(0, .ref b), (1, .ref x), (2, .ref (mad (0, 0))), (3, .ref (oad (0, 0))), (4, .ref (oad (0, 1))), (5, .int (nI (5 * j)))] → cells1 ≤ cells + 110 → slots1 ≤ slots + 2210 → W p l e (RM hR rc rs) s m args below meth c H locs cells1 slots1 Q (F0 m 2348 ls []) := by
        intro ρ f f2 H locs ls cells1 slots1 W0 hS hl hc1 hs1
        refine lv_iinc (v := nI (5 * (j + 1))) (lv' := [(5, .int (nI (5 * (j + 1)))), (0, .ref b), (1, .ref x), (2, .ref (mad (0, 0))), (3, .ref (oad (0, 0))), (4, .ref (oad (0, 1)))]) X.ex X.co dL_law_2348 hl (k := 5) rfl (show nI (5 * j) + Int32.ofInt 5 = nI (5 * (j + 1)) from (nI_add (5 * j) 5).trans (by rw [show 5 * j + 5 = 5 * (j + 1) by omega])) (by decide) rfl (fun ls hl => ?_)
        refine lv_goto (tgt := 28) X.ex X.co dL_law_2351 (by decide) ?_
        exact ih (j + 1) (by omega) ρ f f2 H locs ls cells1 slots1 W0 hS (lv_sub hl [1, 2, 3, 4, 5, 0] rfl) (by omega) (by omega)
      rcases Nat.lt_or_ge k 38 with hk8 | hk8
      · have hc : k = 0 ∨ k = 1 ∨ k = 2 ∨ k = 3 ∨ k = 4 ∨ k = 5 ∨ k = 6 ∨ k = 7 ∨ k = 8 ∨ k = 9 ∨ k = 10 ∨ k = 11 ∨ k = 12 ∨ k = 13 ∨ k = 14 ∨ k = 15 ∨ k = 16 ∨ k = 17 ∨ k = 18 ∨ k = 19 ∨ k = 20 ∨ k = 21 ∨ k = 22 ∨ k = 23 ∨ k = 24 ∨ k = 25 ∨ k = 26 ∨ k = 27 ∨ k = 28 ∨ k = 29 ∨ k = 30 ∨ k = 31 ∨ k = 32 ∨ k = 33 ∨ k = 34 ∨ k = 35 ∨ k = 36 ∨ k = 37 := by omega
        rcases hc with rfl | rfl | rfl | rfl | rfl | rfl | rfl | rfl | rfl | rfl | rfl | rfl | rfl | rfl | rfl | rfl | rfl | rfl | rfl | rfl | rfl | rfl | rfl | rfl | rfl | rfl | rfl | rfl | rfl | rfl | rfl | rfl | rfl | rfl | rfl | rfl | rfl | rfl
        · exact lv_tableIn X.ex X.co dL_law_44 (off := 168) (tgt := 212) (by decide) (by decide) (by decide) (by decide) (law_0 hst hAc hAm hA3 d1 d2 d3 X g0 hX hbl hbA hR9 hi5 hL W0 hS (lv_sub hl [0, 1, 2, 3, 4, 5] rfl) (by omega) (by omega) KK)
        · exact lv_tableIn X.ex X.co dL_law_44 (off := 236) (tgt := 280) (by decide) (by decide) (by decide) (by decide) (law_1 hst hAc hAm hA3 d1 d2 d3 X g0 hX hbl hbA hR9 hi5 hL W0 hS (lv_sub hl [0, 1, 2, 3, 4, 5] rfl) (by omega) (by omega) KK)
        · exact lv_tableIn X.ex X.co dL_law_44 (off := 292) (tgt := 336) (by decide) (by decide) (by decide) (by decide) (law_2 hst hAc hAm hA3 d1 d2 d3 X g0 hX hbl hbA hR9 hi5 hL W0 hS (lv_sub hl [0, 1, 2, 3, 4, 5] rfl) (by omega) (by omega) KK)
        · exact lv_tableIn X.ex X.co dL_law_44 (off := 360) (tgt := 404) (by decide) (by decide) (by decide) (by decide) (law_3 hst hAc hAm hA3 d1 d2 d3 X g0 hX hbl hbA hR9 hi5 hL W0 hS (lv_sub hl [0, 1, 2, 3, 4, 5] rfl) (by omega) (by omega) KK)
        · exact lv_tableIn X.ex X.co dL_law_44 (off := 452) (tgt := 496) (by decide) (by decide) (by decide) (by decide) (law_4 hst hAc hAm hA3 d1 d2 d3 X g0 hX hbl hbA hR9 hi5 hL W0 hS (lv_sub hl [0, 1, 2, 3, 4, 5] rfl) (by omega) (by omega) KK)
        · exact lv_tableIn X.ex X.co dL_law_44 (off := 532) (tgt := 576) (by decide) (by decide) (by decide) (by decide) (law_5 hst hAc hAm hA3 d1 d2 d3 X g0 hX hbl hbA hR9 hi5 hL W0 hS (lv_sub hl [0, 1, 2, 3, 4, 5] rfl) (by omega) (by omega) KK)
        · exact lv_tableIn X.ex X.co dL_law_44 (off := 588) (tgt := 632) (by decide) (by decide) (by decide) (by decide) (law_6 hst hAc hAm hA3 d1 d2 d3 X g0 hX hbl hbA hR9 hi5 hL W0 hS (lv_sub hl [0, 1, 2, 3, 4, 5] rfl) (by omega) (by omega) KK)
        · exact lv_tableIn X.ex X.co dL_law_44 (off := 644) (tgt := 688) (by decide) (by decide) (by decide) (by decide) (law_7 hst hAc hAm hA3 d1 d2 d3 X g0 hX hbl hbA hR9 hi5 hL W0 hS (lv_sub hl [0, 1, 2, 3, 4, 5] rfl) (by omega) (by omega) KK)
        · exact lv_tableIn X.ex X.co dL_law_44 (off := 712) (tgt := 756) (by decide) (by decide) (by decide) (by decide) (law_8 hst hAc hAm hA3 d1 d2 d3 X g0 hX hbl hbA hR9 hi5 hL W0 hS (lv_sub hl [0, 1, 2, 3, 4, 5] rfl) (by omega) (by omega) KK)
        · exact lv_tableIn X.ex X.co dL_law_44 (off := 804) (tgt := 848) (by decide) (by decide) (by decide) (by decide) (law_9 hst hAc hAm hA3 d1 d2 d3 X g0 hX hbl hbA hR9 hi5 hL W0 hS (lv_sub hl [0, 1, 2, 3, 4, 5] rfl) (by omega) (by omega) KK)
        · exact lv_tableIn X.ex X.co dL_law_44 (off := 817) (tgt := 861) (by decide) (by decide) (by decide) (by decide) (law_10 hst hAc hAm hA3 d1 d2 d3 X g0 hX hbl hbA hR9 hi5 hL W0 hS (lv_sub hl [0, 1, 2, 3, 4, 5] rfl) (by omega) (by omega) KK)
        · exact lv_tableIn X.ex X.co dL_law_44 (off := 873) (tgt := 917) (by decide) (by decide) (by decide) (by decide) (law_11 hst hAc hAm hA3 d1 d2 d3 X g0 hX hbl hbA hR9 hi5 hL W0 hS (lv_sub hl [0, 1, 2, 3, 4, 5] rfl) (by omega) (by omega) KK)
        · exact lv_tableIn X.ex X.co dL_law_44 (off := 929) (tgt := 973) (by decide) (by decide) (by decide) (by decide) (law_12 hst hAc hAm hA3 d1 d2 d3 X g0 hX hbl hbA hR9 hi5 hL W0 hS (lv_sub hl [0, 1, 2, 3, 4, 5] rfl) (by omega) (by omega) KK)
        · exact lv_tableIn X.ex X.co dL_law_44 (off := 997) (tgt := 1041) (by decide) (by decide) (by decide) (by decide) (law_13 hst hAc hAm hA3 d1 d2 d3 X g0 hX hbl hbA hR9 hi5 hL W0 hS (lv_sub hl [0, 1, 2, 3, 4, 5] rfl) (by omega) (by omega) KK)
        · exact lv_tableIn X.ex X.co dL_law_44 (off := 1053) (tgt := 1097) (by decide) (by decide) (by decide) (by decide) (law_14 hst hAc hAm hA3 d1 d2 d3 X g0 hX hbl hbA hR9 hi5 hL W0 hS (lv_sub hl [0, 1, 2, 3, 4, 5] rfl) (by omega) (by omega) KK)
        · exact lv_tableIn X.ex X.co dL_law_44 (off := 1109) (tgt := 1153) (by decide) (by decide) (by decide) (by decide) (law_15 hst hAc hAm hA3 d1 d2 d3 X g0 hX hbl hbA hR9 hi5 hL W0 hS (lv_sub hl [0, 1, 2, 3, 4, 5] rfl) (by omega) (by omega) KK)
        · exact lv_tableIn X.ex X.co dL_law_44 (off := 1177) (tgt := 1221) (by decide) (by decide) (by decide) (by decide) (law_16 hst hAc hAm hA3 d1 d2 d3 X g0 hX hbl hbA hR9 hi5 hL W0 hS (lv_sub hl [0, 1, 2, 3, 4, 5] rfl) (by omega) (by omega) KK)
        · exact lv_tableIn X.ex X.co dL_law_44 (off := 1245) (tgt := 1289) (by decide) (by decide) (by decide) (by decide) (law_17 hst hAc hAm hA3 d1 d2 d3 X g0 hX hbl hbA hR9 hi5 hL W0 hS (lv_sub hl [0, 1, 2, 3, 4, 5] rfl) (by omega) (by omega) KK)
        · exact lv_tableIn X.ex X.co dL_law_44 (off := 1313) (tgt := 1357) (by decide) (by decide) (by decide) (by decide) (law_18 hst hAc hAm hA3 d1 d2 d3 X g0 hX hbl hbA hR9 hi5 hL W0 hS (lv_sub hl [0, 1, 2, 3, 4, 5] rfl) (by omega) (by omega) KK)
        · exact lv_tableIn X.ex X.co dL_law_44 (off := 1369) (tgt := 1413) (by decide) (by decide) (by decide) (by decide) (law_19 hst hAc hAm hA3 d1 d2 d3 X g0 hX hbl hbA hR9 hi5 hL W0 hS (lv_sub hl [0, 1, 2, 3, 4, 5] rfl) (by omega) (by omega) KK)
        · exact lv_tableIn X.ex X.co dL_law_44 (off := 1425) (tgt := 1469) (by decide) (by decide) (by decide) (by decide) (law_20 hst hAc hAm hA3 d1 d2 d3 X g0 hX hbl hbA hR9 hi5 hL W0 hS (lv_sub hl [0, 1, 2, 3, 4, 5] rfl) (by omega) (by omega) KK)
        · exact lv_tableIn X.ex X.co dL_law_44 (off := 1481) (tgt := 1525) (by decide) (by decide) (by decide) (by decide) (law_21 hst hAc hAm hA3 d1 d2 d3 X g0 hX hbl hbA hR9 hi5 hL W0 hS (lv_sub hl [0, 1, 2, 3, 4, 5] rfl) (by omega) (by omega) KK)
        · exact lv_tableIn X.ex X.co dL_law_44 (off := 1494) (tgt := 1538) (by decide) (by decide) (by decide) (by decide) (law_22 hst hAc hAm hA3 d1 d2 d3 X g0 hX hbl hbA hR9 hi5 hL W0 hS (lv_sub hl [0, 1, 2, 3, 4, 5] rfl) (by omega) (by omega) KK)
        · exact lv_tableIn X.ex X.co dL_law_44 (off := 1550) (tgt := 1594) (by decide) (by decide) (by decide) (by decide) (law_23 hst hAc hAm hA3 d1 d2 d3 X g0 hX hbl hbA hR9 hi5 hL W0 hS (lv_sub hl [0, 1, 2, 3, 4, 5] rfl) (by omega) (by omega) KK)
        · exact lv_tableIn X.ex X.co dL_law_44 (off := 1630) (tgt := 1674) (by decide) (by decide) (by decide) (by decide) (law_24 hst hAc hAm hA3 d1 d2 d3 X g0 hX hbl hbA hR9 hi5 hL W0 hS (lv_sub hl [0, 1, 2, 3, 4, 5] rfl) (by omega) (by omega) KK)
        · exact lv_tableIn X.ex X.co dL_law_44 (off := 1643) (tgt := 1687) (by decide) (by decide) (by decide) (by decide) (law_25 hst hAc hAm hA3 d1 d2 d3 X g0 hX hbl hbA hR9 hi5 hL W0 hS (lv_sub hl [0, 1, 2, 3, 4, 5] rfl) (by omega) (by omega) KK)
        · exact lv_tableIn X.ex X.co dL_law_44 (off := 1699) (tgt := 1743) (by decide) (by decide) (by decide) (by decide) (law_26 hst hAc hAm hA3 d1 d2 d3 X g0 hX hbl hbA hR9 hi5 hL W0 hS (lv_sub hl [0, 1, 2, 3, 4, 5] rfl) (by omega) (by omega) KK)
        · exact lv_tableIn X.ex X.co dL_law_44 (off := 1767) (tgt := 1811) (by decide) (by decide) (by decide) (by decide) (law_27 hst hAc hAm hA3 d1 d2 d3 X g0 hX hbl hbA hR9 hi5 hL W0 hS (lv_sub hl [0, 1, 2, 3, 4, 5] rfl) (by omega) (by omega) KK)
        · exact lv_tableIn X.ex X.co dL_law_44 (off := 1835) (tgt := 1879) (by decide) (by decide) (by decide) (by decide) (law_28 hst hAc hAm hA3 d1 d2 d3 X g0 hX hbl hbA hR9 hi5 hL W0 hS (lv_sub hl [0, 1, 2, 3, 4, 5] rfl) (by omega) (by omega) KK)
        · exact lv_tableIn X.ex X.co dL_law_44 (off := 1898) (tgt := 1942) (by decide) (by decide) (by decide) (by decide) (law_29 hst hAc hAm hA3 d1 d2 d3 X g0 hX hbl hbA hR9 hi5 hL W0 hS (lv_sub hl [0, 1, 2, 3, 4, 5] rfl) (by omega) (by omega) KK)
        · exact lv_tableIn X.ex X.co dL_law_44 (off := 1966) (tgt := 2010) (by decide) (by decide) (by decide) (by decide) (law_30 hst hAc hAm hA3 d1 d2 d3 X g0 hX hbl hbA hR9 hi5 hL W0 hS (lv_sub hl [0, 1, 2, 3, 4, 5] rfl) (by omega) (by omega) KK)
        · exact lv_tableIn X.ex X.co dL_law_44 (off := 1979) (tgt := 2023) (by decide) (by decide) (by decide) (by decide) (law_31 hst hAc hAm hA3 d1 d2 d3 X g0 hX hbl hbA hR9 hi5 hL W0 hS (lv_sub hl [0, 1, 2, 3, 4, 5] rfl) (by omega) (by omega) KK)
        · exact lv_tableIn X.ex X.co dL_law_44 (off := 2035) (tgt := 2079) (by decide) (by decide) (by decide) (by decide) (law_32 hst hAc hAm hA3 d1 d2 d3 X g0 hX hbl hbA hR9 hi5 hL W0 hS (lv_sub hl [0, 1, 2, 3, 4, 5] rfl) (by omega) (by omega) KK)
        · exact lv_tableIn X.ex X.co dL_law_44 (off := 2048) (tgt := 2092) (by decide) (by decide) (by decide) (by decide) (law_33 hst hAc hAm hA3 d1 d2 d3 X g0 hX hbl hbA hR9 hi5 hL W0 hS (lv_sub hl [0, 1, 2, 3, 4, 5] rfl) (by omega) (by omega) KK)
        · exact lv_tableIn X.ex X.co dL_law_44 (off := 2113) (tgt := 2157) (by decide) (by decide) (by decide) (by decide) (law_34 hst hAc hAm hA3 d1 d2 d3 X g0 hX hbl hbA hR9 hi5 hL W0 hS (lv_sub hl [0, 1, 2, 3, 4, 5] rfl) (by omega) (by omega) KK)
        · exact lv_tableIn X.ex X.co dL_law_44 (off := 2179) (tgt := 2223) (by decide) (by decide) (by decide) (by decide) (law_35 hst hAc hAm hA3 d1 d2 d3 X g0 hX hbl hbA hR9 hi5 hL W0 hS (lv_sub hl [0, 1, 2, 3, 4, 5] rfl) (by omega) (by omega) KK)
        · exact lv_tableIn X.ex X.co dL_law_44 (off := 2192) (tgt := 2236) (by decide) (by decide) (by decide) (by decide) (law_36 hst hAc hAm hA3 d1 d2 d3 X g0 hX hbl hbA hR9 hi5 hL W0 hS (lv_sub hl [0, 1, 2, 3, 4, 5] rfl) (by omega) (by omega) KK)
        · exact lv_tableIn X.ex X.co dL_law_44 (off := 2248) (tgt := 2292) (by decide) (by decide) (by decide) (by decide) (law_37 hst hAc hAm hA3 d1 d2 d3 X g0 hX hbl hbA hR9 hi5 hL W0 hS (lv_sub hl [0, 1, 2, 3, 4, 5] rfl) (by omega) (by omega) KK)
      · refine lv_tableOut X.ex X.co dL_law_44 (tgt := 2348) (Or.inr (by rw [nI_toInt (by omega)]; omega)) (by decide) ?_
        exact KK ρ f f2 H locs ls cells slots W0 hS (lv_sub hl [0, 1, 2, 3, 4, 5] rfl) (by omega) (by omega)
end LOOP
