/-! ===== the law's entry ===== -/
set_option maxHeartbeats 4000000 in
theorem ey_gg {s : State} {A : Array Value} (hts : ∀ w ∈ lw_tbl, w.before A s = true) (hgv : (Jvm.Cond.and given_1 narrow_1).before A s = true) : ∃ G : GT, GG G s s.heap ∧ ∀ q, s.heap.size ≤ q → gA G q := by
  obtain ⟨n1, n45⟩ := ey_nw hgv
  obtain ⟨D, hD⟩ := ey_kc hts
  obtain ⟨cy, hcy⟩ := ey_ka hts
  have hA : ∀ a : Nat, a < s.heap.size → ¬ (fun q : Nat => s.heap.size ≤ q) a := fun a h1 h2 => absurd h1 (Nat.not_lt.mpr h2)
  obtain ⟨f, g, hS, hev⟩ := ey_txt n45 hA
  obtain ⟨t0, q0, T0⟩ := va_Tof (s := s) (args := A) (tm := .static "java/util/ArrayList" "DEFAULTCAPACITY_EMPTY_ELEMENTDATA" "[Ljava/lang/Object;") (ty := .object "java/lang/Object") (N := 0) (f := fun _ => .null) (A := fun q : Nat => s.heap.size ≤ q) (by decide) (ey_at n1 3 (by decide +kernel)) (va_eqt (ey_at n1 5 (by decide +kernel))) (fun j hj => absurd hj (Nat.not_lt_zero j)) hA
  obtain ⟨d1, q1, T1⟩ := va_Tof (s := s) (args := A) (tm := .static "java/lang/Integer" "DigitOnes" "[B") (ty := .byte) (N := 100) (f := fun j => .int (nI (48 + j % 10))) (A := fun q : Nat => s.heap.size ≤ q) (by decide) (ey_at n1 14 (by decide +kernel)) (va_eqt (ey_at n1 15 (by decide +kernel))) (fun j hj => va_eqt (ey_at n1 _ (ey_d1 j hj))) hA
  obtain ⟨d2, q2, T2⟩ := va_Tof (s := s) (args := A) (tm := .static "java/lang/Integer" "DigitTens" "[B") (ty := .byte) (N := 100) (f := fun j => .int (nI (48 + j / 10))) (A := fun q : Nat => s.heap.size ≤ q) (by decide) (ey_at n1 117 (by decide +kernel)) (va_eqt (ey_at n1 118 (by decide +kernel))) (fun j hj => va_eqt (ey_at n1 _ (ey_d2 j hj))) hA
  have Z0 := va_Zof (s := s) (args := A) (C := "java/util/ArrayList") (n := "DEFAULTCAPACITY_EMPTY_ELEMENTDATA") (d := "[Ljava/lang/Object;") (A := fun q : Nat => s.heap.size ≤ q) (hts _ (ey_tb 59 (by decide +kernel))) (hts _ (ey_tb 4 (by decide +kernel))) q0 hA
  have Z1 := va_Zof (s := s) (args := A) (C := "java/lang/Integer") (n := "DigitOnes") (d := "[B") (A := fun q : Nat => s.heap.size ≤ q) (hts _ (ey_tb 924 (by decide +kernel))) (hts _ (ey_tb 33 (by decide +kernel))) q1 hA
  have Z2 := va_Zof (s := s) (args := A) (C := "java/lang/Integer") (n := "DigitTens") (d := "[B") (A := fun q : Nat => s.heap.size ≤ q) (hts _ (ey_tb 926 (by decide +kernel))) (hts _ (ey_tb 33 (by decide +kernel))) q2 hA
  have Z3 := va_Zof (s := s) (args := A) (C := "java/lang/String") (n := "COMPACT_STRINGS") (d := "Z") (A := fun q : Nat => s.heap.size ≤ q) (v := .int 1) (hts _ (ey_tb 82 (by decide +kernel))) (hts _ (ey_tb 7 (by decide +kernel))) (va_eqi (ey_at n1 6 (by decide +kernel))) hA
  have U1 : vx_Zq Bundle.tN "UNASSIGNED_STACK" Bundle.steD (fun q : Nat => s.heap.size ≤ q) s s.heap := vx_Zqof (args := A) (hts _ (ey_tb 280 (by decide +kernel))) (hts _ (ey_tb 9 (by decide +kernel))) (ey_at n1 7 (by decide +kernel)) hA
  have U2 : vx_Zq Bundle.tN "SUPPRESSED_SENTINEL" Bundle.listD (fun q : Nat => s.heap.size ≤ q) s s.heap := vx_Zqof (args := A) (hts _ (ey_tb 282 (by decide +kernel))) (hts _ (ey_tb 9 (by decide +kernel))) (ey_at n1 8 (by decide +kernel)) hA
  have U3 : va_Zq "jdk/internal/util/Preconditions" "SIOOBE_FORMATTER" "Ljava/util/function/BiFunction;" (fun q : Nat => s.heap.size ≤ q) s s.heap := va_Zqof (args := A) (hts _ (ey_tb 854 (by decide +kernel))) (hts _ (ey_tb 23 (by decide +kernel))) (ey_at n1 9 (by decide +kernel)) hA
  obtain ⟨mi, hmi⟩ := va_Mi.of (args := A) (s := s) (C := "[Ljava/lang/Object;") (ey_at n1 317 (by decide +kernel))
  obtain ⟨ad, e0, e1, e2, e4, e5, ef, eg⟩ := ey_ad f g t0 d1 d2 mi s.heap.size
  subst e0 e1 e2 e4
  have hG : ∀ q, gA (D, cy, ad) q → s.heap.size ≤ q := fun q h => by
    have h2 : ad 100 ≤ q := h
    omega
  have R0 : vk_R "CourseForge" sx_ans "answer " (f 0) s := vk_R.of (hts _ (ey_tb 1206 (by decide +kernel))) (hev 0 (by decide))
  have R1 : vk_R "CourseForge" sx_col ": " (f 1) s := vk_R.of (hts _ (ey_tb 1209 (by decide +kernel))) (hev 1 (by decide))
  have R2 : vk_R "CourseForge" sx_pas " passed" (f 2) s := vk_R.of (hts _ (ey_tb 1210 (by decide +kernel))) (hev 2 (by decide))
  have R3 : vk_R "CourseForge" sx_fai " failed" (f 3) s := vk_R.of (hts _ (ey_tb 1211 (by decide +kernel))) (hev 3 (by decide))
  have R4 : vk_R "CourseForge" sx_by " by " (f 4) s := vk_R.of (hts _ (ey_tb 1212 (by decide +kernel))) (hev 4 (by decide))
  rw [← ef 0 (by decide)] at R0
  rw [← ef 1 (by decide)] at R1
  rw [← ef 2 (by decide)] at R2
  rw [← ef 3 (by decide)] at R3
  rw [← ef 4 (by decide)] at R4
  have hS2 : vk_S 5 tLL tBL (fun i => ad (10 + i)) (fun i => ad (20 + i)) (gA (D, cy, ad)) s s.heap := by
    have h := hS.narrow hG
    refine ⟨fun i hi => ?_, fun i j hi hj z => h.2 i j hi hj ?_⟩
    · have h1 := h.1 i hi
      rw [← ef i hi, ← eg i hi] at h1
      exact h1
    · rw [← ef i hi, ← ef j hj]
      exact z
  refine ⟨(D, cy, ad), ⟨⟨hD, hcy⟩, ⟨va_AO.of (hts _ (ey_tb 456 (by decide +kernel))), ey_nx hts, ey_refs hts hgv, hmi, va_Dc.of (hts _ (ey_tb 1325 (by decide +kernel))), ⟨R0, R1, R2, R3, R4⟩, ey_sb hts, ey_cd hts, ey_nc n1⟩, ⟨U1.narrow hG, U2.narrow hG⟩, ⟨Z0.narrow hG, T0.narrow hG⟩, Z3.narrow hG, ⟨Z1.narrow hG, T1.narrow hG⟩, ⟨Z2.narrow hG, T2.narrow hG⟩, hS2, U3.narrow hG⟩, fun q h => ?_⟩
  show ad 100 ≤ q
  omega
theorem whole_start {p : Program} {e : Env} {s : State} {m : MethodId} {below : List Frame} {meth : Method} {c : Code} (l : Launch) (hflags : l.flags = flags0) {b L : Nat} {xs : Nat → Int32} (hL : L ≤ 260) (C0 : lw_At p s m meth c b L xs) : W p l e room_1 s m #[Value.ref b] below meth c s.heap [] 0 0 (lw_Z below #[Value.ref b] s) (entryFrame m ([Value.ref b] : List Value).toArray 13) := by
  obtain ⟨hx, hb, hr, hml, hown, hts, hX, hbl, hlocks, hgv⟩ := id C0
  obtain ⟨G, g0, hAg⟩ := ey_gg hts hgv
  have hst : l.stackTraces = false := by
    unfold Launch.stackTraces
    rw [hflags]
    decide
  have hl := lv_entry ([.ref b]) (n := 13) (Nat.le_of_ble_eq_true rfl)
  rw [lg_entry_eq]
  generalize (lg_sl ([.ref b]) ++ List.replicate (13 - (lg_sl ([.ref b])).length) Slot.unset).toArray = ls at hl ⊢
  have hl : lv_has ls 13 [(0, .ref b)] := hl
  exact law_fin hst hr ⟨⟨hx, hb, hml, hown, fun w hw => hts w (AW_lw hw)⟩, hr, hlocks⟩ g0 hAg hX hbl hL hl
