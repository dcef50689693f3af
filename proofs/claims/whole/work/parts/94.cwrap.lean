theorem ce_X9_addCohort : ceV yX9_addCohort cX9_addCohort 3 ((Option.some FieldType.int)) 2 := ⟨m_271, m_272, m_1, m_273, ⟨by decide, by decide, by decide +kernel⟩, by decide⟩
set_option maxHeartbeats 4000000 in
set_option maxRecDepth 100000 in
theorem c_L_addCohort (l : Launch) (hst : l.stackTraces = false) (G : GT) (A AO : Nat → Prop) (hAg : ∀ q, A q → gA G q) (hdis : ∀ q, A q → ¬ AO q) (b : Nat) (σ : Sg) (hI : MI σ) (hJ : MJ σ) (h0 : σ.1 0 0 = 0) (p0 p1 : Int32) (lv : I2 → Prop) (ad : I2 → Nat) (en : I2 → va_E) (i : I2) (hi : lv i) (ao : Nat) (hao : ad i = ao) (f : Nat → Int64) (he : en i = LgA G f) : Met l yL_addCohort (wofW yL_addCohort cL_addCohort 5 (some .int) [(0, 10, 13, 13), (0, 10, 17, 15)]) (RM 9 2 310) (cPre [.ref b, .int p0, .int p1, .ref ao] G (wPre G A AO b σ lv ad en)) (cQ (wB G A AO b (fAddCohort σ p0 p1) lv ad en i) (fun q => A q ∨ AO q)) 2 310 (fun q => A q ∨ AO q) := by
  refine mk_w (by decide) (Nat.le_of_ble_eq_true rfl) ?_
  intro p e s m args below meth c X ls hl g0 F htab
  have hS : va_S (fun q => A q ∨ AO q) s.heap s.heap [] := va_S.rf
  obtain ⟨fsB, hfB⟩ := CB_at F.1.1
  have hl : lv_has ls 5 [(0, .ref b), (1, .int p0), (2, .int p1), (3, .ref ao)] := hl
  show W p l e (RM 9 2 310) s m args below meth c s.heap [] 0 0 (MQ below (cQ (wB G A AO b (fAddCohort σ p0 p1) lv ad en i) (fun q => A q ∨ AO q)) args s 2 310 (fun q => A q ∨ AO q)) (F0 m 0 ls [])
  refine lv_aload_n X.ex X.co dL_addCohort_0 rfl (lv_at hl 3 rfl) ?_
  refine lv_iconst (v := 0) X.ex X.co dL_addCohort_1 (by decide) ?_
  refine lv_aload_n X.ex X.co dL_addCohort_2 rfl (lv_at hl 0 rfl) ?_
  refine lv_iload_n X.ex X.co dL_addCohort_3 rfl (lv_at hl 1 rfl) ?_
  refine lv_iload_n X.ex X.co dL_addCohort_4 rfl (lv_at hl 2 rfl) ?_
  refine w_V X ce_X9_addCohort m_270 (c_X9_addCohort l hst G A hAg b σ hI hJ h0 p0 p1) g0 F.1 hfB rfl (by decide) rfl hl.1 rfl (Nat.le_of_ble_eq_true rfl) dL_addCohort_5 (by omega) (by omega) hS (fun q h => Or.inl h) (fun E ce q9 H locs hB hz hk9 hS hc1 hc2 hc3 => ?_) (fun v0 H locs hB hz hk9 hS => ?_)
  · obtain ⟨k, hT, hk0, hCB⟩ := hB
    have hO : fw G.1 lv ad en AO H := F.2.kept (fun j hj => hk9 _ (F.2.lt hj) (fun z => hdis _ z (F.2.in hj)))
    rcases k with _ | _ | k
    · obtain rfl : "java/lang/IllegalArgumentException" = E := Option.some.inj hT
      refine vx_catch X.ow [] ⟨0, 10, 13, 13⟩ [⟨0, 10, 17, 15⟩] htab (fun z h => absurd h List.not_mem_nil) rfl (by decide) (X.ts _ m_268) (cd_at g0 (tb_2 (List.mem_of_getElem? (i := 36) (by decide +kernel)))) hc1 hc2 hc3 ?_
      refine lv_astore (lv' := [(4, .ref q9), (0, .ref b), (1, .int p0), (2, .int p1), (3, .ref ao)]) X.ex X.co dL_addCohort_13 hl (by decide) rfl (fun ls hl => ?_)
      refine lv_iconst (v := 1) X.ex X.co dL_addCohort_15 (by decide) ?_
      exact c_i X hS rfl rfl ⟨(by rw [hk0]; rfl), hCB, (by omega), f, by rw [iup_eq he]; exact hO, fun z => absurd (hk0.symm.trans z) (by omega)⟩ (by omega) (by omega) dL_addCohort_16
    · obtain rfl : "java/lang/IllegalStateException" = E := Option.some.inj hT
      refine vx_catch X.ow [⟨0, 10, 13, 13⟩] ⟨0, 10, 17, 15⟩ [] htab (List.forall_mem_cons.mpr ⟨Or.inr ⟨by decide, "java/lang/IllegalArgumentException", X.ts _ m_268, nc_at g0 (List.mem_of_getElem? (i := 0) rfl)⟩, (fun z h => absurd h List.not_mem_nil)⟩) rfl (by decide) (X.ts _ m_269) (cd_at g0 (tb_2 (List.mem_of_getElem? (i := 108) (by decide +kernel)))) hc1 hc2 hc3 ?_
      refine lv_astore (lv' := [(4, .ref q9), (0, .ref b), (1, .int p0), (2, .int p1), (3, .ref ao)]) X.ex X.co dL_addCohort_17 hl (by decide) rfl (fun ls hl => ?_)
      refine lv_iconst (v := 2) X.ex X.co dL_addCohort_19 (by decide) ?_
      exact c_i X hS rfl rfl ⟨(by rw [hk0]; rfl), hCB, (by omega), f, by rw [iup_eq he]; exact hO, fun z => absurd (hk0.symm.trans z) (by omega)⟩ (by omega) (by omega) dL_addCohort_20
    · exact absurd hT (by simp)
  · obtain ⟨rfl, hk0, hCB⟩ := hB
    have hO : fw G.1 lv ad en AO H := F.2.kept (fun j hj => hk9 _ (F.2.lt hj) (fun z => hdis _ z (F.2.in hj)))
    refine lv_i2l X.ex X.co dL_addCohort_8 rfl ?_
    refine w_last X g0.1 hO hS (fun q h => Or.inr h) hi hao he dL_addCohort_9 (fun H locs f1 hf1 hO hq hz2 hS => ?_)
    have hCB := hCB.kept (fun q hA _ => hq q (fun z => hdis q hA (by rw [z, ← hao]; exact F.2.in hi)))
    refine lv_goto (tgt := 21) X.ex X.co dL_addCohort_10 (by decide) ?_
    refine lv_iconst (v := 0) X.ex X.co dL_addCohort_21 (by decide) ?_
    exact c_i X hS rfl rfl ⟨(by rw [hk0]; rfl), hCB, (by omega), f1, hO, fun _ => hf1⟩ (by omega) (by omega) dL_addCohort_22
theorem ce_X9_addStudent : ceV yX9_addStudent cX9_addStudent 2 ((Option.some FieldType.int)) 1 := ⟨m_470, m_471, m_1, m_472, ⟨by decide, by decide, by decide +kernel⟩, by decide⟩
set_option maxHeartbeats 4000000 in
set_option maxRecDepth 100000 in
theorem c_L_addStudent (l : Launch) (hst : l.stackTraces = false) (G : GT) (A AO : Nat → Prop) (hAg : ∀ q, A q → gA G q) (hdis : ∀ q, A q → ¬ AO q) (b : Nat) (σ : Sg) (hI : MI σ) (hJ : MJ σ) (h0 : σ.1 0 0 = 0) (p0 : Int32) (lv : I2 → Prop) (ad : I2 → Nat) (en : I2 → va_E) (i : I2) (hi : lv i) (ao : Nat) (hao : ad i = ao) (f : Nat → Int64) (he : en i = LgA G f) : Met l yL_addStudent (wofW yL_addStudent cL_addStudent 4 (some .int) [(0, 9, 12, 21), (0, 9, 15, 15)]) (RM 9 2 310) (cPre [.ref b, .int p0, .ref ao] G (wPre G A AO b σ lv ad en)) (cQ (wB G A AO b (fAddStudent σ p0) lv ad en i) (fun q => A q ∨ AO q)) 2 310 (fun q => A q ∨ AO q) := by
  refine mk_w (by decide) (Nat.le_of_ble_eq_true rfl) ?_
  intro p e s m args below meth c X ls hl g0 F htab
  have hS : va_S (fun q => A q ∨ AO q) s.heap s.heap [] := va_S.rf
  obtain ⟨fsB, hfB⟩ := CB_at F.1.1
  have hl : lv_has ls 4 [(0, .ref b), (1, .int p0), (2, .ref ao)] := hl
  show W p l e (RM 9 2 310) s m args below meth c s.heap [] 0 0 (MQ below (cQ (wB G A AO b (fAddStudent σ p0) lv ad en i) (fun q => A q ∨ AO q)) args s 2 310 (fun q => A q ∨ AO q)) (F0 m 0 ls [])
  refine lv_aload_n X.ex X.co dL_addStudent_0 rfl (lv_at hl 2 rfl) ?_
  refine lv_iconst (v := 0) X.ex X.co dL_addStudent_1 (by decide) ?_
  refine lv_aload_n X.ex X.co dL_addStudent_2 rfl (lv_at hl 0 rfl) ?_
  refine lv_iload_n X.ex X.co dL_addStudent_3 rfl (lv_at hl 1 rfl) ?_
  refine w_V X ce_X9_addStudent m_469 (c_X9_addStudent l hst G A hAg b σ hI hJ h0 p0) g0 F.1 hfB rfl (by decide) rfl hl.1 rfl (Nat.le_of_ble_eq_true rfl) dL_addStudent_4 (by omega) (by omega) hS (fun q h => Or.inl h) (fun E ce q9 H locs hB hz hk9 hS hc1 hc2 hc3 => ?_) (fun v0 H locs hB hz hk9 hS => ?_)
  · obtain ⟨k, hT, hk0, hCB⟩ := hB
    have hO : fw G.1 lv ad en AO H := F.2.kept (fun j hj => hk9 _ (F.2.lt hj) (fun z => hdis _ z (F.2.in hj)))
    rcases k with _ | _ | k
    · obtain rfl : "java/lang/IndexOutOfBoundsException" = E := Option.some.inj hT
      refine vx_catch X.ow [] ⟨0, 9, 12, 21⟩ [⟨0, 9, 15, 15⟩] htab (fun z h => absurd h List.not_mem_nil) rfl (by decide) (X.ts _ m_445) (cd_at g0 (tb_2 (List.mem_of_getElem? (i := 235) (by decide +kernel)))) hc1 hc2 hc3 ?_
      refine lv_astore_n (lv' := [(3, .ref q9), (0, .ref b), (1, .int p0), (2, .ref ao)]) X.ex X.co dL_addStudent_12 rfl hl (by decide) rfl (fun ls hl => ?_)
      refine lv_iconst (v := 1) X.ex X.co dL_addStudent_13 (by decide) ?_
      exact c_i X hS rfl rfl ⟨(by rw [hk0]; rfl), hCB, (by omega), f, by rw [iup_eq he]; exact hO, fun z => absurd (hk0.symm.trans z) (by omega)⟩ (by omega) (by omega) dL_addStudent_14
    · obtain rfl : "java/lang/IllegalStateException" = E := Option.some.inj hT
      refine vx_catch X.ow [⟨0, 9, 12, 21⟩] ⟨0, 9, 15, 15⟩ [] htab (List.forall_mem_cons.mpr ⟨Or.inr ⟨by decide, "java/lang/IndexOutOfBoundsException", X.ts _ m_445, nc_at g0 (List.mem_of_getElem? (i := 11) rfl)⟩, (fun z h => absurd h List.not_mem_nil)⟩) rfl (by decide) (X.ts _ m_269) (cd_at g0 (tb_2 (List.mem_of_getElem? (i := 108) (by decide +kernel)))) hc1 hc2 hc3 ?_
      refine lv_astore_n (lv' := [(3, .ref q9), (0, .ref b), (1, .int p0), (2, .ref ao)]) X.ex X.co dL_addStudent_15 rfl hl (by decide) rfl (fun ls hl => ?_)
      refine lv_iconst (v := 2) X.ex X.co dL_addStudent_16 (by decide) ?_
      exact c_i X hS rfl rfl ⟨(by rw [hk0]; rfl), hCB, (by omega), f, by rw [iup_eq he]; exact hO, fun z => absurd (hk0.symm.trans z) (by omega)⟩ (by omega) (by omega) dL_addStudent_17
    · exact absurd hT (by simp)
  · obtain ⟨rfl, hk0, hCB⟩ := hB
    have hO : fw G.1 lv ad en AO H := F.2.kept (fun j hj => hk9 _ (F.2.lt hj) (fun z => hdis _ z (F.2.in hj)))
    refine lv_i2l X.ex X.co dL_addStudent_7 rfl ?_
    refine w_last X g0.1 hO hS (fun q h => Or.inr h) hi hao he dL_addStudent_8 (fun H locs f1 hf1 hO hq hz2 hS => ?_)
    have hCB := hCB.kept (fun q hA _ => hq q (fun z => hdis q hA (by rw [z, ← hao]; exact F.2.in hi)))
    refine lv_goto (tgt := 18) X.ex X.co dL_addStudent_9 (by decide) ?_
    refine lv_iconst (v := 0) X.ex X.co dL_addStudent_18 (by decide) ?_
    exact c_i X hS rfl rfl ⟨(by rw [hk0]; rfl), hCB, (by omega), f1, hO, fun _ => hf1⟩ (by omega) (by omega) dL_addStudent_19
theorem ce_X9_addLesson : ceV yX9_addLesson cX9_addLesson 3 ((Option.some FieldType.int)) 2 := ⟨m_505, m_506, m_1, m_507, ⟨by decide, by decide, by decide +kernel⟩, by decide⟩
set_option maxHeartbeats 4000000 in
set_option maxRecDepth 100000 in
theorem c_L_addLesson (l : Launch) (hst : l.stackTraces = false) (G : GT) (A AO : Nat → Prop) (hAg : ∀ q, A q → gA G q) (hdis : ∀ q, A q → ¬ AO q) (b : Nat) (σ : Sg) (hI : MI σ) (hJ : MJ σ) (h0 : σ.1 0 0 = 0) (p0 p1 : Int32) (lv : I2 → Prop) (ad : I2 → Nat) (en : I2 → va_E) (i : I2) (hi : lv i) (ao : Nat) (hao : ad i = ao) (f : Nat → Int64) (he : en i = LgA G f) : Met l yL_addLesson (wofW yL_addLesson cL_addLesson 5 (some .int) [(0, 10, 13, 13), (0, 10, 17, 15)]) (RM 9 3 320) (cPre [.ref b, .int p0, .int p1, .ref ao] G (wPre G A AO b σ lv ad en)) (cQ (wB G A AO b (fAddLesson σ p0 p1) lv ad en i) (fun q => A q ∨ AO q)) 3 320 (fun q => A q ∨ AO q) := by
  refine mk_w (by decide) (Nat.le_of_ble_eq_true rfl) ?_
  intro p e s m args below meth c X ls hl g0 F htab
  have hS : va_S (fun q => A q ∨ AO q) s.heap s.heap [] := va_S.rf
  obtain ⟨fsB, hfB⟩ := CB_at F.1.1
  have hl : lv_has ls 5 [(0, .ref b), (1, .int p0), (2, .int p1), (3, .ref ao)] := hl
  show W p l e (RM 9 3 320) s m args below meth c s.heap [] 0 0 (MQ below (cQ (wB G A AO b (fAddLesson σ p0 p1) lv ad en i) (fun q => A q ∨ AO q)) args s 3 320 (fun q => A q ∨ AO q)) (F0 m 0 ls [])
  refine lv_aload_n X.ex X.co dL_addLesson_0 rfl (lv_at hl 3 rfl) ?_
  refine lv_iconst (v := 0) X.ex X.co dL_addLesson_1 (by decide) ?_
  refine lv_aload_n X.ex X.co dL_addLesson_2 rfl (lv_at hl 0 rfl) ?_
  refine lv_iload_n X.ex X.co dL_addLesson_3 rfl (lv_at hl 1 rfl) ?_
  refine lv_iload_n X.ex X.co dL_addLesson_4 rfl (lv_at hl 2 rfl) ?_
  refine w_V X ce_X9_addLesson m_504 (c_X9_addLesson l hst G A hAg b σ hI hJ h0 p0 p1) g0 F.1 hfB rfl (by decide) rfl hl.1 rfl (Nat.le_of_ble_eq_true rfl) dL_addLesson_5 (by omega) (by omega) hS (fun q h => Or.inl h) (fun E ce q9 H locs hB hz hk9 hS hc1 hc2 hc3 => ?_) (fun v0 H locs hB hz hk9 hS => ?_)
  · obtain ⟨k, hT, hk0, hCB⟩ := hB
    have hO : fw G.1 lv ad en AO H := F.2.kept (fun j hj => hk9 _ (F.2.lt hj) (fun z => hdis _ z (F.2.in hj)))
    rcases k with _ | _ | k
    · obtain rfl : "java/lang/IllegalArgumentException" = E := Option.some.inj hT
      refine vx_catch X.ow [] ⟨0, 10, 13, 13⟩ [⟨0, 10, 17, 15⟩] htab (fun z h => absurd h List.not_mem_nil) rfl (by decide) (X.ts _ m_268) (cd_at g0 (tb_2 (List.mem_of_getElem? (i := 36) (by decide +kernel)))) hc1 hc2 hc3 ?_
      refine lv_astore (lv' := [(4, .ref q9), (0, .ref b), (1, .int p0), (2, .int p1), (3, .ref ao)]) X.ex X.co dL_addLesson_13 hl (by decide) rfl (fun ls hl => ?_)
      refine lv_iconst (v := 1) X.ex X.co dL_addLesson_15 (by decide) ?_
      exact c_i X hS rfl rfl ⟨(by rw [hk0]; rfl), hCB, (by omega), f, by rw [iup_eq he]; exact hO, fun z => absurd (hk0.symm.trans z) (by omega)⟩ (by omega) (by omega) dL_addLesson_16
    · obtain rfl : "java/lang/IllegalStateException" = E := Option.some.inj hT
      refine vx_catch X.ow [⟨0, 10, 13, 13⟩] ⟨0, 10, 17, 15⟩ [] htab (List.forall_mem_cons.mpr ⟨Or.inr ⟨by decide, "java/lang/IllegalArgumentException", X.ts _ m_268, nc_at g0 (List.mem_of_getElem? (i := 0) rfl)⟩, (fun z h => absurd h List.not_mem_nil)⟩) rfl (by decide) (X.ts _ m_269) (cd_at g0 (tb_2 (List.mem_of_getElem? (i := 108) (by decide +kernel)))) hc1 hc2 hc3 ?_
      refine lv_astore (lv' := [(4, .ref q9), (0, .ref b), (1, .int p0), (2, .int p1), (3, .ref ao)]) X.ex X.co dL_addLesson_17 hl (by decide) rfl (fun ls hl => ?_)
      refine lv_iconst (v := 2) X.ex X.co dL_addLesson_19 (by decide) ?_
      exact c_i X hS rfl rfl ⟨(by rw [hk0]; rfl), hCB, (by omega), f, by rw [iup_eq he]; exact hO, fun z => absurd (hk0.symm.trans z) (by omega)⟩ (by omega) (by omega) dL_addLesson_20
    · exact absurd hT (by simp)
  · obtain ⟨rfl, hk0, hCB⟩ := hB
    have hO : fw G.1 lv ad en AO H := F.2.kept (fun j hj => hk9 _ (F.2.lt hj) (fun z => hdis _ z (F.2.in hj)))
    refine lv_i2l X.ex X.co dL_addLesson_8 rfl ?_
    refine w_last X g0.1 hO hS (fun q h => Or.inr h) hi hao he dL_addLesson_9 (fun H locs f1 hf1 hO hq hz2 hS => ?_)
    have hCB := hCB.kept (fun q hA _ => hq q (fun z => hdis q hA (by rw [z, ← hao]; exact F.2.in hi)))
    refine lv_goto (tgt := 21) X.ex X.co dL_addLesson_10 (by decide) ?_
    refine lv_iconst (v := 0) X.ex X.co dL_addLesson_21 (by decide) ?_
    exact c_i X hS rfl rfl ⟨(by rw [hk0]; rfl), hCB, (by omega), f1, hO, fun _ => hf1⟩ (by omega) (by omega) dL_addLesson_22
theorem ce_X9_addExercise : ceV yX9_addExercise cX9_addExercise 7 ((Option.some FieldType.int)) 4 := ⟨m_545, m_546, m_1, m_547, ⟨by decide, by decide, by decide +kernel⟩, by decide⟩
set_option maxHeartbeats 4000000 in
set_option maxRecDepth 100000 in
theorem c_L_addExercise (l : Launch) (hst : l.stackTraces = false) (G : GT) (A AO : Nat → Prop) (hAg : ∀ q, A q → gA G q) (hdis : ∀ q, A q → ¬ AO q) (b : Nat) (σ : Sg) (hI : MI σ) (hJ : MJ σ) (h0 : σ.1 0 0 = 0) (p0 p1 p2 p3 : Int32) (lv : I2 → Prop) (ad : I2 → Nat) (en : I2 → va_E) (i : I2) (hi : lv i) (ao : Nat) (hao : ad i = ao) (f : Nat → Int64) (he : en i = LgA G f) : Met l yL_addExercise (wofW yL_addExercise cL_addExercise 7 (some .int) [(0, 14, 17, 21), (0, 14, 21, 13), (0, 14, 25, 15)]) (RM 10 7 700) (cPre [.ref b, .int p0, .int p1, .int p2, .int p3, .ref ao] G (wPre G A AO b σ lv ad en)) (cQ (wB G A AO b (fAddExercise σ p0 p1 p2 p3) lv ad en i) (fun q => A q ∨ AO q)) 7 700 (fun q => A q ∨ AO q) := by
  refine mk_w (by decide) (Nat.le_of_ble_eq_true rfl) ?_
  intro p e s m args below meth c X ls hl g0 F htab
  have hS : va_S (fun q => A q ∨ AO q) s.heap s.heap [] := va_S.rf
  obtain ⟨fsB, hfB⟩ := CB_at F.1.1
  have hl : lv_has ls 7 [(0, .ref b), (1, .int p0), (2, .int p1), (3, .int p2), (4, .int p3), (5, .ref ao)] := hl
  show W p l e (RM 10 7 700) s m args below meth c s.heap [] 0 0 (MQ below (cQ (wB G A AO b (fAddExercise σ p0 p1 p2 p3) lv ad en i) (fun q => A q ∨ AO q)) args s 7 700 (fun q => A q ∨ AO q)) (F0 m 0 ls [])
  refine lv_aload X.ex X.co dL_addExercise_0 (lv_at hl 5 rfl) ?_
  refine lv_iconst (v := 0) X.ex X.co dL_addExercise_2 (by decide) ?_
  refine lv_aload_n X.ex X.co dL_addExercise_3 rfl (lv_at hl 0 rfl) ?_
  refine lv_iload_n X.ex X.co dL_addExercise_4 rfl (lv_at hl 1 rfl) ?_
  refine lv_iload_n X.ex X.co dL_addExercise_5 rfl (lv_at hl 2 rfl) ?_
  refine lv_iload_n X.ex X.co dL_addExercise_6 rfl (lv_at hl 3 rfl) ?_
  refine lv_iload X.ex X.co dL_addExercise_7 (lv_at hl 4 rfl) ?_
  refine w_V X ce_X9_addExercise m_544 (c_X9_addExercise l hst G A hAg b σ hI hJ h0 p0 p1 p2 p3) g0 F.1 hfB rfl (by decide) rfl hl.1 rfl (Nat.le_of_ble_eq_true rfl) dL_addExercise_9 (by omega) (by omega) hS (fun q h => Or.inl h) (fun E ce q9 H locs hB hz hk9 hS hc1 hc2 hc3 => ?_) (fun v0 H locs hB hz hk9 hS => ?_)
  · obtain ⟨k, hT, hk0, hCB⟩ := hB
    have hO : fw G.1 lv ad en AO H := F.2.kept (fun j hj => hk9 _ (F.2.lt hj) (fun z => hdis _ z (F.2.in hj)))
    rcases k with _ | _ | _ | k
    · obtain rfl : "java/lang/IndexOutOfBoundsException" = E := Option.some.inj hT
      refine vx_catch X.ow [] ⟨0, 14, 17, 21⟩ [⟨0, 14, 21, 13⟩, ⟨0, 14, 25, 15⟩] htab (fun z h => absurd h List.not_mem_nil) rfl (by decide) (X.ts _ m_445) (cd_at g0 (tb_2 (List.mem_of_getElem? (i := 235) (by decide +kernel)))) hc1 hc2 hc3 ?_
      refine lv_astore (lv' := [(6, .ref q9), (0, .ref b), (1, .int p0), (2, .int p1), (3, .int p2), (4, .int p3), (5, .ref ao)]) X.ex X.co dL_addExercise_17 hl (by decide) rfl (fun ls hl => ?_)
      refine lv_iconst (v := 1) X.ex X.co dL_addExercise_19 (by decide) ?_
      exact c_i X hS rfl rfl ⟨(by rw [hk0]; rfl), hCB, (by omega), f, by rw [iup_eq he]; exact hO, fun z => absurd (hk0.symm.trans z) (by omega)⟩ (by omega) (by omega) dL_addExercise_20
    · obtain rfl : "java/lang/IllegalArgumentException" = E := Option.some.inj hT
      refine vx_catch X.ow [⟨0, 14, 17, 21⟩] ⟨0, 14, 21, 13⟩ [⟨0, 14, 25, 15⟩] htab (List.forall_mem_cons.mpr ⟨Or.inr ⟨by decide, "java/lang/IndexOutOfBoundsException", X.ts _ m_445, nc_at g0 (List.mem_of_getElem? (i := 10) rfl)⟩, (fun z h => absurd h List.not_mem_nil)⟩) rfl (by decide) (X.ts _ m_268) (cd_at g0 (tb_2 (List.mem_of_getElem? (i := 36) (by decide +kernel)))) hc1 hc2 hc3 ?_
      refine lv_astore (lv' := [(6, .ref q9), (0, .ref b), (1, .int p0), (2, .int p1), (3, .int p2), (4, .int p3), (5, .ref ao)]) X.ex X.co dL_addExercise_21 hl (by decide) rfl (fun ls hl => ?_)
      refine lv_iconst (v := 2) X.ex X.co dL_addExercise_23 (by decide) ?_
      exact c_i X hS rfl rfl ⟨(by rw [hk0]; rfl), hCB, (by omega), f, by rw [iup_eq he]; exact hO, fun z => absurd (hk0.symm.trans z) (by omega)⟩ (by omega) (by omega) dL_addExercise_24
    · obtain rfl : "java/lang/IllegalStateException" = E := Option.some.inj hT
      refine vx_catch X.ow [⟨0, 14, 17, 21⟩, ⟨0, 14, 21, 13⟩] ⟨0, 14, 25, 15⟩ [] htab (List.forall_mem_cons.mpr ⟨Or.inr ⟨by decide, "java/lang/IndexOutOfBoundsException", X.ts _ m_445, nc_at g0 (List.mem_of_getElem? (i := 11) rfl)⟩, (List.forall_mem_cons.mpr ⟨Or.inr ⟨by decide, "java/lang/IllegalArgumentException", X.ts _ m_268, nc_at g0 (List.mem_of_getElem? (i := 0) rfl)⟩, (fun z h => absurd h List.not_mem_nil)⟩)⟩) rfl (by decide) (X.ts _ m_269) (cd_at g0 (tb_2 (List.mem_of_getElem? (i := 108) (by decide +kernel)))) hc1 hc2 hc3 ?_
      refine lv_astore (lv' := [(6, .ref q9), (0, .ref b), (1, .int p0), (2, .int p1), (3, .int p2), (4, .int p3), (5, .ref ao)]) X.ex X.co dL_addExercise_25 hl (by decide) rfl (fun ls hl => ?_)
      refine lv_iconst (v := 3) X.ex X.co dL_addExercise_27 (by decide) ?_
      exact c_i X hS rfl rfl ⟨(by rw [hk0]; rfl), hCB, (by omega), f, by rw [iup_eq he]; exact hO, fun z => absurd (hk0.symm.trans z) (by omega)⟩ (by omega) (by omega) dL_addExercise_28
    · exact absurd hT (by simp)
  · obtain ⟨rfl, hk0, hCB⟩ := hB
    have hO : fw G.1 lv ad en AO H := F.2.kept (fun j hj => hk9 _ (F.2.lt hj) (fun z => hdis _ z (F.2.in hj)))
    refine lv_i2l X.ex X.co dL_addExercise_12 rfl ?_
    refine w_last X g0.1 hO hS (fun q h => Or.inr h) hi hao he dL_addExercise_13 (fun H locs f1 hf1 hO hq hz2 hS => ?_)
    have hCB := hCB.kept (fun q hA _ => hq q (fun z => hdis q hA (by rw [z, ← hao]; exact F.2.in hi)))
    refine lv_goto (tgt := 29) X.ex X.co dL_addExercise_14 (by decide) ?_
    refine lv_iconst (v := 0) X.ex X.co dL_addExercise_29 (by decide) ?_
    exact c_i X hS rfl rfl ⟨(by rw [hk0]; rfl), hCB, (by omega), f1, hO, fun _ => hf1⟩ (by omega) (by omega) dL_addExercise_30
theorem ce_X9_addCase : ceV yX9_addCase cX9_addCase 5 ((Option.some FieldType.int)) 3 := ⟨m_623, m_624, m_1, m_625, ⟨by decide, by decide, by decide +kernel⟩, by decide⟩
set_option maxHeartbeats 4000000 in
set_option maxRecDepth 100000 in
theorem c_L_addCase (l : Launch) (hst : l.stackTraces = false) (G : GT) (A AO : Nat → Prop) (hAg : ∀ q, A q → gA G q) (hdis : ∀ q, A q → ¬ AO q) (b : Nat) (σ : Sg) (hI : MI σ) (hJ : MJ σ) (h0 : σ.1 0 0 = 0) (p0 p1 p2 : Int32) (lv : I2 → Prop) (ad : I2 → Nat) (en : I2 → va_E) (i : I2) (hi : lv i) (ao : Nat) (hao : ad i = ao) (f : Nat → Int64) (he : en i = LgA G f) : Met l yL_addCase (wofW yL_addCase cL_addCase 6 (some .int) [(0, 12, 15, 21), (0, 12, 19, 13), (0, 12, 23, 15)]) (RM 5 1 6) (cPre [.ref b, .int p0, .int p1, .int p2, .ref ao] G (wPre G A AO b σ lv ad en)) (cQ (wB G A AO b (fAddCase σ p0 p1 p2) lv ad en i) (fun q => A q ∨ AO q)) 1 6 (fun q => A q ∨ AO q) := by
  refine mk_w (by decide) (Nat.le_of_ble_eq_true rfl) ?_
  intro p e s m args below meth c X ls hl g0 F htab
  have hS : va_S (fun q => A q ∨ AO q) s.heap s.heap [] := va_S.rf
  obtain ⟨fsB, hfB⟩ := CB_at F.1.1
  have hl : lv_has ls 6 [(0, .ref b), (1, .int p0), (2, .int p1), (3, .int p2), (4, .ref ao)] := hl
  show W p l e (RM 5 1 6) s m args below meth c s.heap [] 0 0 (MQ below (cQ (wB G A AO b (fAddCase σ p0 p1 p2) lv ad en i) (fun q => A q ∨ AO q)) args s 1 6 (fun q => A q ∨ AO q)) (F0 m 0 ls [])
  refine lv_aload X.ex X.co dL_addCase_0 (lv_at hl 4 rfl) ?_
  refine lv_iconst (v := 0) X.ex X.co dL_addCase_2 (by decide) ?_
  refine lv_aload_n X.ex X.co dL_addCase_3 rfl (lv_at hl 0 rfl) ?_
  refine lv_iload_n X.ex X.co dL_addCase_4 rfl (lv_at hl 1 rfl) ?_
  refine lv_iload_n X.ex X.co dL_addCase_5 rfl (lv_at hl 2 rfl) ?_
  refine lv_iload_n X.ex X.co dL_addCase_6 rfl (lv_at hl 3 rfl) ?_
  refine w_V X ce_X9_addCase m_622 (c_X9_addCase l hst G A hAg b σ hI hJ h0 p0 p1 p2) g0 F.1 hfB rfl (by decide) rfl hl.1 rfl (Nat.le_of_ble_eq_true rfl) dL_addCase_7 (by omega) (by omega) hS (fun q h => Or.inl h) (fun E ce q9 H locs hB hz hk9 hS hc1 hc2 hc3 => ?_) (fun v0 H locs hB hz hk9 hS => ?_)
  · obtain ⟨k, hT, hk0, hCB⟩ := hB
    have hO : fw G.1 lv ad en AO H := F.2.kept (fun j hj => hk9 _ (F.2.lt hj) (fun z => hdis _ z (F.2.in hj)))
    rcases k with _ | _ | _ | k
    · obtain rfl : "java/lang/IndexOutOfBoundsException" = E := Option.some.inj hT
      refine vx_catch X.ow [] ⟨0, 12, 15, 21⟩ [⟨0, 12, 19, 13⟩, ⟨0, 12, 23, 15⟩] htab (fun z h => absurd h List.not_mem_nil) rfl (by decide) (X.ts _ m_445) (cd_at g0 (tb_2 (List.mem_of_getElem? (i := 235) (by decide +kernel)))) hc1 hc2 hc3 ?_
      refine lv_astore (lv' := [(5, .ref q9), (0, .ref b), (1, .int p0), (2, .int p1), (3, .int p2), (4, .ref ao)]) X.ex X.co dL_addCase_15 hl (by decide) rfl (fun ls hl => ?_)
      refine lv_iconst (v := 1) X.ex X.co dL_addCase_17 (by decide) ?_
      exact c_i X hS rfl rfl ⟨(by rw [hk0]; rfl), hCB, (by omega), f, by rw [iup_eq he]; exact hO, fun z => absurd (hk0.symm.trans z) (by omega)⟩ (by omega) (by omega) dL_addCase_18
    · obtain rfl : "java/lang/IllegalArgumentException" = E := Option.some.inj hT
      refine vx_catch X.ow [⟨0, 12, 15, 21⟩] ⟨0, 12, 19, 13⟩ [⟨0, 12, 23, 15⟩] htab (List.forall_mem_cons.mpr ⟨Or.inr ⟨by decide, "java/lang/IndexOutOfBoundsException", X.ts _ m_445, nc_at g0 (List.mem_of_getElem? (i := 10) rfl)⟩, (fun z h => absurd h List.not_mem_nil)⟩) rfl (by decide) (X.ts _ m_268) (cd_at g0 (tb_2 (List.mem_of_getElem? (i := 36) (by decide +kernel)))) hc1 hc2 hc3 ?_
      refine lv_astore (lv' := [(5, .ref q9), (0, .ref b), (1, .int p0), (2, .int p1), (3, .int p2), (4, .ref ao)]) X.ex X.co dL_addCase_19 hl (by decide) rfl (fun ls hl => ?_)
      refine lv_iconst (v := 2) X.ex X.co dL_addCase_21 (by decide) ?_
      exact c_i X hS rfl rfl ⟨(by rw [hk0]; rfl), hCB, (by omega), f, by rw [iup_eq he]; exact hO, fun z => absurd (hk0.symm.trans z) (by omega)⟩ (by omega) (by omega) dL_addCase_22
    · obtain rfl : "java/lang/IllegalStateException" = E := Option.some.inj hT
      refine vx_catch X.ow [⟨0, 12, 15, 21⟩, ⟨0, 12, 19, 13⟩] ⟨0, 12, 23, 15⟩ [] htab (List.forall_mem_cons.mpr ⟨Or.inr ⟨by decide, "java/lang/IndexOutOfBoundsException", X.ts _ m_445, nc_at g0 (List.mem_of_getElem? (i := 11) rfl)⟩, (List.forall_mem_cons.mpr ⟨Or.inr ⟨by decide, "java/lang/IllegalArgumentException", X.ts _ m_268, nc_at g0 (List.mem_of_getElem? (i := 0) rfl)⟩, (fun z h => absurd h List.not_mem_nil)⟩)⟩) rfl (by decide) (X.ts _ m_269) (cd_at g0 (tb_2 (List.mem_of_getElem? (i := 108) (by decide +kernel)))) hc1 hc2 hc3 ?_
      refine lv_astore (lv' := [(5, .ref q9), (0, .ref b), (1, .int p0), (2, .int p1), (3, .int p2), (4, .ref ao)]) X.ex X.co dL_addCase_23 hl (by decide) rfl (fun ls hl => ?_)
      refine lv_iconst (v := 3) X.ex X.co dL_addCase_25 (by decide) ?_
      exact c_i X hS rfl rfl ⟨(by rw [hk0]; rfl), hCB, (by omega), f, by rw [iup_eq he]; exact hO, fun z => absurd (hk0.symm.trans z) (by omega)⟩ (by omega) (by omega) dL_addCase_26
    · exact absurd hT (by simp)
  · obtain ⟨rfl, hk0, hCB⟩ := hB
    have hO : fw G.1 lv ad en AO H := F.2.kept (fun j hj => hk9 _ (F.2.lt hj) (fun z => hdis _ z (F.2.in hj)))
    refine lv_i2l X.ex X.co dL_addCase_10 rfl ?_
    refine w_last X g0.1 hO hS (fun q h => Or.inr h) hi hao he dL_addCase_11 (fun H locs f1 hf1 hO hq hz2 hS => ?_)
    have hCB := hCB.kept (fun q hA _ => hq q (fun z => hdis q hA (by rw [z, ← hao]; exact F.2.in hi)))
    refine lv_goto (tgt := 27) X.ex X.co dL_addCase_12 (by decide) ?_
    refine lv_iconst (v := 0) X.ex X.co dL_addCase_27 (by decide) ?_
    exact c_i X hS rfl rfl ⟨(by rw [hk0]; rfl), hCB, (by omega), f1, hO, fun _ => hf1⟩ (by omega) (by omega) dL_addCase_28
theorem ce_X9_versionOf : ceV yX9_versionOf cX9_versionOf 2 ((Option.some FieldType.int)) 1 := ⟨m_645, m_646, m_1, m_647, ⟨by decide, by decide, by decide +kernel⟩, by decide⟩
set_option maxHeartbeats 4000000 in
set_option maxRecDepth 100000 in
theorem c_L_versionOf (l : Launch) (hst : l.stackTraces = false) (G : GT) (A AO : Nat → Prop) (hAg : ∀ q, A q → gA G q) (hdis : ∀ q, A q → ¬ AO q) (b : Nat) (σ : Sg) (hI : MI σ) (hJ : MJ σ) (h0 : σ.1 0 0 = 0) (p0 : Int32) (lv : I2 → Prop) (ad : I2 → Nat) (en : I2 → va_E) (i : I2) (hi : lv i) (ao : Nat) (hao : ad i = ao) (f : Nat → Int64) (he : en i = LgA G f) : Met l yL_versionOf (wofW yL_versionOf cL_versionOf 4 (some .int) [(0, 9, 12, 21)]) (RM 5 1 6) (cPre [.ref b, .int p0, .ref ao] G (wPre G A AO b σ lv ad en)) (cQ (wB G A AO b (fVersionOf σ p0) lv ad en i) (fun q => A q ∨ AO q)) 1 6 (fun q => A q ∨ AO q) := by
  refine mk_w (by decide) (Nat.le_of_ble_eq_true rfl) ?_
  intro p e s m args below meth c X ls hl g0 F htab
  have hS : va_S (fun q => A q ∨ AO q) s.heap s.heap [] := va_S.rf
  obtain ⟨fsB, hfB⟩ := CB_at F.1.1
  have hl : lv_has ls 4 [(0, .ref b), (1, .int p0), (2, .ref ao)] := hl
  show W p l e (RM 5 1 6) s m args below meth c s.heap [] 0 0 (MQ below (cQ (wB G A AO b (fVersionOf σ p0) lv ad en i) (fun q => A q ∨ AO q)) args s 1 6 (fun q => A q ∨ AO q)) (F0 m 0 ls [])
  refine lv_aload_n X.ex X.co dL_versionOf_0 rfl (lv_at hl 2 rfl) ?_
  refine lv_iconst (v := 0) X.ex X.co dL_versionOf_1 (by decide) ?_
  refine lv_aload_n X.ex X.co dL_versionOf_2 rfl (lv_at hl 0 rfl) ?_
  refine lv_iload_n X.ex X.co dL_versionOf_3 rfl (lv_at hl 1 rfl) ?_
  refine w_V X ce_X9_versionOf m_644 (c_X9_versionOf l hst G A hAg b σ hI hJ h0 p0) g0 F.1 hfB rfl (by decide) rfl hl.1 rfl (Nat.le_of_ble_eq_true rfl) dL_versionOf_4 (by omega) (by omega) hS (fun q h => Or.inl h) (fun E ce q9 H locs hB hz hk9 hS hc1 hc2 hc3 => ?_) (fun v0 H locs hB hz hk9 hS => ?_)
  · obtain ⟨k, hT, hk0, hCB⟩ := hB
    have hO : fw G.1 lv ad en AO H := F.2.kept (fun j hj => hk9 _ (F.2.lt hj) (fun z => hdis _ z (F.2.in hj)))
    rcases k with _ | k
    · obtain rfl : "java/lang/IndexOutOfBoundsException" = E := Option.some.inj hT
      refine vx_catch X.ow [] ⟨0, 9, 12, 21⟩ [] htab (fun z h => absurd h List.not_mem_nil) rfl (by decide) (X.ts _ m_445) (cd_at g0 (tb_2 (List.mem_of_getElem? (i := 235) (by decide +kernel)))) hc1 hc2 hc3 ?_
      refine lv_astore_n (lv' := [(3, .ref q9), (0, .ref b), (1, .int p0), (2, .ref ao)]) X.ex X.co dL_versionOf_12 rfl hl (by decide) rfl (fun ls hl => ?_)
      refine lv_iconst (v := 1) X.ex X.co dL_versionOf_13 (by decide) ?_
      exact c_i X hS rfl rfl ⟨(by rw [hk0]; rfl), hCB, (by omega), f, by rw [iup_eq he]; exact hO, fun z => absurd (hk0.symm.trans z) (by omega)⟩ (by omega) (by omega) dL_versionOf_14
    · exact absurd hT (by simp)
  · obtain ⟨rfl, hk0, hCB⟩ := hB
    have hO : fw G.1 lv ad en AO H := F.2.kept (fun j hj => hk9 _ (F.2.lt hj) (fun z => hdis _ z (F.2.in hj)))
    refine lv_i2l X.ex X.co dL_versionOf_7 rfl ?_
    refine w_last X g0.1 hO hS (fun q h => Or.inr h) hi hao he dL_versionOf_8 (fun H locs f1 hf1 hO hq hz2 hS => ?_)
    have hCB := hCB.kept (fun q hA _ => hq q (fun z => hdis q hA (by rw [z, ← hao]; exact F.2.in hi)))
    refine lv_goto (tgt := 15) X.ex X.co dL_versionOf_9 (by decide) ?_
    refine lv_iconst (v := 0) X.ex X.co dL_versionOf_15 (by decide) ?_
    exact c_i X hS rfl rfl ⟨(by rw [hk0]; rfl), hCB, (by omega), f1, hO, fun _ => hf1⟩ (by omega) (by omega) dL_versionOf_16
theorem ce_X9_openLessons : ceV yX9_openLessons cX9_openLessons 6 ((Option.some FieldType.int)) 1 := ⟨m_652, m_653, m_1, m_654, ⟨by decide, by decide, by decide +kernel⟩, by decide⟩
set_option maxHeartbeats 4000000 in
set_option maxRecDepth 100000 in
theorem c_L_openLessons (l : Launch) (hst : l.stackTraces = false) (G : GT) (A AO : Nat → Prop) (hAg : ∀ q, A q → gA G q) (hdis : ∀ q, A q → ¬ AO q) (b : Nat) (σ : Sg) (hI : MI σ) (hJ : MJ σ) (h0 : σ.1 0 0 = 0) (p0 : Int32) (lv : I2 → Prop) (ad : I2 → Nat) (en : I2 → va_E) (i : I2) (hi : lv i) (ao : Nat) (hao : ad i = ao) (f : Nat → Int64) (he : en i = LgA G f) : Met l yL_openLessons (wofW yL_openLessons cL_openLessons 4 (some .int) [(0, 9, 12, 21)]) (RM 9 1 6) (cPre [.ref b, .int p0, .ref ao] G (wPre G A AO b σ lv ad en)) (cQ (wB G A AO b (fOpenLessons σ p0) lv ad en i) (fun q => A q ∨ AO q)) 1 6 (fun q => A q ∨ AO q) := by
  refine mk_w (by decide) (Nat.le_of_ble_eq_true rfl) ?_
  intro p e s m args below meth c X ls hl g0 F htab
  have hS : va_S (fun q => A q ∨ AO q) s.heap s.heap [] := va_S.rf
  obtain ⟨fsB, hfB⟩ := CB_at F.1.1
  have hl : lv_has ls 4 [(0, .ref b), (1, .int p0), (2, .ref ao)] := hl
  show W p l e (RM 9 1 6) s m args below meth c s.heap [] 0 0 (MQ below (cQ (wB G A AO b (fOpenLessons σ p0) lv ad en i) (fun q => A q ∨ AO q)) args s 1 6 (fun q => A q ∨ AO q)) (F0 m 0 ls [])
  refine lv_aload_n X.ex X.co dL_openLessons_0 rfl (lv_at hl 2 rfl) ?_
  refine lv_iconst (v := 0) X.ex X.co dL_openLessons_1 (by decide) ?_
  refine lv_aload_n X.ex X.co dL_openLessons_2 rfl (lv_at hl 0 rfl) ?_
  refine lv_iload_n X.ex X.co dL_openLessons_3 rfl (lv_at hl 1 rfl) ?_
  refine w_V X ce_X9_openLessons m_651 (c_X9_openLessons l hst G A hAg b σ hI hJ h0 p0) g0 F.1 hfB rfl (by decide) rfl hl.1 rfl (Nat.le_of_ble_eq_true rfl) dL_openLessons_4 (by omega) (by omega) hS (fun q h => Or.inl h) (fun E ce q9 H locs hB hz hk9 hS hc1 hc2 hc3 => ?_) (fun v0 H locs hB hz hk9 hS => ?_)
  · obtain ⟨k, hT, hk0, hCB⟩ := hB
    have hO : fw G.1 lv ad en AO H := F.2.kept (fun j hj => hk9 _ (F.2.lt hj) (fun z => hdis _ z (F.2.in hj)))
    rcases k with _ | k
    · obtain rfl : "java/lang/IndexOutOfBoundsException" = E := Option.some.inj hT
      refine vx_catch X.ow [] ⟨0, 9, 12, 21⟩ [] htab (fun z h => absurd h List.not_mem_nil) rfl (by decide) (X.ts _ m_445) (cd_at g0 (tb_2 (List.mem_of_getElem? (i := 235) (by decide +kernel)))) hc1 hc2 hc3 ?_
      refine lv_astore_n (lv' := [(3, .ref q9), (0, .ref b), (1, .int p0), (2, .ref ao)]) X.ex X.co dL_openLessons_12 rfl hl (by decide) rfl (fun ls hl => ?_)
      refine lv_iconst (v := 1) X.ex X.co dL_openLessons_13 (by decide) ?_
      exact c_i X hS rfl rfl ⟨(by rw [hk0]; rfl), hCB, (by omega), f, by rw [iup_eq he]; exact hO, fun z => absurd (hk0.symm.trans z) (by omega)⟩ (by omega) (by omega) dL_openLessons_14
    · exact absurd hT (by simp)
  · obtain ⟨rfl, hk0, hCB⟩ := hB
    have hO : fw G.1 lv ad en AO H := F.2.kept (fun j hj => hk9 _ (F.2.lt hj) (fun z => hdis _ z (F.2.in hj)))
    refine lv_i2l X.ex X.co dL_openLessons_7 rfl ?_
    refine w_last X g0.1 hO hS (fun q h => Or.inr h) hi hao he dL_openLessons_8 (fun H locs f1 hf1 hO hq hz2 hS => ?_)
    have hCB := hCB.kept (fun q hA _ => hq q (fun z => hdis q hA (by rw [z, ← hao]; exact F.2.in hi)))
    refine lv_goto (tgt := 15) X.ex X.co dL_openLessons_9 (by decide) ?_
    refine lv_iconst (v := 0) X.ex X.co dL_openLessons_15 (by decide) ?_
    exact c_i X hS rfl rfl ⟨(by rw [hk0]; rfl), hCB, (by omega), f1, hO, fun _ => hf1⟩ (by omega) (by omega) dL_openLessons_16
theorem ce_X9_reason : ceV yX9_reason cX9_reason 3 ((Option.some FieldType.char)) 2 := ⟨m_675, m_676, m_1, m_677, ⟨by decide, by decide, by decide +kernel⟩, by decide⟩
set_option maxHeartbeats 4000000 in
set_option maxRecDepth 100000 in
theorem c_L_reason (l : Launch) (hst : l.stackTraces = false) (G : GT) (A AO : Nat → Prop) (hAg : ∀ q, A q → gA G q) (hdis : ∀ q, A q → ¬ AO q) (b : Nat) (σ : Sg) (hI : MI σ) (hJ : MJ σ) (h0 : σ.1 0 0 = 0) (p0 p1 : Int32) (lv : I2 → Prop) (ad : I2 → Nat) (en : I2 → va_E) (i : I2) (hi : lv i) (ao : Nat) (hao : ad i = ao) (f : Nat → Int64) (he : en i = LgA G f) : Met l yL_reason (wofW yL_reason cL_reason 5 (some .int) [(0, 10, 13, 21)]) (RM 9 1 6) (cPre [.ref b, .int p0, .int p1, .ref ao] G (wPre G A AO b σ lv ad en)) (cQ (wB G A AO b (fReason σ p0 p1) lv ad en i) (fun q => A q ∨ AO q)) 1 6 (fun q => A q ∨ AO q) := by
  refine mk_w (by decide) (Nat.le_of_ble_eq_true rfl) ?_
  intro p e s m args below meth c X ls hl g0 F htab
  have hS : va_S (fun q => A q ∨ AO q) s.heap s.heap [] := va_S.rf
  obtain ⟨fsB, hfB⟩ := CB_at F.1.1
  have hl : lv_has ls 5 [(0, .ref b), (1, .int p0), (2, .int p1), (3, .ref ao)] := hl
  show W p l e (RM 9 1 6) s m args below meth c s.heap [] 0 0 (MQ below (cQ (wB G A AO b (fReason σ p0 p1) lv ad en i) (fun q => A q ∨ AO q)) args s 1 6 (fun q => A q ∨ AO q)) (F0 m 0 ls [])
  refine lv_aload_n X.ex X.co dL_reason_0 rfl (lv_at hl 3 rfl) ?_
  refine lv_iconst (v := 0) X.ex X.co dL_reason_1 (by decide) ?_
  refine lv_aload_n X.ex X.co dL_reason_2 rfl (lv_at hl 0 rfl) ?_
  refine lv_iload_n X.ex X.co dL_reason_3 rfl (lv_at hl 1 rfl) ?_
  refine lv_iload_n X.ex X.co dL_reason_4 rfl (lv_at hl 2 rfl) ?_
  refine w_V X ce_X9_reason m_674 (c_X9_reason l hst G A hAg b σ hI hJ h0 p0 p1) g0 F.1 hfB rfl (by decide) rfl hl.1 rfl (Nat.le_of_ble_eq_true rfl) dL_reason_5 (by omega) (by omega) hS (fun q h => Or.inl h) (fun E ce q9 H locs hB hz hk9 hS hc1 hc2 hc3 => ?_) (fun v0 H locs hB hz hk9 hS => ?_)
  · obtain ⟨k, hT, hk0, hCB⟩ := hB
    have hO : fw G.1 lv ad en AO H := F.2.kept (fun j hj => hk9 _ (F.2.lt hj) (fun z => hdis _ z (F.2.in hj)))
    rcases k with _ | k
    · obtain rfl : "java/lang/IndexOutOfBoundsException" = E := Option.some.inj hT
      refine vx_catch X.ow [] ⟨0, 10, 13, 21⟩ [] htab (fun z h => absurd h List.not_mem_nil) rfl (by decide) (X.ts _ m_445) (cd_at g0 (tb_2 (List.mem_of_getElem? (i := 235) (by decide +kernel)))) hc1 hc2 hc3 ?_
      refine lv_astore (lv' := [(4, .ref q9), (0, .ref b), (1, .int p0), (2, .int p1), (3, .ref ao)]) X.ex X.co dL_reason_13 hl (by decide) rfl (fun ls hl => ?_)
      refine lv_iconst (v := 1) X.ex X.co dL_reason_15 (by decide) ?_
      exact c_i X hS rfl rfl ⟨(by rw [hk0]; rfl), hCB, (by omega), f, by rw [iup_eq he]; exact hO, fun z => absurd (hk0.symm.trans z) (by omega)⟩ (by omega) (by omega) dL_reason_16
    · exact absurd hT (by simp)
  · obtain ⟨rfl, hk0, hCB⟩ := hB
    have hO : fw G.1 lv ad en AO H := F.2.kept (fun j hj => hk9 _ (F.2.lt hj) (fun z => hdis _ z (F.2.in hj)))
    refine lv_i2l X.ex X.co dL_reason_8 rfl ?_
    refine w_last X g0.1 hO hS (fun q h => Or.inr h) hi hao he dL_reason_9 (fun H locs f1 hf1 hO hq hz2 hS => ?_)
    have hCB := hCB.kept (fun q hA _ => hq q (fun z => hdis q hA (by rw [z, ← hao]; exact F.2.in hi)))
    refine lv_goto (tgt := 17) X.ex X.co dL_reason_10 (by decide) ?_
    refine lv_iconst (v := 0) X.ex X.co dL_reason_17 (by decide) ?_
    exact c_i X hS rfl rfl ⟨(by rw [hk0]; rfl), hCB, (by omega), f1, hO, fun _ => hf1⟩ (by omega) (by omega) dL_reason_18
theorem ce_X9_answer : ceV yX9_answer cX9_answer 8 ((Option.some FieldType.int)) 4 := ⟨m_687, m_688, m_1, m_689, ⟨by decide, by decide, by decide +kernel⟩, by decide⟩
set_option maxHeartbeats 4000000 in
set_option maxRecDepth 100000 in
theorem c_L_answer (l : Launch) (hst : l.stackTraces = false) (G : GT) (A AO : Nat → Prop) (hAg : ∀ q, A q → gA G q) (hdis : ∀ q, A q → ¬ AO q) (b : Nat) (σ : Sg) (hI : MI σ) (hJ : MJ σ) (h0 : σ.1 0 0 = 0) (p0 p1 p2 p3 : Int32) (lv : I2 → Prop) (ad : I2 → Nat) (en : I2 → va_E) (i : I2) (hi : lv i) (ao : Nat) (hao : ad i = ao) (f : Nat → Int64) (he : en i = LgA G f) : Met l yL_answer (wofW yL_answer cL_answer 7 (some .int) [(0, 14, 17, 21), (0, 14, 21, 13), (0, 14, 25, 47), (0, 14, 29, 15)]) (RM 9 6 640) (cPre [.ref b, .int p0, .int p1, .int p2, .int p3, .ref ao] G (wPre G A AO b σ lv ad en)) (cQ (wB G A AO b (fAnswer σ p0 p1 p2 p3) lv ad en i) (fun q => A q ∨ AO q)) 6 640 (fun q => A q ∨ AO q) := by
  refine mk_w (by decide) (Nat.le_of_ble_eq_true rfl) ?_
  intro p e s m args below meth c X ls hl g0 F htab
  have hS : va_S (fun q => A q ∨ AO q) s.heap s.heap [] := va_S.rf
  obtain ⟨fsB, hfB⟩ := CB_at F.1.1
  have hl : lv_has ls 7 [(0, .ref b), (1, .int p0), (2, .int p1), (3, .int p2), (4, .int p3), (5, .ref ao)] := hl
  show W p l e (RM 9 6 640) s m args below meth c s.heap [] 0 0 (MQ below (cQ (wB G A AO b (fAnswer σ p0 p1 p2 p3) lv ad en i) (fun q => A q ∨ AO q)) args s 6 640 (fun q => A q ∨ AO q)) (F0 m 0 ls [])
  refine lv_aload X.ex X.co dL_answer_0 (lv_at hl 5 rfl) ?_
  refine lv_iconst (v := 0) X.ex X.co dL_answer_2 (by decide) ?_
  refine lv_aload_n X.ex X.co dL_answer_3 rfl (lv_at hl 0 rfl) ?_
  refine lv_iload_n X.ex X.co dL_answer_4 rfl (lv_at hl 1 rfl) ?_
  refine lv_iload_n X.ex X.co dL_answer_5 rfl (lv_at hl 2 rfl) ?_
  refine lv_iload_n X.ex X.co dL_answer_6 rfl (lv_at hl 3 rfl) ?_
  refine lv_iload X.ex X.co dL_answer_7 (lv_at hl 4 rfl) ?_
  refine w_V X ce_X9_answer m_686 (c_X9_answer l hst G A hAg b σ hI hJ h0 p0 p1 p2 p3) g0 F.1 hfB rfl (by decide) rfl hl.1 rfl (Nat.le_of_ble_eq_true rfl) dL_answer_9 (by omega) (by omega) hS (fun q h => Or.inl h) (fun E ce q9 H locs hB hz hk9 hS hc1 hc2 hc3 => ?_) (fun v0 H locs hB hz hk9 hS => ?_)
  · obtain ⟨k, hT, hk0, hCB⟩ := hB
    have hO : fw G.1 lv ad en AO H := F.2.kept (fun j hj => hk9 _ (F.2.lt hj) (fun z => hdis _ z (F.2.in hj)))
    rcases k with _ | _ | _ | _ | k
    · obtain rfl : "java/lang/IndexOutOfBoundsException" = E := Option.some.inj hT
      refine vx_catch X.ow [] ⟨0, 14, 17, 21⟩ [⟨0, 14, 21, 13⟩, ⟨0, 14, 25, 47⟩, ⟨0, 14, 29, 15⟩] htab (fun z h => absurd h List.not_mem_nil) rfl (by decide) (X.ts _ m_445) (cd_at g0 (tb_2 (List.mem_of_getElem? (i := 235) (by decide +kernel)))) hc1 hc2 hc3 ?_
      refine lv_astore (lv' := [(6, .ref q9), (0, .ref b), (1, .int p0), (2, .int p1), (3, .int p2), (4, .int p3), (5, .ref ao)]) X.ex X.co dL_answer_17 hl (by decide) rfl (fun ls hl => ?_)
      refine lv_iconst (v := 1) X.ex X.co dL_answer_19 (by decide) ?_
      exact c_i X hS rfl rfl ⟨(by rw [hk0]; rfl), hCB, (by omega), f, by rw [iup_eq he]; exact hO, fun z => absurd (hk0.symm.trans z) (by omega)⟩ (by omega) (by omega) dL_answer_20
    · obtain rfl : "java/lang/IllegalArgumentException" = E := Option.some.inj hT
      refine vx_catch X.ow [⟨0, 14, 17, 21⟩] ⟨0, 14, 21, 13⟩ [⟨0, 14, 25, 47⟩, ⟨0, 14, 29, 15⟩] htab (List.forall_mem_cons.mpr ⟨Or.inr ⟨by decide, "java/lang/IndexOutOfBoundsException", X.ts _ m_445, nc_at g0 (List.mem_of_getElem? (i := 10) rfl)⟩, (fun z h => absurd h List.not_mem_nil)⟩) rfl (by decide) (X.ts _ m_268) (cd_at g0 (tb_2 (List.mem_of_getElem? (i := 36) (by decide +kernel)))) hc1 hc2 hc3 ?_
      refine lv_astore (lv' := [(6, .ref q9), (0, .ref b), (1, .int p0), (2, .int p1), (3, .int p2), (4, .int p3), (5, .ref ao)]) X.ex X.co dL_answer_21 hl (by decide) rfl (fun ls hl => ?_)
      refine lv_iconst (v := 2) X.ex X.co dL_answer_23 (by decide) ?_
      exact c_i X hS rfl rfl ⟨(by rw [hk0]; rfl), hCB, (by omega), f, by rw [iup_eq he]; exact hO, fun z => absurd (hk0.symm.trans z) (by omega)⟩ (by omega) (by omega) dL_answer_24
    · obtain rfl : "java/lang/UnsupportedOperationException" = E := Option.some.inj hT
      refine vx_catch X.ow [⟨0, 14, 17, 21⟩, ⟨0, 14, 21, 13⟩] ⟨0, 14, 25, 47⟩ [⟨0, 14, 29, 15⟩] htab (List.forall_mem_cons.mpr ⟨Or.inr ⟨by decide, "java/lang/IndexOutOfBoundsException", X.ts _ m_445, nc_at g0 (List.mem_of_getElem? (i := 12) rfl)⟩, (List.forall_mem_cons.mpr ⟨Or.inr ⟨by decide, "java/lang/IllegalArgumentException", X.ts _ m_268, nc_at g0 (List.mem_of_getElem? (i := 2) rfl)⟩, (fun z h => absurd h List.not_mem_nil)⟩)⟩) rfl (by decide) (X.ts _ m_685) (cd_at g0 (tb_3 (List.mem_of_getElem? (i := 212) (by decide +kernel)))) hc1 hc2 hc3 ?_
      refine lv_astore (lv' := [(6, .ref q9), (0, .ref b), (1, .int p0), (2, .int p1), (3, .int p2), (4, .int p3), (5, .ref ao)]) X.ex X.co dL_answer_25 hl (by decide) rfl (fun ls hl => ?_)
      refine lv_iconst (v := 3) X.ex X.co dL_answer_27 (by decide) ?_
      exact c_i X hS rfl rfl ⟨(by rw [hk0]; rfl), hCB, (by omega), f, by rw [iup_eq he]; exact hO, fun z => absurd (hk0.symm.trans z) (by omega)⟩ (by omega) (by omega) dL_answer_28
    · obtain rfl : "java/lang/IllegalStateException" = E := Option.some.inj hT
      refine vx_catch X.ow [⟨0, 14, 17, 21⟩, ⟨0, 14, 21, 13⟩, ⟨0, 14, 25, 47⟩] ⟨0, 14, 29, 15⟩ [] htab (List.forall_mem_cons.mpr ⟨Or.inr ⟨by decide, "java/lang/IndexOutOfBoundsException", X.ts _ m_445, nc_at g0 (List.mem_of_getElem? (i := 11) rfl)⟩, (List.forall_mem_cons.mpr ⟨Or.inr ⟨by decide, "java/lang/IllegalArgumentException", X.ts _ m_268, nc_at g0 (List.mem_of_getElem? (i := 0) rfl)⟩, (List.forall_mem_cons.mpr ⟨Or.inr ⟨by decide, "java/lang/UnsupportedOperationException", X.ts _ m_685, nc_at g0 (List.mem_of_getElem? (i := 16) rfl)⟩, (fun z h => absurd h List.not_mem_nil)⟩)⟩)⟩) rfl (by decide) (X.ts _ m_269) (cd_at g0 (tb_2 (List.mem_of_getElem? (i := 108) (by decide +kernel)))) hc1 hc2 hc3 ?_
      refine lv_astore (lv' := [(6, .ref q9), (0, .ref b), (1, .int p0), (2, .int p1), (3, .int p2), (4, .int p3), (5, .ref ao)]) X.ex X.co dL_answer_29 hl (by decide) rfl (fun ls hl => ?_)
      refine lv_iconst (v := 4) X.ex X.co dL_answer_31 (by decide) ?_
      exact c_i X hS rfl rfl ⟨(by rw [hk0]; rfl), hCB, (by omega), f, by rw [iup_eq he]; exact hO, fun z => absurd (hk0.symm.trans z) (by omega)⟩ (by omega) (by omega) dL_answer_32
    · exact absurd hT (by simp)
  · obtain ⟨rfl, hk0, hCB⟩ := hB
    have hO : fw G.1 lv ad en AO H := F.2.kept (fun j hj => hk9 _ (F.2.lt hj) (fun z => hdis _ z (F.2.in hj)))
    refine lv_i2l X.ex X.co dL_answer_12 rfl ?_
    refine w_last X g0.1 hO hS (fun q h => Or.inr h) hi hao he dL_answer_13 (fun H locs f1 hf1 hO hq hz2 hS => ?_)
    have hCB := hCB.kept (fun q hA _ => hq q (fun z => hdis q hA (by rw [z, ← hao]; exact F.2.in hi)))
    refine lv_goto (tgt := 33) X.ex X.co dL_answer_14 (by decide) ?_
    refine lv_iconst (v := 0) X.ex X.co dL_answer_33 (by decide) ?_
    exact c_i X hS rfl rfl ⟨(by rw [hk0]; rfl), hCB, (by omega), f1, hO, fun _ => hf1⟩ (by omega) (by omega) dL_answer_34
theorem ce_X9_gradeOf : ceV yX9_gradeOf cX9_gradeOf 2 ((Option.some FieldType.int)) 1 := ⟨m_761, m_762, m_1, m_763, ⟨by decide, by decide, by decide +kernel⟩, by decide⟩
set_option maxHeartbeats 4000000 in
set_option maxRecDepth 100000 in
theorem c_L_gradeOf (l : Launch) (hst : l.stackTraces = false) (G : GT) (A AO : Nat → Prop) (hAg : ∀ q, A q → gA G q) (hdis : ∀ q, A q → ¬ AO q) (b : Nat) (σ : Sg) (hI : MI σ) (hJ : MJ σ) (h0 : σ.1 0 0 = 0) (p0 : Int32) (lv : I2 → Prop) (ad : I2 → Nat) (en : I2 → va_E) (i : I2) (hi : lv i) (ao : Nat) (hao : ad i = ao) (f : Nat → Int64) (he : en i = LgA G f) : Met l yL_gradeOf (wofW yL_gradeOf cL_gradeOf 4 (some .int) [(0, 9, 12, 21)]) (RM 5 1 6) (cPre [.ref b, .int p0, .ref ao] G (wPre G A AO b σ lv ad en)) (cQ (wB G A AO b (fGradeOf σ p0) lv ad en i) (fun q => A q ∨ AO q)) 1 6 (fun q => A q ∨ AO q) := by
  refine mk_w (by decide) (Nat.le_of_ble_eq_true rfl) ?_
  intro p e s m args below meth c X ls hl g0 F htab
  have hS : va_S (fun q => A q ∨ AO q) s.heap s.heap [] := va_S.rf
  obtain ⟨fsB, hfB⟩ := CB_at F.1.1
  have hl : lv_has ls 4 [(0, .ref b), (1, .int p0), (2, .ref ao)] := hl
  show W p l e (RM 5 1 6) s m args below meth c s.heap [] 0 0 (MQ below (cQ (wB G A AO b (fGradeOf σ p0) lv ad en i) (fun q => A q ∨ AO q)) args s 1 6 (fun q => A q ∨ AO q)) (F0 m 0 ls [])
  refine lv_aload_n X.ex X.co dL_gradeOf_0 rfl (lv_at hl 2 rfl) ?_
  refine lv_iconst (v := 0) X.ex X.co dL_gradeOf_1 (by decide) ?_
  refine lv_aload_n X.ex X.co dL_gradeOf_2 rfl (lv_at hl 0 rfl) ?_
  refine lv_iload_n X.ex X.co dL_gradeOf_3 rfl (lv_at hl 1 rfl) ?_
  refine w_V X ce_X9_gradeOf m_760 (c_X9_gradeOf l hst G A hAg b σ hI hJ h0 p0) g0 F.1 hfB rfl (by decide) rfl hl.1 rfl (Nat.le_of_ble_eq_true rfl) dL_gradeOf_4 (by omega) (by omega) hS (fun q h => Or.inl h) (fun E ce q9 H locs hB hz hk9 hS hc1 hc2 hc3 => ?_) (fun v0 H locs hB hz hk9 hS => ?_)
  · obtain ⟨k, hT, hk0, hCB⟩ := hB
    have hO : fw G.1 lv ad en AO H := F.2.kept (fun j hj => hk9 _ (F.2.lt hj) (fun z => hdis _ z (F.2.in hj)))
    rcases k with _ | k
    · obtain rfl : "java/lang/IndexOutOfBoundsException" = E := Option.some.inj hT
      refine vx_catch X.ow [] ⟨0, 9, 12, 21⟩ [] htab (fun z h => absurd h List.not_mem_nil) rfl (by decide) (X.ts _ m_445) (cd_at g0 (tb_2 (List.mem_of_getElem? (i := 235) (by decide +kernel)))) hc1 hc2 hc3 ?_
      refine lv_astore_n (lv' := [(3, .ref q9), (0, .ref b), (1, .int p0), (2, .ref ao)]) X.ex X.co dL_gradeOf_12 rfl hl (by decide) rfl (fun ls hl => ?_)
      refine lv_iconst (v := 1) X.ex X.co dL_gradeOf_13 (by decide) ?_
      exact c_i X hS rfl rfl ⟨(by rw [hk0]; rfl), hCB, (by omega), f, by rw [iup_eq he]; exact hO, fun z => absurd (hk0.symm.trans z) (by omega)⟩ (by omega) (by omega) dL_gradeOf_14
    · exact absurd hT (by simp)
  · obtain ⟨rfl, hk0, hCB⟩ := hB
    have hO : fw G.1 lv ad en AO H := F.2.kept (fun j hj => hk9 _ (F.2.lt hj) (fun z => hdis _ z (F.2.in hj)))
    refine lv_i2l X.ex X.co dL_gradeOf_7 rfl ?_
    refine w_last X g0.1 hO hS (fun q h => Or.inr h) hi hao he dL_gradeOf_8 (fun H locs f1 hf1 hO hq hz2 hS => ?_)
    have hCB := hCB.kept (fun q hA _ => hq q (fun z => hdis q hA (by rw [z, ← hao]; exact F.2.in hi)))
    refine lv_goto (tgt := 15) X.ex X.co dL_gradeOf_9 (by decide) ?_
    refine lv_iconst (v := 0) X.ex X.co dL_gradeOf_15 (by decide) ?_
    exact c_i X hS rfl rfl ⟨(by rw [hk0]; rfl), hCB, (by omega), f1, hO, fun _ => hf1⟩ (by omega) (by omega) dL_gradeOf_16
theorem ce_X9_gradeAnew : ceV yX9_gradeAnew cX9_gradeAnew 2 ((Option.some FieldType.int)) 1 := ⟨m_773, m_774, m_1, m_775, ⟨by decide, by decide, by decide +kernel⟩, by decide⟩
set_option maxHeartbeats 4000000 in
set_option maxRecDepth 100000 in
theorem c_L_gradeAnew (l : Launch) (hst : l.stackTraces = false) (G : GT) (A AO : Nat → Prop) (hAg : ∀ q, A q → gA G q) (hdis : ∀ q, A q → ¬ AO q) (b : Nat) (σ : Sg) (hI : MI σ) (hJ : MJ σ) (h0 : σ.1 0 0 = 0) (p0 : Int32) (lv : I2 → Prop) (ad : I2 → Nat) (en : I2 → va_E) (i : I2) (hi : lv i) (ao : Nat) (hao : ad i = ao) (f : Nat → Int64) (he : en i = LgA G f) : Met l yL_gradeAnew (wofW yL_gradeAnew cL_gradeAnew 4 (some .int) [(0, 9, 12, 21)]) (RM 5 1 6) (cPre [.ref b, .int p0, .ref ao] G (wPre G A AO b σ lv ad en)) (cQ (wB G A AO b (fGradeOf σ p0) lv ad en i) (fun q => A q ∨ AO q)) 1 6 (fun q => A q ∨ AO q) := by
  refine mk_w (by decide) (Nat.le_of_ble_eq_true rfl) ?_
  intro p e s m args below meth c X ls hl g0 F htab
  have hS : va_S (fun q => A q ∨ AO q) s.heap s.heap [] := va_S.rf
  obtain ⟨fsB, hfB⟩ := CB_at F.1.1
  have hl : lv_has ls 4 [(0, .ref b), (1, .int p0), (2, .ref ao)] := hl
  show W p l e (RM 5 1 6) s m args below meth c s.heap [] 0 0 (MQ below (cQ (wB G A AO b (fGradeOf σ p0) lv ad en i) (fun q => A q ∨ AO q)) args s 1 6 (fun q => A q ∨ AO q)) (F0 m 0 ls [])
  refine lv_aload_n X.ex X.co dL_gradeAnew_0 rfl (lv_at hl 2 rfl) ?_
  refine lv_iconst (v := 0) X.ex X.co dL_gradeAnew_1 (by decide) ?_
  refine lv_aload_n X.ex X.co dL_gradeAnew_2 rfl (lv_at hl 0 rfl) ?_
  refine lv_iload_n X.ex X.co dL_gradeAnew_3 rfl (lv_at hl 1 rfl) ?_
  refine w_V X ce_X9_gradeAnew m_772 (c_X9_gradeAnew l hst G A hAg b σ hI hJ h0 p0) g0 F.1 hfB rfl (by decide) rfl hl.1 rfl (Nat.le_of_ble_eq_true rfl) dL_gradeAnew_4 (by omega) (by omega) hS (fun q h => Or.inl h) (fun E ce q9 H locs hB hz hk9 hS hc1 hc2 hc3 => ?_) (fun v0 H locs hB hz hk9 hS => ?_)
  · obtain ⟨k, hT, hk0, hCB⟩ := hB
    have hO : fw G.1 lv ad en AO H := F.2.kept (fun j hj => hk9 _ (F.2.lt hj) (fun z => hdis _ z (F.2.in hj)))
    rcases k with _ | k
    · obtain rfl : "java/lang/IndexOutOfBoundsException" = E := Option.some.inj hT
      refine vx_catch X.ow [] ⟨0, 9, 12, 21⟩ [] htab (fun z h => absurd h List.not_mem_nil) rfl (by decide) (X.ts _ m_445) (cd_at g0 (tb_2 (List.mem_of_getElem? (i := 235) (by decide +kernel)))) hc1 hc2 hc3 ?_
      refine lv_astore_n (lv' := [(3, .ref q9), (0, .ref b), (1, .int p0), (2, .ref ao)]) X.ex X.co dL_gradeAnew_12 rfl hl (by decide) rfl (fun ls hl => ?_)
      refine lv_iconst (v := 1) X.ex X.co dL_gradeAnew_13 (by decide) ?_
      exact c_i X hS rfl rfl ⟨(by rw [hk0]; rfl), hCB, (by omega), f, by rw [iup_eq he]; exact hO, fun z => absurd (hk0.symm.trans z) (by omega)⟩ (by omega) (by omega) dL_gradeAnew_14
    · exact absurd hT (by simp)
  · obtain ⟨rfl, hk0, hCB⟩ := hB
    have hO : fw G.1 lv ad en AO H := F.2.kept (fun j hj => hk9 _ (F.2.lt hj) (fun z => hdis _ z (F.2.in hj)))
    refine lv_i2l X.ex X.co dL_gradeAnew_7 rfl ?_
    refine w_last X g0.1 hO hS (fun q h => Or.inr h) hi hao he dL_gradeAnew_8 (fun H locs f1 hf1 hO hq hz2 hS => ?_)
    have hCB := hCB.kept (fun q hA _ => hq q (fun z => hdis q hA (by rw [z, ← hao]; exact F.2.in hi)))
    refine lv_goto (tgt := 15) X.ex X.co dL_gradeAnew_9 (by decide) ?_
    refine lv_iconst (v := 0) X.ex X.co dL_gradeAnew_15 (by decide) ?_
    exact c_i X hS rfl rfl ⟨(by rw [hk0]; rfl), hCB, (by omega), f1, hO, fun _ => hf1⟩ (by omega) (by omega) dL_gradeAnew_16
theorem ce_X9_creditOf : ceV yX9_creditOf cX9_creditOf 4 ((Option.some FieldType.int)) 2 := ⟨m_781, m_782, m_1, m_783, ⟨by decide, by decide, by decide +kernel⟩, by decide⟩
set_option maxHeartbeats 4000000 in
set_option maxRecDepth 100000 in
theorem c_L_creditOf (l : Launch) (hst : l.stackTraces = false) (G : GT) (A AO : Nat → Prop) (hAg : ∀ q, A q → gA G q) (hdis : ∀ q, A q → ¬ AO q) (b : Nat) (σ : Sg) (hI : MI σ) (hJ : MJ σ) (h0 : σ.1 0 0 = 0) (p0 p1 : Int32) (lv : I2 → Prop) (ad : I2 → Nat) (en : I2 → va_E) (i : I2) (hi : lv i) (ao : Nat) (hao : ad i = ao) (f : Nat → Int64) (he : en i = LgA G f) : Met l yL_creditOf (wofW yL_creditOf cL_creditOf 5 (some .int) [(0, 10, 13, 21), (0, 10, 17, 58)]) (RM 5 1 6) (cPre [.ref b, .int p0, .int p1, .ref ao] G (wPre G A AO b σ lv ad en)) (cQ (wB G A AO b (fCreditOf σ p0 p1) lv ad en i) (fun q => A q ∨ AO q)) 1 6 (fun q => A q ∨ AO q) := by
  refine mk_w (by decide) (Nat.le_of_ble_eq_true rfl) ?_
  intro p e s m args below meth c X ls hl g0 F htab
  have hS : va_S (fun q => A q ∨ AO q) s.heap s.heap [] := va_S.rf
  obtain ⟨fsB, hfB⟩ := CB_at F.1.1
  have hl : lv_has ls 5 [(0, .ref b), (1, .int p0), (2, .int p1), (3, .ref ao)] := hl
  show W p l e (RM 5 1 6) s m args below meth c s.heap [] 0 0 (MQ below (cQ (wB G A AO b (fCreditOf σ p0 p1) lv ad en i) (fun q => A q ∨ AO q)) args s 1 6 (fun q => A q ∨ AO q)) (F0 m 0 ls [])
  refine lv_aload_n X.ex X.co dL_creditOf_0 rfl (lv_at hl 3 rfl) ?_
  refine lv_iconst (v := 0) X.ex X.co dL_creditOf_1 (by decide) ?_
  refine lv_aload_n X.ex X.co dL_creditOf_2 rfl (lv_at hl 0 rfl) ?_
  refine lv_iload_n X.ex X.co dL_creditOf_3 rfl (lv_at hl 1 rfl) ?_
  refine lv_iload_n X.ex X.co dL_creditOf_4 rfl (lv_at hl 2 rfl) ?_
  refine w_V X ce_X9_creditOf m_780 (c_X9_creditOf l hst G A hAg b σ hI hJ h0 p0 p1) g0 F.1 hfB rfl (by decide) rfl hl.1 rfl (Nat.le_of_ble_eq_true rfl) dL_creditOf_5 (by omega) (by omega) hS (fun q h => Or.inl h) (fun E ce q9 H locs hB hz hk9 hS hc1 hc2 hc3 => ?_) (fun v0 H locs hB hz hk9 hS => ?_)
  · obtain ⟨k, hT, hk0, hCB⟩ := hB
    have hO : fw G.1 lv ad en AO H := F.2.kept (fun j hj => hk9 _ (F.2.lt hj) (fun z => hdis _ z (F.2.in hj)))
    rcases k with _ | _ | k
    · obtain rfl : "java/lang/IndexOutOfBoundsException" = E := Option.some.inj hT
      refine vx_catch X.ow [] ⟨0, 10, 13, 21⟩ [⟨0, 10, 17, 58⟩] htab (fun z h => absurd h List.not_mem_nil) rfl (by decide) (X.ts _ m_445) (cd_at g0 (tb_2 (List.mem_of_getElem? (i := 235) (by decide +kernel)))) hc1 hc2 hc3 ?_
      refine lv_astore (lv' := [(4, .ref q9), (0, .ref b), (1, .int p0), (2, .int p1), (3, .ref ao)]) X.ex X.co dL_creditOf_13 hl (by decide) rfl (fun ls hl => ?_)
      refine lv_iconst (v := 1) X.ex X.co dL_creditOf_15 (by decide) ?_
      exact c_i X hS rfl rfl ⟨(by rw [hk0]; rfl), hCB, (by omega), f, by rw [iup_eq he]; exact hO, fun z => absurd (hk0.symm.trans z) (by omega)⟩ (by omega) (by omega) dL_creditOf_16
    · obtain rfl : "java/util/NoSuchElementException" = E := Option.some.inj hT
      refine vx_catch X.ow [⟨0, 10, 13, 21⟩] ⟨0, 10, 17, 58⟩ [] htab (List.forall_mem_cons.mpr ⟨Or.inr ⟨by decide, "java/lang/IndexOutOfBoundsException", X.ts _ m_445, nc_at g0 (List.mem_of_getElem? (i := 13) rfl)⟩, (fun z h => absurd h List.not_mem_nil)⟩) rfl (by decide) (X.ts _ m_779) (cd_at g0 (tb_4 (List.mem_of_getElem? (i := 66) (by decide +kernel)))) hc1 hc2 hc3 ?_
      refine lv_astore (lv' := [(4, .ref q9), (0, .ref b), (1, .int p0), (2, .int p1), (3, .ref ao)]) X.ex X.co dL_creditOf_17 hl (by decide) rfl (fun ls hl => ?_)
      refine lv_iconst (v := 2) X.ex X.co dL_creditOf_19 (by decide) ?_
      exact c_i X hS rfl rfl ⟨(by rw [hk0]; rfl), hCB, (by omega), f, by rw [iup_eq he]; exact hO, fun z => absurd (hk0.symm.trans z) (by omega)⟩ (by omega) (by omega) dL_creditOf_20
    · exact absurd hT (by simp)
  · obtain ⟨rfl, hk0, hCB⟩ := hB
    have hO : fw G.1 lv ad en AO H := F.2.kept (fun j hj => hk9 _ (F.2.lt hj) (fun z => hdis _ z (F.2.in hj)))
    refine lv_i2l X.ex X.co dL_creditOf_8 rfl ?_
    refine w_last X g0.1 hO hS (fun q h => Or.inr h) hi hao he dL_creditOf_9 (fun H locs f1 hf1 hO hq hz2 hS => ?_)
    have hCB := hCB.kept (fun q hA _ => hq q (fun z => hdis q hA (by rw [z, ← hao]; exact F.2.in hi)))
    refine lv_goto (tgt := 21) X.ex X.co dL_creditOf_10 (by decide) ?_
    refine lv_iconst (v := 0) X.ex X.co dL_creditOf_21 (by decide) ?_
    exact c_i X hS rfl rfl ⟨(by rw [hk0]; rfl), hCB, (by omega), f1, hO, fun _ => hf1⟩ (by omega) (by omega) dL_creditOf_22
theorem ce_X9_studentOf : ceV yX9_studentOf cX9_studentOf 2 ((Option.some FieldType.int)) 1 := ⟨m_805, m_806, m_1, m_807, ⟨by decide, by decide, by decide +kernel⟩, by decide⟩
set_option maxHeartbeats 4000000 in
set_option maxRecDepth 100000 in
theorem c_L_studentOf (l : Launch) (hst : l.stackTraces = false) (G : GT) (A AO : Nat → Prop) (hAg : ∀ q, A q → gA G q) (hdis : ∀ q, A q → ¬ AO q) (b : Nat) (σ : Sg) (hI : MI σ) (hJ : MJ σ) (h0 : σ.1 0 0 = 0) (p0 : Int32) (lv : I2 → Prop) (ad : I2 → Nat) (en : I2 → va_E) (i : I2) (hi : lv i) (ao : Nat) (hao : ad i = ao) (f : Nat → Int64) (he : en i = LgA G f) : Met l yL_studentOf (wofW yL_studentOf cL_studentOf 4 (some .int) [(0, 9, 12, 21)]) (RM 5 1 6) (cPre [.ref b, .int p0, .ref ao] G (wPre G A AO b σ lv ad en)) (cQ (wB G A AO b (fStudentOf σ p0) lv ad en i) (fun q => A q ∨ AO q)) 1 6 (fun q => A q ∨ AO q) := by
  refine mk_w (by decide) (Nat.le_of_ble_eq_true rfl) ?_
  intro p e s m args below meth c X ls hl g0 F htab
  have hS : va_S (fun q => A q ∨ AO q) s.heap s.heap [] := va_S.rf
  obtain ⟨fsB, hfB⟩ := CB_at F.1.1
  have hl : lv_has ls 4 [(0, .ref b), (1, .int p0), (2, .ref ao)] := hl
  show W p l e (RM 5 1 6) s m args below meth c s.heap [] 0 0 (MQ below (cQ (wB G A AO b (fStudentOf σ p0) lv ad en i) (fun q => A q ∨ AO q)) args s 1 6 (fun q => A q ∨ AO q)) (F0 m 0 ls [])
  refine lv_aload_n X.ex X.co dL_studentOf_0 rfl (lv_at hl 2 rfl) ?_
  refine lv_iconst (v := 0) X.ex X.co dL_studentOf_1 (by decide) ?_
  refine lv_aload_n X.ex X.co dL_studentOf_2 rfl (lv_at hl 0 rfl) ?_
  refine lv_iload_n X.ex X.co dL_studentOf_3 rfl (lv_at hl 1 rfl) ?_
  refine w_V X ce_X9_studentOf m_804 (c_X9_studentOf l hst G A hAg b σ hI hJ h0 p0) g0 F.1 hfB rfl (by decide) rfl hl.1 rfl (Nat.le_of_ble_eq_true rfl) dL_studentOf_4 (by omega) (by omega) hS (fun q h => Or.inl h) (fun E ce q9 H locs hB hz hk9 hS hc1 hc2 hc3 => ?_) (fun v0 H locs hB hz hk9 hS => ?_)
  · obtain ⟨k, hT, hk0, hCB⟩ := hB
    have hO : fw G.1 lv ad en AO H := F.2.kept (fun j hj => hk9 _ (F.2.lt hj) (fun z => hdis _ z (F.2.in hj)))
    rcases k with _ | k
    · obtain rfl : "java/lang/IndexOutOfBoundsException" = E := Option.some.inj hT
      refine vx_catch X.ow [] ⟨0, 9, 12, 21⟩ [] htab (fun z h => absurd h List.not_mem_nil) rfl (by decide) (X.ts _ m_445) (cd_at g0 (tb_2 (List.mem_of_getElem? (i := 235) (by decide +kernel)))) hc1 hc2 hc3 ?_
      refine lv_astore_n (lv' := [(3, .ref q9), (0, .ref b), (1, .int p0), (2, .ref ao)]) X.ex X.co dL_studentOf_12 rfl hl (by decide) rfl (fun ls hl => ?_)
      refine lv_iconst (v := 1) X.ex X.co dL_studentOf_13 (by decide) ?_
      exact c_i X hS rfl rfl ⟨(by rw [hk0]; rfl), hCB, (by omega), f, by rw [iup_eq he]; exact hO, fun z => absurd (hk0.symm.trans z) (by omega)⟩ (by omega) (by omega) dL_studentOf_14
    · exact absurd hT (by simp)
  · obtain ⟨rfl, hk0, hCB⟩ := hB
    have hO : fw G.1 lv ad en AO H := F.2.kept (fun j hj => hk9 _ (F.2.lt hj) (fun z => hdis _ z (F.2.in hj)))
    refine lv_i2l X.ex X.co dL_studentOf_7 rfl ?_
    refine w_last X g0.1 hO hS (fun q h => Or.inr h) hi hao he dL_studentOf_8 (fun H locs f1 hf1 hO hq hz2 hS => ?_)
    have hCB := hCB.kept (fun q hA _ => hq q (fun z => hdis q hA (by rw [z, ← hao]; exact F.2.in hi)))
    refine lv_goto (tgt := 15) X.ex X.co dL_studentOf_9 (by decide) ?_
    refine lv_iconst (v := 0) X.ex X.co dL_studentOf_15 (by decide) ?_
    exact c_i X hS rfl rfl ⟨(by rw [hk0]; rfl), hCB, (by omega), f1, hO, fun _ => hf1⟩ (by omega) (by omega) dL_studentOf_16
theorem ce_X9_dayOf : ceV yX9_dayOf cX9_dayOf 2 ((Option.some FieldType.int)) 1 := ⟨m_812, m_813, m_1, m_814, ⟨by decide, by decide, by decide +kernel⟩, by decide⟩
set_option maxHeartbeats 4000000 in
set_option maxRecDepth 100000 in
theorem c_L_dayOf (l : Launch) (hst : l.stackTraces = false) (G : GT) (A AO : Nat → Prop) (hAg : ∀ q, A q → gA G q) (hdis : ∀ q, A q → ¬ AO q) (b : Nat) (σ : Sg) (hI : MI σ) (hJ : MJ σ) (h0 : σ.1 0 0 = 0) (p0 : Int32) (lv : I2 → Prop) (ad : I2 → Nat) (en : I2 → va_E) (i : I2) (hi : lv i) (ao : Nat) (hao : ad i = ao) (f : Nat → Int64) (he : en i = LgA G f) : Met l yL_dayOf (wofW yL_dayOf cL_dayOf 4 (some .int) [(0, 9, 12, 21)]) (RM 5 1 6) (cPre [.ref b, .int p0, .ref ao] G (wPre G A AO b σ lv ad en)) (cQ (wB G A AO b (fDayOf σ p0) lv ad en i) (fun q => A q ∨ AO q)) 1 6 (fun q => A q ∨ AO q) := by
  refine mk_w (by decide) (Nat.le_of_ble_eq_true rfl) ?_
  intro p e s m args below meth c X ls hl g0 F htab
  have hS : va_S (fun q => A q ∨ AO q) s.heap s.heap [] := va_S.rf
  obtain ⟨fsB, hfB⟩ := CB_at F.1.1
  have hl : lv_has ls 4 [(0, .ref b), (1, .int p0), (2, .ref ao)] := hl
  show W p l e (RM 5 1 6) s m args below meth c s.heap [] 0 0 (MQ below (cQ (wB G A AO b (fDayOf σ p0) lv ad en i) (fun q => A q ∨ AO q)) args s 1 6 (fun q => A q ∨ AO q)) (F0 m 0 ls [])
  refine lv_aload_n X.ex X.co dL_dayOf_0 rfl (lv_at hl 2 rfl) ?_
  refine lv_iconst (v := 0) X.ex X.co dL_dayOf_1 (by decide) ?_
  refine lv_aload_n X.ex X.co dL_dayOf_2 rfl (lv_at hl 0 rfl) ?_
  refine lv_iload_n X.ex X.co dL_dayOf_3 rfl (lv_at hl 1 rfl) ?_
  refine w_V X ce_X9_dayOf m_811 (c_X9_dayOf l hst G A hAg b σ hI hJ h0 p0) g0 F.1 hfB rfl (by decide) rfl hl.1 rfl (Nat.le_of_ble_eq_true rfl) dL_dayOf_4 (by omega) (by omega) hS (fun q h => Or.inl h) (fun E ce q9 H locs hB hz hk9 hS hc1 hc2 hc3 => ?_) (fun v0 H locs hB hz hk9 hS => ?_)
  · obtain ⟨k, hT, hk0, hCB⟩ := hB
    have hO : fw G.1 lv ad en AO H := F.2.kept (fun j hj => hk9 _ (F.2.lt hj) (fun z => hdis _ z (F.2.in hj)))
    rcases k with _ | k
    · obtain rfl : "java/lang/IndexOutOfBoundsException" = E := Option.some.inj hT
      refine vx_catch X.ow [] ⟨0, 9, 12, 21⟩ [] htab (fun z h => absurd h List.not_mem_nil) rfl (by decide) (X.ts _ m_445) (cd_at g0 (tb_2 (List.mem_of_getElem? (i := 235) (by decide +kernel)))) hc1 hc2 hc3 ?_
      refine lv_astore_n (lv' := [(3, .ref q9), (0, .ref b), (1, .int p0), (2, .ref ao)]) X.ex X.co dL_dayOf_12 rfl hl (by decide) rfl (fun ls hl => ?_)
      refine lv_iconst (v := 1) X.ex X.co dL_dayOf_13 (by decide) ?_
      exact c_i X hS rfl rfl ⟨(by rw [hk0]; rfl), hCB, (by omega), f, by rw [iup_eq he]; exact hO, fun z => absurd (hk0.symm.trans z) (by omega)⟩ (by omega) (by omega) dL_dayOf_14
    · exact absurd hT (by simp)
  · obtain ⟨rfl, hk0, hCB⟩ := hB
    have hO : fw G.1 lv ad en AO H := F.2.kept (fun j hj => hk9 _ (F.2.lt hj) (fun z => hdis _ z (F.2.in hj)))
    refine lv_i2l X.ex X.co dL_dayOf_7 rfl ?_
    refine w_last X g0.1 hO hS (fun q h => Or.inr h) hi hao he dL_dayOf_8 (fun H locs f1 hf1 hO hq hz2 hS => ?_)
    have hCB := hCB.kept (fun q hA _ => hq q (fun z => hdis q hA (by rw [z, ← hao]; exact F.2.in hi)))
    refine lv_goto (tgt := 15) X.ex X.co dL_dayOf_9 (by decide) ?_
    refine lv_iconst (v := 0) X.ex X.co dL_dayOf_15 (by decide) ?_
    exact c_i X hS rfl rfl ⟨(by rw [hk0]; rfl), hCB, (by omega), f1, hO, fun _ => hf1⟩ (by omega) (by omega) dL_dayOf_16
theorem ce_X9_bestAnswer : ceV yX9_bestAnswer cX9_bestAnswer 4 ((Option.some FieldType.int)) 2 := ⟨m_819, m_820, m_1, m_821, ⟨by decide, by decide, by decide +kernel⟩, by decide⟩
set_option maxHeartbeats 4000000 in
set_option maxRecDepth 100000 in
theorem c_L_bestAnswer (l : Launch) (hst : l.stackTraces = false) (G : GT) (A AO : Nat → Prop) (hAg : ∀ q, A q → gA G q) (hdis : ∀ q, A q → ¬ AO q) (b : Nat) (σ : Sg) (hI : MI σ) (hJ : MJ σ) (h0 : σ.1 0 0 = 0) (p0 p1 : Int32) (lv : I2 → Prop) (ad : I2 → Nat) (en : I2 → va_E) (i : I2) (hi : lv i) (ao : Nat) (hao : ad i = ao) (f : Nat → Int64) (he : en i = LgA G f) : Met l yL_bestAnswer (wofW yL_bestAnswer cL_bestAnswer 5 (some .int) [(0, 10, 13, 21), (0, 10, 17, 58)]) (RM 6 2 9) (cPre [.ref b, .int p0, .int p1, .ref ao] G (wPre G A AO b σ lv ad en)) (cQ (wB G A AO b (fBestAnswer σ p0 p1) lv ad en i) (fun q => A q ∨ AO q)) 2 9 (fun q => A q ∨ AO q) := by
  refine mk_w (by decide) (Nat.le_of_ble_eq_true rfl) ?_
  intro p e s m args below meth c X ls hl g0 F htab
  have hS : va_S (fun q => A q ∨ AO q) s.heap s.heap [] := va_S.rf
  obtain ⟨fsB, hfB⟩ := CB_at F.1.1
  have hl : lv_has ls 5 [(0, .ref b), (1, .int p0), (2, .int p1), (3, .ref ao)] := hl
  show W p l e (RM 6 2 9) s m args below meth c s.heap [] 0 0 (MQ below (cQ (wB G A AO b (fBestAnswer σ p0 p1) lv ad en i) (fun q => A q ∨ AO q)) args s 2 9 (fun q => A q ∨ AO q)) (F0 m 0 ls [])
  refine lv_aload_n X.ex X.co dL_bestAnswer_0 rfl (lv_at hl 3 rfl) ?_
  refine lv_iconst (v := 0) X.ex X.co dL_bestAnswer_1 (by decide) ?_
  refine lv_aload_n X.ex X.co dL_bestAnswer_2 rfl (lv_at hl 0 rfl) ?_
  refine lv_iload_n X.ex X.co dL_bestAnswer_3 rfl (lv_at hl 1 rfl) ?_
  refine lv_iload_n X.ex X.co dL_bestAnswer_4 rfl (lv_at hl 2 rfl) ?_
  refine w_V X ce_X9_bestAnswer m_818 (c_X9_bestAnswer l hst G A hAg b σ hI hJ h0 p0 p1) g0 F.1 hfB rfl (by decide) rfl hl.1 rfl (Nat.le_of_ble_eq_true rfl) dL_bestAnswer_5 (by omega) (by omega) hS (fun q h => Or.inl h) (fun E ce q9 H locs hB hz hk9 hS hc1 hc2 hc3 => ?_) (fun v0 H locs hB hz hk9 hS => ?_)
  · obtain ⟨k, hT, hk0, hCB⟩ := hB
    have hO : fw G.1 lv ad en AO H := F.2.kept (fun j hj => hk9 _ (F.2.lt hj) (fun z => hdis _ z (F.2.in hj)))
    rcases k with _ | _ | k
    · obtain rfl : "java/lang/IndexOutOfBoundsException" = E := Option.some.inj hT
      refine vx_catch X.ow [] ⟨0, 10, 13, 21⟩ [⟨0, 10, 17, 58⟩] htab (fun z h => absurd h List.not_mem_nil) rfl (by decide) (X.ts _ m_445) (cd_at g0 (tb_2 (List.mem_of_getElem? (i := 235) (by decide +kernel)))) hc1 hc2 hc3 ?_
      refine lv_astore (lv' := [(4, .ref q9), (0, .ref b), (1, .int p0), (2, .int p1), (3, .ref ao)]) X.ex X.co dL_bestAnswer_13 hl (by decide) rfl (fun ls hl => ?_)
      refine lv_iconst (v := 1) X.ex X.co dL_bestAnswer_15 (by decide) ?_
      exact c_i X hS rfl rfl ⟨(by rw [hk0]; rfl), hCB, (by omega), f, by rw [iup_eq he]; exact hO, fun z => absurd (hk0.symm.trans z) (by omega)⟩ (by omega) (by omega) dL_bestAnswer_16
    · obtain rfl : "java/util/NoSuchElementException" = E := Option.some.inj hT
      refine vx_catch X.ow [⟨0, 10, 13, 21⟩] ⟨0, 10, 17, 58⟩ [] htab (List.forall_mem_cons.mpr ⟨Or.inr ⟨by decide, "java/lang/IndexOutOfBoundsException", X.ts _ m_445, nc_at g0 (List.mem_of_getElem? (i := 13) rfl)⟩, (fun z h => absurd h List.not_mem_nil)⟩) rfl (by decide) (X.ts _ m_779) (cd_at g0 (tb_4 (List.mem_of_getElem? (i := 66) (by decide +kernel)))) hc1 hc2 hc3 ?_
      refine lv_astore (lv' := [(4, .ref q9), (0, .ref b), (1, .int p0), (2, .int p1), (3, .ref ao)]) X.ex X.co dL_bestAnswer_17 hl (by decide) rfl (fun ls hl => ?_)
      refine lv_iconst (v := 2) X.ex X.co dL_bestAnswer_19 (by decide) ?_
      exact c_i X hS rfl rfl ⟨(by rw [hk0]; rfl), hCB, (by omega), f, by rw [iup_eq he]; exact hO, fun z => absurd (hk0.symm.trans z) (by omega)⟩ (by omega) (by omega) dL_bestAnswer_20
    · exact absurd hT (by simp)
  · obtain ⟨rfl, hk0, hCB⟩ := hB
    have hO : fw G.1 lv ad en AO H := F.2.kept (fun j hj => hk9 _ (F.2.lt hj) (fun z => hdis _ z (F.2.in hj)))
    refine lv_i2l X.ex X.co dL_bestAnswer_8 rfl ?_
    refine w_last X g0.1 hO hS (fun q h => Or.inr h) hi hao he dL_bestAnswer_9 (fun H locs f1 hf1 hO hq hz2 hS => ?_)
    have hCB := hCB.kept (fun q hA _ => hq q (fun z => hdis q hA (by rw [z, ← hao]; exact F.2.in hi)))
    refine lv_goto (tgt := 21) X.ex X.co dL_bestAnswer_10 (by decide) ?_
    refine lv_iconst (v := 0) X.ex X.co dL_bestAnswer_21 (by decide) ?_
    exact c_i X hS rfl rfl ⟨(by rw [hk0]; rfl), hCB, (by omega), f1, hO, fun _ => hf1⟩ (by omega) (by omega) dL_bestAnswer_22
theorem ce_X9_mastery : ceV yX9_mastery cX9_mastery 3 ((Option.some FieldType.int)) 2 := ⟨m_828, m_829, m_1, m_830, ⟨by decide, by decide, by decide +kernel⟩, by decide⟩
set_option maxHeartbeats 4000000 in
set_option maxRecDepth 100000 in
theorem c_L_mastery (l : Launch) (hst : l.stackTraces = false) (G : GT) (A AO : Nat → Prop) (hAg : ∀ q, A q → gA G q) (hdis : ∀ q, A q → ¬ AO q) (b : Nat) (σ : Sg) (hI : MI σ) (hJ : MJ σ) (h0 : σ.1 0 0 = 0) (p0 p1 : Int32) (lv : I2 → Prop) (ad : I2 → Nat) (en : I2 → va_E) (i : I2) (hi : lv i) (ao : Nat) (hao : ad i = ao) (f : Nat → Int64) (he : en i = LgA G f) : Met l yL_mastery (wofW yL_mastery cL_mastery 5 (some .int) [(0, 10, 13, 21)]) (RM 6 2 9) (cPre [.ref b, .int p0, .int p1, .ref ao] G (wPre G A AO b σ lv ad en)) (cQ (wB G A AO b (fMastery σ p0 p1) lv ad en i) (fun q => A q ∨ AO q)) 2 9 (fun q => A q ∨ AO q) := by
  refine mk_w (by decide) (Nat.le_of_ble_eq_true rfl) ?_
  intro p e s m args below meth c X ls hl g0 F htab
  have hS : va_S (fun q => A q ∨ AO q) s.heap s.heap [] := va_S.rf
  obtain ⟨fsB, hfB⟩ := CB_at F.1.1
  have hl : lv_has ls 5 [(0, .ref b), (1, .int p0), (2, .int p1), (3, .ref ao)] := hl
  show W p l e (RM 6 2 9) s m args below meth c s.heap [] 0 0 (MQ below (cQ (wB G A AO b (fMastery σ p0 p1) lv ad en i) (fun q => A q ∨ AO q)) args s 2 9 (fun q => A q ∨ AO q)) (F0 m 0 ls [])
  refine lv_aload_n X.ex X.co dL_mastery_0 rfl (lv_at hl 3 rfl) ?_
  refine lv_iconst (v := 0) X.ex X.co dL_mastery_1 (by decide) ?_
  refine lv_aload_n X.ex X.co dL_mastery_2 rfl (lv_at hl 0 rfl) ?_
  refine lv_iload_n X.ex X.co dL_mastery_3 rfl (lv_at hl 1 rfl) ?_
  refine lv_iload_n X.ex X.co dL_mastery_4 rfl (lv_at hl 2 rfl) ?_
  refine w_V X ce_X9_mastery m_827 (c_X9_mastery l hst G A hAg b σ hI hJ h0 p0 p1) g0 F.1 hfB rfl (by decide) rfl hl.1 rfl (Nat.le_of_ble_eq_true rfl) dL_mastery_5 (by omega) (by omega) hS (fun q h => Or.inl h) (fun E ce q9 H locs hB hz hk9 hS hc1 hc2 hc3 => ?_) (fun v0 H locs hB hz hk9 hS => ?_)
  · obtain ⟨k, hT, hk0, hCB⟩ := hB
    have hO : fw G.1 lv ad en AO H := F.2.kept (fun j hj => hk9 _ (F.2.lt hj) (fun z => hdis _ z (F.2.in hj)))
    rcases k with _ | k
    · obtain rfl : "java/lang/IndexOutOfBoundsException" = E := Option.some.inj hT
      refine vx_catch X.ow [] ⟨0, 10, 13, 21⟩ [] htab (fun z h => absurd h List.not_mem_nil) rfl (by decide) (X.ts _ m_445) (cd_at g0 (tb_2 (List.mem_of_getElem? (i := 235) (by decide +kernel)))) hc1 hc2 hc3 ?_
      refine lv_astore (lv' := [(4, .ref q9), (0, .ref b), (1, .int p0), (2, .int p1), (3, .ref ao)]) X.ex X.co dL_mastery_13 hl (by decide) rfl (fun ls hl => ?_)
      refine lv_iconst (v := 1) X.ex X.co dL_mastery_15 (by decide) ?_
      exact c_i X hS rfl rfl ⟨(by rw [hk0]; rfl), hCB, (by omega), f, by rw [iup_eq he]; exact hO, fun z => absurd (hk0.symm.trans z) (by omega)⟩ (by omega) (by omega) dL_mastery_16
    · exact absurd hT (by simp)
  · obtain ⟨rfl, hk0, hCB⟩ := hB
    have hO : fw G.1 lv ad en AO H := F.2.kept (fun j hj => hk9 _ (F.2.lt hj) (fun z => hdis _ z (F.2.in hj)))
    refine lv_i2l X.ex X.co dL_mastery_8 rfl ?_
    refine w_last X g0.1 hO hS (fun q h => Or.inr h) hi hao he dL_mastery_9 (fun H locs f1 hf1 hO hq hz2 hS => ?_)
    have hCB := hCB.kept (fun q hA _ => hq q (fun z => hdis q hA (by rw [z, ← hao]; exact F.2.in hi)))
    refine lv_goto (tgt := 17) X.ex X.co dL_mastery_10 (by decide) ?_
    refine lv_iconst (v := 0) X.ex X.co dL_mastery_17 (by decide) ?_
    exact c_i X hS rfl rfl ⟨(by rw [hk0]; rfl), hCB, (by omega), f1, hO, fun _ => hf1⟩ (by omega) (by omega) dL_mastery_18
theorem ce_X9_masteryAnew : ceV yX9_masteryAnew cX9_masteryAnew 3 ((Option.some FieldType.int)) 2 := ⟨m_835, m_836, m_1, m_837, ⟨by decide, by decide, by decide +kernel⟩, by decide⟩
set_option maxHeartbeats 4000000 in
set_option maxRecDepth 100000 in
theorem c_L_masteryAnew (l : Launch) (hst : l.stackTraces = false) (G : GT) (A AO : Nat → Prop) (hAg : ∀ q, A q → gA G q) (hdis : ∀ q, A q → ¬ AO q) (b : Nat) (σ : Sg) (hI : MI σ) (hJ : MJ σ) (h0 : σ.1 0 0 = 0) (p0 p1 : Int32) (lv : I2 → Prop) (ad : I2 → Nat) (en : I2 → va_E) (i : I2) (hi : lv i) (ao : Nat) (hao : ad i = ao) (f : Nat → Int64) (he : en i = LgA G f) : Met l yL_masteryAnew (wofW yL_masteryAnew cL_masteryAnew 5 (some .int) [(0, 10, 13, 21)]) (RM 6 1 6) (cPre [.ref b, .int p0, .int p1, .ref ao] G (wPre G A AO b σ lv ad en)) (cQ (wB G A AO b (fMastery σ p0 p1) lv ad en i) (fun q => A q ∨ AO q)) 1 6 (fun q => A q ∨ AO q) := by
  refine mk_w (by decide) (Nat.le_of_ble_eq_true rfl) ?_
  intro p e s m args below meth c X ls hl g0 F htab
  have hS : va_S (fun q => A q ∨ AO q) s.heap s.heap [] := va_S.rf
  obtain ⟨fsB, hfB⟩ := CB_at F.1.1
  have hl : lv_has ls 5 [(0, .ref b), (1, .int p0), (2, .int p1), (3, .ref ao)] := hl
  show W p l e (RM 6 1 6) s m args below meth c s.heap [] 0 0 (MQ below (cQ (wB G A AO b (fMastery σ p0 p1) lv ad en i) (fun q => A q ∨ AO q)) args s 1 6 (fun q => A q ∨ AO q)) (F0 m 0 ls [])
  refine lv_aload_n X.ex X.co dL_masteryAnew_0 rfl (lv_at hl 3 rfl) ?_
  refine lv_iconst (v := 0) X.ex X.co dL_masteryAnew_1 (by decide) ?_
  refine lv_aload_n X.ex X.co dL_masteryAnew_2 rfl (lv_at hl 0 rfl) ?_
  refine lv_iload_n X.ex X.co dL_masteryAnew_3 rfl (lv_at hl 1 rfl) ?_
  refine lv_iload_n X.ex X.co dL_masteryAnew_4 rfl (lv_at hl 2 rfl) ?_
  refine w_V X ce_X9_masteryAnew m_834 (c_X9_masteryAnew l hst G A hAg b σ hI hJ h0 p0 p1) g0 F.1 hfB rfl (by decide) rfl hl.1 rfl (Nat.le_of_ble_eq_true rfl) dL_masteryAnew_5 (by omega) (by omega) hS (fun q h => Or.inl h) (fun E ce q9 H locs hB hz hk9 hS hc1 hc2 hc3 => ?_) (fun v0 H locs hB hz hk9 hS => ?_)
  · obtain ⟨k, hT, hk0, hCB⟩ := hB
    have hO : fw G.1 lv ad en AO H := F.2.kept (fun j hj => hk9 _ (F.2.lt hj) (fun z => hdis _ z (F.2.in hj)))
    rcases k with _ | k
    · obtain rfl : "java/lang/IndexOutOfBoundsException" = E := Option.some.inj hT
      refine vx_catch X.ow [] ⟨0, 10, 13, 21⟩ [] htab (fun z h => absurd h List.not_mem_nil) rfl (by decide) (X.ts _ m_445) (cd_at g0 (tb_2 (List.mem_of_getElem? (i := 235) (by decide +kernel)))) hc1 hc2 hc3 ?_
      refine lv_astore (lv' := [(4, .ref q9), (0, .ref b), (1, .int p0), (2, .int p1), (3, .ref ao)]) X.ex X.co dL_masteryAnew_13 hl (by decide) rfl (fun ls hl => ?_)
      refine lv_iconst (v := 1) X.ex X.co dL_masteryAnew_15 (by decide) ?_
      exact c_i X hS rfl rfl ⟨(by rw [hk0]; rfl), hCB, (by omega), f, by rw [iup_eq he]; exact hO, fun z => absurd (hk0.symm.trans z) (by omega)⟩ (by omega) (by omega) dL_masteryAnew_16
    · exact absurd hT (by simp)
  · obtain ⟨rfl, hk0, hCB⟩ := hB
    have hO : fw G.1 lv ad en AO H := F.2.kept (fun j hj => hk9 _ (F.2.lt hj) (fun z => hdis _ z (F.2.in hj)))
    refine lv_i2l X.ex X.co dL_masteryAnew_8 rfl ?_
    refine w_last X g0.1 hO hS (fun q h => Or.inr h) hi hao he dL_masteryAnew_9 (fun H locs f1 hf1 hO hq hz2 hS => ?_)
    have hCB := hCB.kept (fun q hA _ => hq q (fun z => hdis q hA (by rw [z, ← hao]; exact F.2.in hi)))
    refine lv_goto (tgt := 17) X.ex X.co dL_masteryAnew_10 (by decide) ?_
    refine lv_iconst (v := 0) X.ex X.co dL_masteryAnew_17 (by decide) ?_
    exact c_i X hS rfl rfl ⟨(by rw [hk0]; rfl), hCB, (by omega), f1, hO, fun _ => hf1⟩ (by omega) (by omega) dL_masteryAnew_18
theorem ce_X9_appeal : ceV yX9_appeal cX9_appeal 3 ((Option.some FieldType.int)) 1 := ⟨m_842, m_843, m_1, m_844, ⟨by decide, by decide, by decide +kernel⟩, by decide⟩
set_option maxHeartbeats 4000000 in
set_option maxRecDepth 100000 in
theorem c_L_appeal (l : Launch) (hst : l.stackTraces = false) (G : GT) (A AO : Nat → Prop) (hAg : ∀ q, A q → gA G q) (hdis : ∀ q, A q → ¬ AO q) (b : Nat) (σ : Sg) (hI : MI σ) (hJ : MJ σ) (h0 : σ.1 0 0 = 0) (p0 : Int32) (lv : I2 → Prop) (ad : I2 → Nat) (en : I2 → va_E) (i : I2) (hi : lv i) (ao : Nat) (hao : ad i = ao) (f : Nat → Int64) (he : en i = LgA G f) : Met l yL_appeal (wofW yL_appeal cL_appeal 4 (some .int) [(0, 9, 12, 21), (0, 9, 15, 15)]) (RM 9 1 310) (cPre [.ref b, .int p0, .ref ao] G (wPre G A AO b σ lv ad en)) (cQ (wB G A AO b (fAppeal σ p0) lv ad en i) (fun q => A q ∨ AO q)) 1 310 (fun q => A q ∨ AO q) := by
  refine mk_w (by decide) (Nat.le_of_ble_eq_true rfl) ?_
  intro p e s m args below meth c X ls hl g0 F htab
  have hS : va_S (fun q => A q ∨ AO q) s.heap s.heap [] := va_S.rf
  obtain ⟨fsB, hfB⟩ := CB_at F.1.1
  have hl : lv_has ls 4 [(0, .ref b), (1, .int p0), (2, .ref ao)] := hl
  show W p l e (RM 9 1 310) s m args below meth c s.heap [] 0 0 (MQ below (cQ (wB G A AO b (fAppeal σ p0) lv ad en i) (fun q => A q ∨ AO q)) args s 1 310 (fun q => A q ∨ AO q)) (F0 m 0 ls [])
  refine lv_aload_n X.ex X.co dL_appeal_0 rfl (lv_at hl 2 rfl) ?_
  refine lv_iconst (v := 0) X.ex X.co dL_appeal_1 (by decide) ?_
  refine lv_aload_n X.ex X.co dL_appeal_2 rfl (lv_at hl 0 rfl) ?_
  refine lv_iload_n X.ex X.co dL_appeal_3 rfl (lv_at hl 1 rfl) ?_
  refine w_V X ce_X9_appeal m_841 (c_X9_appeal l hst G A hAg b σ hI hJ h0 p0) g0 F.1 hfB rfl (by decide) rfl hl.1 rfl (Nat.le_of_ble_eq_true rfl) dL_appeal_4 (by omega) (by omega) hS (fun q h => Or.inl h) (fun E ce q9 H locs hB hz hk9 hS hc1 hc2 hc3 => ?_) (fun v0 H locs hB hz hk9 hS => ?_)
  · obtain ⟨k, hT, hk0, hCB⟩ := hB
    have hO : fw G.1 lv ad en AO H := F.2.kept (fun j hj => hk9 _ (F.2.lt hj) (fun z => hdis _ z (F.2.in hj)))
    rcases k with _ | _ | k
    · obtain rfl : "java/lang/IndexOutOfBoundsException" = E := Option.some.inj hT
      refine vx_catch X.ow [] ⟨0, 9, 12, 21⟩ [⟨0, 9, 15, 15⟩] htab (fun z h => absurd h List.not_mem_nil) rfl (by decide) (X.ts _ m_445) (cd_at g0 (tb_2 (List.mem_of_getElem? (i := 235) (by decide +kernel)))) hc1 hc2 hc3 ?_
      refine lv_astore_n (lv' := [(3, .ref q9), (0, .ref b), (1, .int p0), (2, .ref ao)]) X.ex X.co dL_appeal_12 rfl hl (by decide) rfl (fun ls hl => ?_)
      refine lv_iconst (v := 1) X.ex X.co dL_appeal_13 (by decide) ?_
      exact c_i X hS rfl rfl ⟨(by rw [hk0]; rfl), hCB, (by omega), f, by rw [iup_eq he]; exact hO, fun z => absurd (hk0.symm.trans z) (by omega)⟩ (by omega) (by omega) dL_appeal_14
    · obtain rfl : "java/lang/IllegalStateException" = E := Option.some.inj hT
      refine vx_catch X.ow [⟨0, 9, 12, 21⟩] ⟨0, 9, 15, 15⟩ [] htab (List.forall_mem_cons.mpr ⟨Or.inr ⟨by decide, "java/lang/IndexOutOfBoundsException", X.ts _ m_445, nc_at g0 (List.mem_of_getElem? (i := 11) rfl)⟩, (fun z h => absurd h List.not_mem_nil)⟩) rfl (by decide) (X.ts _ m_269) (cd_at g0 (tb_2 (List.mem_of_getElem? (i := 108) (by decide +kernel)))) hc1 hc2 hc3 ?_
      refine lv_astore_n (lv' := [(3, .ref q9), (0, .ref b), (1, .int p0), (2, .ref ao)]) X.ex X.co dL_appeal_15 rfl hl (by decide) rfl (fun ls hl => ?_)
      refine lv_iconst (v := 2) X.ex X.co dL_appeal_16 (by decide) ?_
      exact c_i X hS rfl rfl ⟨(by rw [hk0]; rfl), hCB, (by omega), f, by rw [iup_eq he]; exact hO, fun z => absurd (hk0.symm.trans z) (by omega)⟩ (by omega) (by omega) dL_appeal_17
    · exact absurd hT (by simp)
  · obtain ⟨rfl, hk0, hCB⟩ := hB
    have hO : fw G.1 lv ad en AO H := F.2.kept (fun j hj => hk9 _ (F.2.lt hj) (fun z => hdis _ z (F.2.in hj)))
    refine lv_i2l X.ex X.co dL_appeal_7 rfl ?_
    refine w_last X g0.1 hO hS (fun q h => Or.inr h) hi hao he dL_appeal_8 (fun H locs f1 hf1 hO hq hz2 hS => ?_)
    have hCB := hCB.kept (fun q hA _ => hq q (fun z => hdis q hA (by rw [z, ← hao]; exact F.2.in hi)))
    refine lv_goto (tgt := 18) X.ex X.co dL_appeal_9 (by decide) ?_
    refine lv_iconst (v := 0) X.ex X.co dL_appeal_18 (by decide) ?_
    exact c_i X hS rfl rfl ⟨(by rw [hk0]; rfl), hCB, (by omega), f1, hO, fun _ => hf1⟩ (by omega) (by omega) dL_appeal_19
theorem ce_X9_withdraw : ceV yX9_withdraw cX9_withdraw 3 ((Option.some FieldType.int)) 1 := ⟨m_850, m_851, m_1, m_852, ⟨by decide, by decide, by decide +kernel⟩, by decide⟩
set_option maxHeartbeats 4000000 in
set_option maxRecDepth 100000 in
theorem c_L_withdraw (l : Launch) (hst : l.stackTraces = false) (G : GT) (A AO : Nat → Prop) (hAg : ∀ q, A q → gA G q) (hdis : ∀ q, A q → ¬ AO q) (b : Nat) (σ : Sg) (hI : MI σ) (hJ : MJ σ) (h0 : σ.1 0 0 = 0) (p0 : Int32) (lv : I2 → Prop) (ad : I2 → Nat) (en : I2 → va_E) (i : I2) (hi : lv i) (ao : Nat) (hao : ad i = ao) (f : Nat → Int64) (he : en i = LgA G f) : Met l yL_withdraw (wofW yL_withdraw cL_withdraw 4 (some .int) [(0, 9, 12, 21), (0, 9, 15, 58)]) (RM 5 1 6) (cPre [.ref b, .int p0, .ref ao] G (wPre G A AO b σ lv ad en)) (cQ (wB G A AO b (fWithdraw σ p0) lv ad en i) (fun q => A q ∨ AO q)) 1 6 (fun q => A q ∨ AO q) := by
  refine mk_w (by decide) (Nat.le_of_ble_eq_true rfl) ?_
  intro p e s m args below meth c X ls hl g0 F htab
  have hS : va_S (fun q => A q ∨ AO q) s.heap s.heap [] := va_S.rf
  obtain ⟨fsB, hfB⟩ := CB_at F.1.1
  have hl : lv_has ls 4 [(0, .ref b), (1, .int p0), (2, .ref ao)] := hl
  show W p l e (RM 5 1 6) s m args below meth c s.heap [] 0 0 (MQ below (cQ (wB G A AO b (fWithdraw σ p0) lv ad en i) (fun q => A q ∨ AO q)) args s 1 6 (fun q => A q ∨ AO q)) (F0 m 0 ls [])
  refine lv_aload_n X.ex X.co dL_withdraw_0 rfl (lv_at hl 2 rfl) ?_
  refine lv_iconst (v := 0) X.ex X.co dL_withdraw_1 (by decide) ?_
  refine lv_aload_n X.ex X.co dL_withdraw_2 rfl (lv_at hl 0 rfl) ?_
  refine lv_iload_n X.ex X.co dL_withdraw_3 rfl (lv_at hl 1 rfl) ?_
  refine w_V X ce_X9_withdraw m_849 (c_X9_withdraw l hst G A hAg b σ hI hJ h0 p0) g0 F.1 hfB rfl (by decide) rfl hl.1 rfl (Nat.le_of_ble_eq_true rfl) dL_withdraw_4 (by omega) (by omega) hS (fun q h => Or.inl h) (fun E ce q9 H locs hB hz hk9 hS hc1 hc2 hc3 => ?_) (fun v0 H locs hB hz hk9 hS => ?_)
  · obtain ⟨k, hT, hk0, hCB⟩ := hB
    have hO : fw G.1 lv ad en AO H := F.2.kept (fun j hj => hk9 _ (F.2.lt hj) (fun z => hdis _ z (F.2.in hj)))
    rcases k with _ | _ | k
    · obtain rfl : "java/lang/IndexOutOfBoundsException" = E := Option.some.inj hT
      refine vx_catch X.ow [] ⟨0, 9, 12, 21⟩ [⟨0, 9, 15, 58⟩] htab (fun z h => absurd h List.not_mem_nil) rfl (by decide) (X.ts _ m_445) (cd_at g0 (tb_2 (List.mem_of_getElem? (i := 235) (by decide +kernel)))) hc1 hc2 hc3 ?_
      refine lv_astore_n (lv' := [(3, .ref q9), (0, .ref b), (1, .int p0), (2, .ref ao)]) X.ex X.co dL_withdraw_12 rfl hl (by decide) rfl (fun ls hl => ?_)
      refine lv_iconst (v := 1) X.ex X.co dL_withdraw_13 (by decide) ?_
      exact c_i X hS rfl rfl ⟨(by rw [hk0]; rfl), hCB, (by omega), f, by rw [iup_eq he]; exact hO, fun z => absurd (hk0.symm.trans z) (by omega)⟩ (by omega) (by omega) dL_withdraw_14
    · obtain rfl : "java/util/NoSuchElementException" = E := Option.some.inj hT
      refine vx_catch X.ow [⟨0, 9, 12, 21⟩] ⟨0, 9, 15, 58⟩ [] htab (List.forall_mem_cons.mpr ⟨Or.inr ⟨by decide, "java/lang/IndexOutOfBoundsException", X.ts _ m_445, nc_at g0 (List.mem_of_getElem? (i := 13) rfl)⟩, (fun z h => absurd h List.not_mem_nil)⟩) rfl (by decide) (X.ts _ m_779) (cd_at g0 (tb_4 (List.mem_of_getElem? (i := 66) (by decide +kernel)))) hc1 hc2 hc3 ?_
      refine lv_astore_n (lv' := [(3, .ref q9), (0, .ref b), (1, .int p0), (2, .ref ao)]) X.ex X.co dL_withdraw_15 rfl hl (by decide) rfl (fun ls hl => ?_)
      refine lv_iconst (v := 2) X.ex X.co dL_withdraw_16 (by decide) ?_
      exact c_i X hS rfl rfl ⟨(by rw [hk0]; rfl), hCB, (by omega), f, by rw [iup_eq he]; exact hO, fun z => absurd (hk0.symm.trans z) (by omega)⟩ (by omega) (by omega) dL_withdraw_17
    · exact absurd hT (by simp)
  · obtain ⟨rfl, hk0, hCB⟩ := hB
    have hO : fw G.1 lv ad en AO H := F.2.kept (fun j hj => hk9 _ (F.2.lt hj) (fun z => hdis _ z (F.2.in hj)))
    refine lv_i2l X.ex X.co dL_withdraw_7 rfl ?_
    refine w_last X g0.1 hO hS (fun q h => Or.inr h) hi hao he dL_withdraw_8 (fun H locs f1 hf1 hO hq hz2 hS => ?_)
    have hCB := hCB.kept (fun q hA _ => hq q (fun z => hdis q hA (by rw [z, ← hao]; exact F.2.in hi)))
    refine lv_goto (tgt := 18) X.ex X.co dL_withdraw_9 (by decide) ?_
    refine lv_iconst (v := 0) X.ex X.co dL_withdraw_18 (by decide) ?_
    exact c_i X hS rfl rfl ⟨(by rw [hk0]; rfl), hCB, (by omega), f1, hO, fun _ => hf1⟩ (by omega) (by omega) dL_withdraw_19
theorem ce_X9_decide : ceV yX9_decide cX9_decide 3 ((Option.some FieldType.int)) 1 := ⟨m_871, m_872, m_1, m_873, ⟨by decide, by decide, by decide +kernel⟩, by decide⟩
set_option maxHeartbeats 4000000 in
set_option maxRecDepth 100000 in
theorem c_L_decide (l : Launch) (hst : l.stackTraces = false) (G : GT) (A AO : Nat → Prop) (hAg : ∀ q, A q → gA G q) (hdis : ∀ q, A q → ¬ AO q) (b : Nat) (σ : Sg) (hI : MI σ) (hJ : MJ σ) (h0 : σ.1 0 0 = 0) (p0 : Int32) (lv : I2 → Prop) (ad : I2 → Nat) (en : I2 → va_E) (i : I2) (hi : lv i) (ao : Nat) (hao : ad i = ao) (f : Nat → Int64) (he : en i = LgA G f) : Met l yL_decide (wofW yL_decide cL_decide 4 (some .int) [(0, 9, 12, 13), (0, 9, 15, 58)]) (RM 5 1 6) (cPre [.ref b, .int p0, .ref ao] G (wPre G A AO b σ lv ad en)) (cQ (wB G A AO b (fDecide σ p0) lv ad en i) (fun q => A q ∨ AO q)) 1 6 (fun q => A q ∨ AO q) := by
  refine mk_w (by decide) (Nat.le_of_ble_eq_true rfl) ?_
  intro p e s m args below meth c X ls hl g0 F htab
  have hS : va_S (fun q => A q ∨ AO q) s.heap s.heap [] := va_S.rf
  obtain ⟨fsB, hfB⟩ := CB_at F.1.1
  have hl : lv_has ls 4 [(0, .ref b), (1, .int p0), (2, .ref ao)] := hl
  show W p l e (RM 5 1 6) s m args below meth c s.heap [] 0 0 (MQ below (cQ (wB G A AO b (fDecide σ p0) lv ad en i) (fun q => A q ∨ AO q)) args s 1 6 (fun q => A q ∨ AO q)) (F0 m 0 ls [])
  refine lv_aload_n X.ex X.co dL_decide_0 rfl (lv_at hl 2 rfl) ?_
  refine lv_iconst (v := 0) X.ex X.co dL_decide_1 (by decide) ?_
  refine lv_aload_n X.ex X.co dL_decide_2 rfl (lv_at hl 0 rfl) ?_
  refine lv_iload_n X.ex X.co dL_decide_3 rfl (lv_at hl 1 rfl) ?_
  refine w_V X ce_X9_decide m_870 (c_X9_decide l hst G A hAg b σ hI hJ h0 p0) g0 F.1 hfB rfl (by decide) rfl hl.1 rfl (Nat.le_of_ble_eq_true rfl) dL_decide_4 (by omega) (by omega) hS (fun q h => Or.inl h) (fun E ce q9 H locs hB hz hk9 hS hc1 hc2 hc3 => ?_) (fun v0 H locs hB hz hk9 hS => ?_)
  · obtain ⟨k, hT, hk0, hCB⟩ := hB
    have hO : fw G.1 lv ad en AO H := F.2.kept (fun j hj => hk9 _ (F.2.lt hj) (fun z => hdis _ z (F.2.in hj)))
    rcases k with _ | _ | k
    · obtain rfl : "java/lang/IllegalArgumentException" = E := Option.some.inj hT
      refine vx_catch X.ow [] ⟨0, 9, 12, 13⟩ [⟨0, 9, 15, 58⟩] htab (fun z h => absurd h List.not_mem_nil) rfl (by decide) (X.ts _ m_268) (cd_at g0 (tb_2 (List.mem_of_getElem? (i := 36) (by decide +kernel)))) hc1 hc2 hc3 ?_
      refine lv_astore_n (lv' := [(3, .ref q9), (0, .ref b), (1, .int p0), (2, .ref ao)]) X.ex X.co dL_decide_12 rfl hl (by decide) rfl (fun ls hl => ?_)
      refine lv_iconst (v := 1) X.ex X.co dL_decide_13 (by decide) ?_
      exact c_i X hS rfl rfl ⟨(by rw [hk0]; rfl), hCB, (by omega), f, by rw [iup_eq he]; exact hO, fun z => absurd (hk0.symm.trans z) (by omega)⟩ (by omega) (by omega) dL_decide_14
    · obtain rfl : "java/util/NoSuchElementException" = E := Option.some.inj hT
      refine vx_catch X.ow [⟨0, 9, 12, 13⟩] ⟨0, 9, 15, 58⟩ [] htab (List.forall_mem_cons.mpr ⟨Or.inr ⟨by decide, "java/lang/IllegalArgumentException", X.ts _ m_268, nc_at g0 (List.mem_of_getElem? (i := 3) rfl)⟩, (fun z h => absurd h List.not_mem_nil)⟩) rfl (by decide) (X.ts _ m_779) (cd_at g0 (tb_4 (List.mem_of_getElem? (i := 66) (by decide +kernel)))) hc1 hc2 hc3 ?_
      refine lv_astore_n (lv' := [(3, .ref q9), (0, .ref b), (1, .int p0), (2, .ref ao)]) X.ex X.co dL_decide_15 rfl hl (by decide) rfl (fun ls hl => ?_)
      refine lv_iconst (v := 2) X.ex X.co dL_decide_16 (by decide) ?_
      exact c_i X hS rfl rfl ⟨(by rw [hk0]; rfl), hCB, (by omega), f, by rw [iup_eq he]; exact hO, fun z => absurd (hk0.symm.trans z) (by omega)⟩ (by omega) (by omega) dL_decide_17
    · exact absurd hT (by simp)
  · obtain ⟨rfl, hk0, hCB⟩ := hB
    have hO : fw G.1 lv ad en AO H := F.2.kept (fun j hj => hk9 _ (F.2.lt hj) (fun z => hdis _ z (F.2.in hj)))
    refine lv_i2l X.ex X.co dL_decide_7 rfl ?_
    refine w_last X g0.1 hO hS (fun q h => Or.inr h) hi hao he dL_decide_8 (fun H locs f1 hf1 hO hq hz2 hS => ?_)
    have hCB := hCB.kept (fun q hA _ => hq q (fun z => hdis q hA (by rw [z, ← hao]; exact F.2.in hi)))
    refine lv_goto (tgt := 18) X.ex X.co dL_decide_9 (by decide) ?_
    refine lv_iconst (v := 0) X.ex X.co dL_decide_18 (by decide) ?_
    exact c_i X hS rfl rfl ⟨(by rw [hk0]; rfl), hCB, (by omega), f1, hO, fun _ => hf1⟩ (by omega) (by omega) dL_decide_19
theorem ce_X9_appealAt : ceV yX9_appealAt cX9_appealAt 2 ((Option.some FieldType.int)) 1 := ⟨m_880, m_881, m_1, m_882, ⟨by decide, by decide, by decide +kernel⟩, by decide⟩
set_option maxHeartbeats 4000000 in
set_option maxRecDepth 100000 in
theorem c_L_appealAt (l : Launch) (hst : l.stackTraces = false) (G : GT) (A AO : Nat → Prop) (hAg : ∀ q, A q → gA G q) (hdis : ∀ q, A q → ¬ AO q) (b : Nat) (σ : Sg) (hI : MI σ) (hJ : MJ σ) (h0 : σ.1 0 0 = 0) (p0 : Int32) (lv : I2 → Prop) (ad : I2 → Nat) (en : I2 → va_E) (i : I2) (hi : lv i) (ao : Nat) (hao : ad i = ao) (f : Nat → Int64) (he : en i = LgA G f) : Met l yL_appealAt (wofW yL_appealAt cL_appealAt 4 (some .int) [(0, 9, 12, 21)]) (RM 5 1 6) (cPre [.ref b, .int p0, .ref ao] G (wPre G A AO b σ lv ad en)) (cQ (wB G A AO b (fAppealAt σ p0) lv ad en i) (fun q => A q ∨ AO q)) 1 6 (fun q => A q ∨ AO q) := by
  refine mk_w (by decide) (Nat.le_of_ble_eq_true rfl) ?_
  intro p e s m args below meth c X ls hl g0 F htab
  have hS : va_S (fun q => A q ∨ AO q) s.heap s.heap [] := va_S.rf
  obtain ⟨fsB, hfB⟩ := CB_at F.1.1
  have hl : lv_has ls 4 [(0, .ref b), (1, .int p0), (2, .ref ao)] := hl
  show W p l e (RM 5 1 6) s m args below meth c s.heap [] 0 0 (MQ below (cQ (wB G A AO b (fAppealAt σ p0) lv ad en i) (fun q => A q ∨ AO q)) args s 1 6 (fun q => A q ∨ AO q)) (F0 m 0 ls [])
  refine lv_aload_n X.ex X.co dL_appealAt_0 rfl (lv_at hl 2 rfl) ?_
  refine lv_iconst (v := 0) X.ex X.co dL_appealAt_1 (by decide) ?_
  refine lv_aload_n X.ex X.co dL_appealAt_2 rfl (lv_at hl 0 rfl) ?_
  refine lv_iload_n X.ex X.co dL_appealAt_3 rfl (lv_at hl 1 rfl) ?_
  refine w_V X ce_X9_appealAt m_879 (c_X9_appealAt l hst G A hAg b σ hI hJ h0 p0) g0 F.1 hfB rfl (by decide) rfl hl.1 rfl (Nat.le_of_ble_eq_true rfl) dL_appealAt_4 (by omega) (by omega) hS (fun q h => Or.inl h) (fun E ce q9 H locs hB hz hk9 hS hc1 hc2 hc3 => ?_) (fun v0 H locs hB hz hk9 hS => ?_)
  · obtain ⟨k, hT, hk0, hCB⟩ := hB
    have hO : fw G.1 lv ad en AO H := F.2.kept (fun j hj => hk9 _ (F.2.lt hj) (fun z => hdis _ z (F.2.in hj)))
    rcases k with _ | k
    · obtain rfl : "java/lang/IndexOutOfBoundsException" = E := Option.some.inj hT
      refine vx_catch X.ow [] ⟨0, 9, 12, 21⟩ [] htab (fun z h => absurd h List.not_mem_nil) rfl (by decide) (X.ts _ m_445) (cd_at g0 (tb_2 (List.mem_of_getElem? (i := 235) (by decide +kernel)))) hc1 hc2 hc3 ?_
      refine lv_astore_n (lv' := [(3, .ref q9), (0, .ref b), (1, .int p0), (2, .ref ao)]) X.ex X.co dL_appealAt_12 rfl hl (by decide) rfl (fun ls hl => ?_)
      refine lv_iconst (v := 1) X.ex X.co dL_appealAt_13 (by decide) ?_
      exact c_i X hS rfl rfl ⟨(by rw [hk0]; rfl), hCB, (by omega), f, by rw [iup_eq he]; exact hO, fun z => absurd (hk0.symm.trans z) (by omega)⟩ (by omega) (by omega) dL_appealAt_14
    · exact absurd hT (by simp)
  · obtain ⟨rfl, hk0, hCB⟩ := hB
    have hO : fw G.1 lv ad en AO H := F.2.kept (fun j hj => hk9 _ (F.2.lt hj) (fun z => hdis _ z (F.2.in hj)))
    refine lv_i2l X.ex X.co dL_appealAt_7 rfl ?_
    refine w_last X g0.1 hO hS (fun q h => Or.inr h) hi hao he dL_appealAt_8 (fun H locs f1 hf1 hO hq hz2 hS => ?_)
    have hCB := hCB.kept (fun q hA _ => hq q (fun z => hdis q hA (by rw [z, ← hao]; exact F.2.in hi)))
    refine lv_goto (tgt := 15) X.ex X.co dL_appealAt_9 (by decide) ?_
    refine lv_iconst (v := 0) X.ex X.co dL_appealAt_15 (by decide) ?_
    exact c_i X hS rfl rfl ⟨(by rw [hk0]; rfl), hCB, (by omega), f1, hO, fun _ => hf1⟩ (by omega) (by omega) dL_appealAt_16
theorem ce_X9_mend : ceV yX9_mend cX9_mend 6 ((Option.some FieldType.int)) 3 := ⟨m_888, m_889, m_1, m_890, ⟨by decide, by decide, by decide +kernel⟩, by decide⟩
set_option maxHeartbeats 4000000 in
set_option maxRecDepth 100000 in
theorem c_L_mend (l : Launch) (hst : l.stackTraces = false) (G : GT) (A AO : Nat → Prop) (hAg : ∀ q, A q → gA G q) (hdis : ∀ q, A q → ¬ AO q) (b : Nat) (σ : Sg) (hI : MI σ) (hJ : MJ σ) (h0 : σ.1 0 0 = 0) (p0 p1 p2 : Int32) (lv : I2 → Prop) (ad : I2 → Nat) (en : I2 → va_E) (i : I2) (hi : lv i) (ao : Nat) (hao : ad i = ao) (f : Nat → Int64) (he : en i = LgA G f) : Met l yL_mend (wofW yL_mend cL_mend 6 (some .int) [(0, 12, 15, 21), (0, 12, 19, 13), (0, 12, 23, 15)]) (RM 9 102 1220) (cPre [.ref b, .int p0, .int p1, .int p2, .ref ao] G (wPre G A AO b σ lv ad en)) (cQ (wB G A AO b (fMend σ p0 p1 p2) lv ad en i) (fun q => A q ∨ AO q)) 102 1220 (fun q => A q ∨ AO q) := by
  refine mk_w (by decide) (Nat.le_of_ble_eq_true rfl) ?_
  intro p e s m args below meth c X ls hl g0 F htab
  have hS : va_S (fun q => A q ∨ AO q) s.heap s.heap [] := va_S.rf
  obtain ⟨fsB, hfB⟩ := CB_at F.1.1
  have hl : lv_has ls 6 [(0, .ref b), (1, .int p0), (2, .int p1), (3, .int p2), (4, .ref ao)] := hl
  show W p l e (RM 9 102 1220) s m args below meth c s.heap [] 0 0 (MQ below (cQ (wB G A AO b (fMend σ p0 p1 p2) lv ad en i) (fun q => A q ∨ AO q)) args s 102 1220 (fun q => A q ∨ AO q)) (F0 m 0 ls [])
  refine lv_aload X.ex X.co dL_mend_0 (lv_at hl 4 rfl) ?_
  refine lv_iconst (v := 0) X.ex X.co dL_mend_2 (by decide) ?_
  refine lv_aload_n X.ex X.co dL_mend_3 rfl (lv_at hl 0 rfl) ?_
  refine lv_iload_n X.ex X.co dL_mend_4 rfl (lv_at hl 1 rfl) ?_
  refine lv_iload_n X.ex X.co dL_mend_5 rfl (lv_at hl 2 rfl) ?_
  refine lv_iload_n X.ex X.co dL_mend_6 rfl (lv_at hl 3 rfl) ?_
  refine w_V X ce_X9_mend m_887 (c_X9_mend l hst G A hAg b σ hI hJ h0 p0 p1 p2) g0 F.1 hfB rfl (by decide) rfl hl.1 rfl (Nat.le_of_ble_eq_true rfl) dL_mend_7 (by omega) (by omega) hS (fun q h => Or.inl h) (fun E ce q9 H locs hB hz hk9 hS hc1 hc2 hc3 => ?_) (fun v0 H locs hB hz hk9 hS => ?_)
  · obtain ⟨k, hT, hk0, hCB⟩ := hB
    have hO : fw G.1 lv ad en AO H := F.2.kept (fun j hj => hk9 _ (F.2.lt hj) (fun z => hdis _ z (F.2.in hj)))
    rcases k with _ | _ | _ | k
    · obtain rfl : "java/lang/IndexOutOfBoundsException" = E := Option.some.inj hT
      refine vx_catch X.ow [] ⟨0, 12, 15, 21⟩ [⟨0, 12, 19, 13⟩, ⟨0, 12, 23, 15⟩] htab (fun z h => absurd h List.not_mem_nil) rfl (by decide) (X.ts _ m_445) (cd_at g0 (tb_2 (List.mem_of_getElem? (i := 235) (by decide +kernel)))) hc1 hc2 hc3 ?_
      refine lv_astore (lv' := [(5, .ref q9), (0, .ref b), (1, .int p0), (2, .int p1), (3, .int p2), (4, .ref ao)]) X.ex X.co dL_mend_15 hl (by decide) rfl (fun ls hl => ?_)
      refine lv_iconst (v := 1) X.ex X.co dL_mend_17 (by decide) ?_
      exact c_i X hS rfl rfl ⟨(by rw [hk0]; rfl), hCB, (by omega), f, by rw [iup_eq he]; exact hO, fun z => absurd (hk0.symm.trans z) (by omega)⟩ (by omega) (by omega) dL_mend_18
    · obtain rfl : "java/lang/IllegalArgumentException" = E := Option.some.inj hT
      refine vx_catch X.ow [⟨0, 12, 15, 21⟩] ⟨0, 12, 19, 13⟩ [⟨0, 12, 23, 15⟩] htab (List.forall_mem_cons.mpr ⟨Or.inr ⟨by decide, "java/lang/IndexOutOfBoundsException", X.ts _ m_445, nc_at g0 (List.mem_of_getElem? (i := 10) rfl)⟩, (fun z h => absurd h List.not_mem_nil)⟩) rfl (by decide) (X.ts _ m_268) (cd_at g0 (tb_2 (List.mem_of_getElem? (i := 36) (by decide +kernel)))) hc1 hc2 hc3 ?_
      refine lv_astore (lv' := [(5, .ref q9), (0, .ref b), (1, .int p0), (2, .int p1), (3, .int p2), (4, .ref ao)]) X.ex X.co dL_mend_19 hl (by decide) rfl (fun ls hl => ?_)
      refine lv_iconst (v := 2) X.ex X.co dL_mend_21 (by decide) ?_
      exact c_i X hS rfl rfl ⟨(by rw [hk0]; rfl), hCB, (by omega), f, by rw [iup_eq he]; exact hO, fun z => absurd (hk0.symm.trans z) (by omega)⟩ (by omega) (by omega) dL_mend_22
    · obtain rfl : "java/lang/IllegalStateException" = E := Option.some.inj hT
      refine vx_catch X.ow [⟨0, 12, 15, 21⟩, ⟨0, 12, 19, 13⟩] ⟨0, 12, 23, 15⟩ [] htab (List.forall_mem_cons.mpr ⟨Or.inr ⟨by decide, "java/lang/IndexOutOfBoundsException", X.ts _ m_445, nc_at g0 (List.mem_of_getElem? (i := 11) rfl)⟩, (List.forall_mem_cons.mpr ⟨Or.inr ⟨by decide, "java/lang/IllegalArgumentException", X.ts _ m_268, nc_at g0 (List.mem_of_getElem? (i := 0) rfl)⟩, (fun z h => absurd h List.not_mem_nil)⟩)⟩) rfl (by decide) (X.ts _ m_269) (cd_at g0 (tb_2 (List.mem_of_getElem? (i := 108) (by decide +kernel)))) hc1 hc2 hc3 ?_
      refine lv_astore (lv' := [(5, .ref q9), (0, .ref b), (1, .int p0), (2, .int p1), (3, .int p2), (4, .ref ao)]) X.ex X.co dL_mend_23 hl (by decide) rfl (fun ls hl => ?_)
      refine lv_iconst (v := 3) X.ex X.co dL_mend_25 (by decide) ?_
      exact c_i X hS rfl rfl ⟨(by rw [hk0]; rfl), hCB, (by omega), f, by rw [iup_eq he]; exact hO, fun z => absurd (hk0.symm.trans z) (by omega)⟩ (by omega) (by omega) dL_mend_26
    · exact absurd hT (by simp)
  · obtain ⟨rfl, hk0, hCB⟩ := hB
    have hO : fw G.1 lv ad en AO H := F.2.kept (fun j hj => hk9 _ (F.2.lt hj) (fun z => hdis _ z (F.2.in hj)))
    refine lv_i2l X.ex X.co dL_mend_10 rfl ?_
    refine w_last X g0.1 hO hS (fun q h => Or.inr h) hi hao he dL_mend_11 (fun H locs f1 hf1 hO hq hz2 hS => ?_)
    have hCB := hCB.kept (fun q hA _ => hq q (fun z => hdis q hA (by rw [z, ← hao]; exact F.2.in hi)))
    refine lv_goto (tgt := 27) X.ex X.co dL_mend_12 (by decide) ?_
    refine lv_iconst (v := 0) X.ex X.co dL_mend_27 (by decide) ?_
    exact c_i X hS rfl rfl ⟨(by rw [hk0]; rfl), hCB, (by omega), f1, hO, fun _ => hf1⟩ (by omega) (by omega) dL_mend_28
theorem ce_X9_harmedAt : ceV yX9_harmedAt cX9_harmedAt 2 ((Option.some FieldType.int)) 1 := ⟨m_1128, m_1129, m_1, m_1130, ⟨by decide, by decide, by decide +kernel⟩, by decide⟩
set_option maxHeartbeats 4000000 in
set_option maxRecDepth 100000 in
theorem c_L_harmedAt (l : Launch) (hst : l.stackTraces = false) (G : GT) (A AO : Nat → Prop) (hAg : ∀ q, A q → gA G q) (hdis : ∀ q, A q → ¬ AO q) (b : Nat) (σ : Sg) (hI : MI σ) (hJ : MJ σ) (h0 : σ.1 0 0 = 0) (p0 : Int32) (lv : I2 → Prop) (ad : I2 → Nat) (en : I2 → va_E) (i : I2) (hi : lv i) (ao : Nat) (hao : ad i = ao) (f : Nat → Int64) (he : en i = LgA G f) : Met l yL_harmedAt (wofW yL_harmedAt cL_harmedAt 4 (some .int) [(0, 9, 12, 21)]) (RM 5 1 6) (cPre [.ref b, .int p0, .ref ao] G (wPre G A AO b σ lv ad en)) (cQ (wB G A AO b (fHarmedAt σ p0) lv ad en i) (fun q => A q ∨ AO q)) 1 6 (fun q => A q ∨ AO q) := by
  refine mk_w (by decide) (Nat.le_of_ble_eq_true rfl) ?_
  intro p e s m args below meth c X ls hl g0 F htab
  have hS : va_S (fun q => A q ∨ AO q) s.heap s.heap [] := va_S.rf
  obtain ⟨fsB, hfB⟩ := CB_at F.1.1
  have hl : lv_has ls 4 [(0, .ref b), (1, .int p0), (2, .ref ao)] := hl
  show W p l e (RM 5 1 6) s m args below meth c s.heap [] 0 0 (MQ below (cQ (wB G A AO b (fHarmedAt σ p0) lv ad en i) (fun q => A q ∨ AO q)) args s 1 6 (fun q => A q ∨ AO q)) (F0 m 0 ls [])
  refine lv_aload_n X.ex X.co dL_harmedAt_0 rfl (lv_at hl 2 rfl) ?_
  refine lv_iconst (v := 0) X.ex X.co dL_harmedAt_1 (by decide) ?_
  refine lv_aload_n X.ex X.co dL_harmedAt_2 rfl (lv_at hl 0 rfl) ?_
  refine lv_iload_n X.ex X.co dL_harmedAt_3 rfl (lv_at hl 1 rfl) ?_
  refine w_V X ce_X9_harmedAt m_1127 (c_X9_harmedAt l hst G A hAg b σ hI hJ h0 p0) g0 F.1 hfB rfl (by decide) rfl hl.1 rfl (Nat.le_of_ble_eq_true rfl) dL_harmedAt_4 (by omega) (by omega) hS (fun q h => Or.inl h) (fun E ce q9 H locs hB hz hk9 hS hc1 hc2 hc3 => ?_) (fun v0 H locs hB hz hk9 hS => ?_)
  · obtain ⟨k, hT, hk0, hCB⟩ := hB
    have hO : fw G.1 lv ad en AO H := F.2.kept (fun j hj => hk9 _ (F.2.lt hj) (fun z => hdis _ z (F.2.in hj)))
    rcases k with _ | k
    · obtain rfl : "java/lang/IndexOutOfBoundsException" = E := Option.some.inj hT
      refine vx_catch X.ow [] ⟨0, 9, 12, 21⟩ [] htab (fun z h => absurd h List.not_mem_nil) rfl (by decide) (X.ts _ m_445) (cd_at g0 (tb_2 (List.mem_of_getElem? (i := 235) (by decide +kernel)))) hc1 hc2 hc3 ?_
      refine lv_astore_n (lv' := [(3, .ref q9), (0, .ref b), (1, .int p0), (2, .ref ao)]) X.ex X.co dL_harmedAt_12 rfl hl (by decide) rfl (fun ls hl => ?_)
      refine lv_iconst (v := 1) X.ex X.co dL_harmedAt_13 (by decide) ?_
      exact c_i X hS rfl rfl ⟨(by rw [hk0]; rfl), hCB, (by omega), f, by rw [iup_eq he]; exact hO, fun z => absurd (hk0.symm.trans z) (by omega)⟩ (by omega) (by omega) dL_harmedAt_14
    · exact absurd hT (by simp)
  · obtain ⟨rfl, hk0, hCB⟩ := hB
    have hO : fw G.1 lv ad en AO H := F.2.kept (fun j hj => hk9 _ (F.2.lt hj) (fun z => hdis _ z (F.2.in hj)))
    refine lv_i2l X.ex X.co dL_harmedAt_7 rfl ?_
    refine w_last X g0.1 hO hS (fun q h => Or.inr h) hi hao he dL_harmedAt_8 (fun H locs f1 hf1 hO hq hz2 hS => ?_)
    have hCB := hCB.kept (fun q hA _ => hq q (fun z => hdis q hA (by rw [z, ← hao]; exact F.2.in hi)))
    refine lv_goto (tgt := 15) X.ex X.co dL_harmedAt_9 (by decide) ?_
    refine lv_iconst (v := 0) X.ex X.co dL_harmedAt_15 (by decide) ?_
    exact c_i X hS rfl rfl ⟨(by rw [hk0]; rfl), hCB, (by omega), f1, hO, fun _ => hf1⟩ (by omega) (by omega) dL_harmedAt_16
theorem ce_X9_addCourse : ceV yX9_addCourse cX9_addCourse 3 ((Option.some FieldType.int)) 2 := ⟨m_1135, m_1136, m_1, m_1137, ⟨by decide, by decide, by decide +kernel⟩, by decide⟩
set_option maxHeartbeats 4000000 in
set_option maxRecDepth 100000 in
theorem c_L_addCourse (l : Launch) (hst : l.stackTraces = false) (G : GT) (A AO : Nat → Prop) (hAg : ∀ q, A q → gA G q) (hdis : ∀ q, A q → ¬ AO q) (b : Nat) (σ : Sg) (hI : MI σ) (hJ : MJ σ) (h0 : σ.1 0 0 = 0) (p0 p1 : Int32) (lv : I2 → Prop) (ad : I2 → Nat) (en : I2 → va_E) (i : I2) (hi : lv i) (ao : Nat) (hao : ad i = ao) (f : Nat → Int64) (he : en i = LgA G f) : Met l yL_addCourse (wofW yL_addCourse cL_addCourse 5 (some .int) [(0, 10, 13, 13), (0, 10, 17, 15)]) (RM 9 2 310) (cPre [.ref b, .int p0, .int p1, .ref ao] G (wPre G A AO b σ lv ad en)) (cQ (wB G A AO b (fAddCourse σ p0 p1) lv ad en i) (fun q => A q ∨ AO q)) 2 310 (fun q => A q ∨ AO q) := by
  refine mk_w (by decide) (Nat.le_of_ble_eq_true rfl) ?_
  intro p e s m args below meth c X ls hl g0 F htab
  have hS : va_S (fun q => A q ∨ AO q) s.heap s.heap [] := va_S.rf
  obtain ⟨fsB, hfB⟩ := CB_at F.1.1
  have hl : lv_has ls 5 [(0, .ref b), (1, .int p0), (2, .int p1), (3, .ref ao)] := hl
  show W p l e (RM 9 2 310) s m args below meth c s.heap [] 0 0 (MQ below (cQ (wB G A AO b (fAddCourse σ p0 p1) lv ad en i) (fun q => A q ∨ AO q)) args s 2 310 (fun q => A q ∨ AO q)) (F0 m 0 ls [])
  refine lv_aload_n X.ex X.co dL_addCourse_0 rfl (lv_at hl 3 rfl) ?_
  refine lv_iconst (v := 0) X.ex X.co dL_addCourse_1 (by decide) ?_
  refine lv_aload_n X.ex X.co dL_addCourse_2 rfl (lv_at hl 0 rfl) ?_
  refine lv_iload_n X.ex X.co dL_addCourse_3 rfl (lv_at hl 1 rfl) ?_
  refine lv_iload_n X.ex X.co dL_addCourse_4 rfl (lv_at hl 2 rfl) ?_
  refine w_V X ce_X9_addCourse m_1134 (c_X9_addCourse l hst G A hAg b σ hI hJ h0 p0 p1) g0 F.1 hfB rfl (by decide) rfl hl.1 rfl (Nat.le_of_ble_eq_true rfl) dL_addCourse_5 (by omega) (by omega) hS (fun q h => Or.inl h) (fun E ce q9 H locs hB hz hk9 hS hc1 hc2 hc3 => ?_) (fun v0 H locs hB hz hk9 hS => ?_)
  · obtain ⟨k, hT, hk0, hCB⟩ := hB
    have hO : fw G.1 lv ad en AO H := F.2.kept (fun j hj => hk9 _ (F.2.lt hj) (fun z => hdis _ z (F.2.in hj)))
    rcases k with _ | _ | k
    · obtain rfl : "java/lang/IllegalArgumentException" = E := Option.some.inj hT
      refine vx_catch X.ow [] ⟨0, 10, 13, 13⟩ [⟨0, 10, 17, 15⟩] htab (fun z h => absurd h List.not_mem_nil) rfl (by decide) (X.ts _ m_268) (cd_at g0 (tb_2 (List.mem_of_getElem? (i := 36) (by decide +kernel)))) hc1 hc2 hc3 ?_
      refine lv_astore (lv' := [(4, .ref q9), (0, .ref b), (1, .int p0), (2, .int p1), (3, .ref ao)]) X.ex X.co dL_addCourse_13 hl (by decide) rfl (fun ls hl => ?_)
      refine lv_iconst (v := 1) X.ex X.co dL_addCourse_15 (by decide) ?_
      exact c_i X hS rfl rfl ⟨(by rw [hk0]; rfl), hCB, (by omega), f, by rw [iup_eq he]; exact hO, fun z => absurd (hk0.symm.trans z) (by omega)⟩ (by omega) (by omega) dL_addCourse_16
    · obtain rfl : "java/lang/IllegalStateException" = E := Option.some.inj hT
      refine vx_catch X.ow [⟨0, 10, 13, 13⟩] ⟨0, 10, 17, 15⟩ [] htab (List.forall_mem_cons.mpr ⟨Or.inr ⟨by decide, "java/lang/IllegalArgumentException", X.ts _ m_268, nc_at g0 (List.mem_of_getElem? (i := 0) rfl)⟩, (fun z h => absurd h List.not_mem_nil)⟩) rfl (by decide) (X.ts _ m_269) (cd_at g0 (tb_2 (List.mem_of_getElem? (i := 108) (by decide +kernel)))) hc1 hc2 hc3 ?_
      refine lv_astore (lv' := [(4, .ref q9), (0, .ref b), (1, .int p0), (2, .int p1), (3, .ref ao)]) X.ex X.co dL_addCourse_17 hl (by decide) rfl (fun ls hl => ?_)
      refine lv_iconst (v := 2) X.ex X.co dL_addCourse_19 (by decide) ?_
      exact c_i X hS rfl rfl ⟨(by rw [hk0]; rfl), hCB, (by omega), f, by rw [iup_eq he]; exact hO, fun z => absurd (hk0.symm.trans z) (by omega)⟩ (by omega) (by omega) dL_addCourse_20
    · exact absurd hT (by simp)
  · obtain ⟨rfl, hk0, hCB⟩ := hB
    have hO : fw G.1 lv ad en AO H := F.2.kept (fun j hj => hk9 _ (F.2.lt hj) (fun z => hdis _ z (F.2.in hj)))
    refine lv_i2l X.ex X.co dL_addCourse_8 rfl ?_
    refine w_last X g0.1 hO hS (fun q h => Or.inr h) hi hao he dL_addCourse_9 (fun H locs f1 hf1 hO hq hz2 hS => ?_)
    have hCB := hCB.kept (fun q hA _ => hq q (fun z => hdis q hA (by rw [z, ← hao]; exact F.2.in hi)))
    refine lv_goto (tgt := 21) X.ex X.co dL_addCourse_10 (by decide) ?_
    refine lv_iconst (v := 0) X.ex X.co dL_addCourse_21 (by decide) ?_
    exact c_i X hS rfl rfl ⟨(by rw [hk0]; rfl), hCB, (by omega), f1, hO, fun _ => hf1⟩ (by omega) (by omega) dL_addCourse_22
theorem ce_X9_issue : ceV yX9_issue cX9_issue 6 ((Option.some FieldType.int)) 2 := ⟨m_1160, m_1161, m_1, m_1162, ⟨by decide, by decide, by decide +kernel⟩, by decide⟩
set_option maxHeartbeats 4000000 in
set_option maxRecDepth 100000 in
theorem c_L_issue (l : Launch) (hst : l.stackTraces = false) (G : GT) (A AO : Nat → Prop) (hAg : ∀ q, A q → gA G q) (hdis : ∀ q, A q → ¬ AO q) (b : Nat) (σ : Sg) (hI : MI σ) (hJ : MJ σ) (h0 : σ.1 0 0 = 0) (p0 p1 : Int32) (lv : I2 → Prop) (ad : I2 → Nat) (en : I2 → va_E) (i : I2) (hi : lv i) (ao : Nat) (hao : ad i = ao) (f : Nat → Int64) (he : en i = LgA G f) : Met l yL_issue (wofW yL_issue cL_issue 5 (some .int) [(0, 10, 13, 21), (0, 10, 17, 15), (0, 10, 21, 47)]) (RM 9 4 330) (cPre [.ref b, .int p0, .int p1, .ref ao] G (wPre G A AO b σ lv ad en)) (cQ (wB G A AO b (fIssue σ p0 p1) lv ad en i) (fun q => A q ∨ AO q)) 4 330 (fun q => A q ∨ AO q) := by
  refine mk_w (by decide) (Nat.le_of_ble_eq_true rfl) ?_
  intro p e s m args below meth c X ls hl g0 F htab
  have hS : va_S (fun q => A q ∨ AO q) s.heap s.heap [] := va_S.rf
  obtain ⟨fsB, hfB⟩ := CB_at F.1.1
  have hl : lv_has ls 5 [(0, .ref b), (1, .int p0), (2, .int p1), (3, .ref ao)] := hl
  show W p l e (RM 9 4 330) s m args below meth c s.heap [] 0 0 (MQ below (cQ (wB G A AO b (fIssue σ p0 p1) lv ad en i) (fun q => A q ∨ AO q)) args s 4 330 (fun q => A q ∨ AO q)) (F0 m 0 ls [])
  refine lv_aload_n X.ex X.co dL_issue_0 rfl (lv_at hl 3 rfl) ?_
  refine lv_iconst (v := 0) X.ex X.co dL_issue_1 (by decide) ?_
  refine lv_aload_n X.ex X.co dL_issue_2 rfl (lv_at hl 0 rfl) ?_
  refine lv_iload_n X.ex X.co dL_issue_3 rfl (lv_at hl 1 rfl) ?_
  refine lv_iload_n X.ex X.co dL_issue_4 rfl (lv_at hl 2 rfl) ?_
  refine w_V X ce_X9_issue m_1159 (c_X9_issue l hst G A hAg b σ hI hJ h0 p0 p1) g0 F.1 hfB rfl (by decide) rfl hl.1 rfl (Nat.le_of_ble_eq_true rfl) dL_issue_5 (by omega) (by omega) hS (fun q h => Or.inl h) (fun E ce q9 H locs hB hz hk9 hS hc1 hc2 hc3 => ?_) (fun v0 H locs hB hz hk9 hS => ?_)
  · obtain ⟨k, hT, hk0, hCB⟩ := hB
    have hO : fw G.1 lv ad en AO H := F.2.kept (fun j hj => hk9 _ (F.2.lt hj) (fun z => hdis _ z (F.2.in hj)))
    rcases k with _ | _ | _ | k
    · obtain rfl : "java/lang/IndexOutOfBoundsException" = E := Option.some.inj hT
      refine vx_catch X.ow [] ⟨0, 10, 13, 21⟩ [⟨0, 10, 17, 15⟩, ⟨0, 10, 21, 47⟩] htab (fun z h => absurd h List.not_mem_nil) rfl (by decide) (X.ts _ m_445) (cd_at g0 (tb_2 (List.mem_of_getElem? (i := 235) (by decide +kernel)))) hc1 hc2 hc3 ?_
      refine lv_astore (lv' := [(4, .ref q9), (0, .ref b), (1, .int p0), (2, .int p1), (3, .ref ao)]) X.ex X.co dL_issue_13 hl (by decide) rfl (fun ls hl => ?_)
      refine lv_iconst (v := 1) X.ex X.co dL_issue_15 (by decide) ?_
      exact c_i X hS rfl rfl ⟨(by rw [hk0]; rfl), hCB, (by omega), f, by rw [iup_eq he]; exact hO, fun z => absurd (hk0.symm.trans z) (by omega)⟩ (by omega) (by omega) dL_issue_16
    · obtain rfl : "java/lang/IllegalStateException" = E := Option.some.inj hT
      refine vx_catch X.ow [⟨0, 10, 13, 21⟩] ⟨0, 10, 17, 15⟩ [⟨0, 10, 21, 47⟩] htab (List.forall_mem_cons.mpr ⟨Or.inr ⟨by decide, "java/lang/IndexOutOfBoundsException", X.ts _ m_445, nc_at g0 (List.mem_of_getElem? (i := 11) rfl)⟩, (fun z h => absurd h List.not_mem_nil)⟩) rfl (by decide) (X.ts _ m_269) (cd_at g0 (tb_2 (List.mem_of_getElem? (i := 108) (by decide +kernel)))) hc1 hc2 hc3 ?_
      refine lv_astore (lv' := [(4, .ref q9), (0, .ref b), (1, .int p0), (2, .int p1), (3, .ref ao)]) X.ex X.co dL_issue_17 hl (by decide) rfl (fun ls hl => ?_)
      refine lv_iconst (v := 2) X.ex X.co dL_issue_19 (by decide) ?_
      exact c_i X hS rfl rfl ⟨(by rw [hk0]; rfl), hCB, (by omega), f, by rw [iup_eq he]; exact hO, fun z => absurd (hk0.symm.trans z) (by omega)⟩ (by omega) (by omega) dL_issue_20
    · obtain rfl : "java/lang/UnsupportedOperationException" = E := Option.some.inj hT
      refine vx_catch X.ow [⟨0, 10, 13, 21⟩, ⟨0, 10, 17, 15⟩] ⟨0, 10, 21, 47⟩ [] htab (List.forall_mem_cons.mpr ⟨Or.inr ⟨by decide, "java/lang/IndexOutOfBoundsException", X.ts _ m_445, nc_at g0 (List.mem_of_getElem? (i := 12) rfl)⟩, (List.forall_mem_cons.mpr ⟨Or.inr ⟨by decide, "java/lang/IllegalStateException", X.ts _ m_269, nc_at g0 (List.mem_of_getElem? (i := 7) rfl)⟩, (fun z h => absurd h List.not_mem_nil)⟩)⟩) rfl (by decide) (X.ts _ m_685) (cd_at g0 (tb_3 (List.mem_of_getElem? (i := 212) (by decide +kernel)))) hc1 hc2 hc3 ?_
      refine lv_astore (lv' := [(4, .ref q9), (0, .ref b), (1, .int p0), (2, .int p1), (3, .ref ao)]) X.ex X.co dL_issue_21 hl (by decide) rfl (fun ls hl => ?_)
      refine lv_iconst (v := 3) X.ex X.co dL_issue_23 (by decide) ?_
      exact c_i X hS rfl rfl ⟨(by rw [hk0]; rfl), hCB, (by omega), f, by rw [iup_eq he]; exact hO, fun z => absurd (hk0.symm.trans z) (by omega)⟩ (by omega) (by omega) dL_issue_24
    · exact absurd hT (by simp)
  · obtain ⟨rfl, hk0, hCB⟩ := hB
    have hO : fw G.1 lv ad en AO H := F.2.kept (fun j hj => hk9 _ (F.2.lt hj) (fun z => hdis _ z (F.2.in hj)))
    refine lv_i2l X.ex X.co dL_issue_8 rfl ?_
    refine w_last X g0.1 hO hS (fun q h => Or.inr h) hi hao he dL_issue_9 (fun H locs f1 hf1 hO hq hz2 hS => ?_)
    have hCB := hCB.kept (fun q hA _ => hq q (fun z => hdis q hA (by rw [z, ← hao]; exact F.2.in hi)))
    refine lv_goto (tgt := 25) X.ex X.co dL_issue_10 (by decide) ?_
    refine lv_iconst (v := 0) X.ex X.co dL_issue_25 (by decide) ?_
    exact c_i X hS rfl rfl ⟨(by rw [hk0]; rfl), hCB, (by omega), f1, hO, fun _ => hf1⟩ (by omega) (by omega) dL_issue_26
theorem ce_X9_doesStand : ceV yX9_doesStand cX9_doesStand 2 ((Option.some FieldType.boolean)) 1 := ⟨m_1204, m_1205, m_1, m_1206, ⟨by decide, by decide, by decide +kernel⟩, by decide⟩
set_option maxHeartbeats 4000000 in
set_option maxRecDepth 100000 in
theorem c_L_doesStand (l : Launch) (hst : l.stackTraces = false) (G : GT) (A AO : Nat → Prop) (hAg : ∀ q, A q → gA G q) (hdis : ∀ q, A q → ¬ AO q) (b : Nat) (σ : Sg) (hI : MI σ) (hJ : MJ σ) (h0 : σ.1 0 0 = 0) (p0 : Int32) (lv : I2 → Prop) (ad : I2 → Nat) (en : I2 → va_E) (i : I2) (hi : lv i) (ao : Nat) (hao : ad i = ao) (f : Nat → Int64) (he : en i = LgA G f) : Met l yL_doesStand (wofW yL_doesStand cL_doesStand 4 (some .int) [(0, 16, 19, 21)]) (RM 5 1 6) (cPre [.ref b, .int p0, .ref ao] G (wPre G A AO b σ lv ad en)) (cQ (wB G A AO b (fDoesStand σ p0) lv ad en i) (fun q => A q ∨ AO q)) 1 6 (fun q => A q ∨ AO q) := by
  refine mk_w (by decide) (Nat.le_of_ble_eq_true rfl) ?_
  intro p e s m args below meth c X ls hl g0 F htab
  have hS : va_S (fun q => A q ∨ AO q) s.heap s.heap [] := va_S.rf
  obtain ⟨fsB, hfB⟩ := CB_at F.1.1
  have hl : lv_has ls 4 [(0, .ref b), (1, .int p0), (2, .ref ao)] := hl
  show W p l e (RM 5 1 6) s m args below meth c s.heap [] 0 0 (MQ below (cQ (wB G A AO b (fDoesStand σ p0) lv ad en i) (fun q => A q ∨ AO q)) args s 1 6 (fun q => A q ∨ AO q)) (F0 m 0 ls [])
  refine lv_aload_n X.ex X.co dL_doesStand_0 rfl (lv_at hl 2 rfl) ?_
  refine lv_iconst (v := 0) X.ex X.co dL_doesStand_1 (by decide) ?_
  refine lv_aload_n X.ex X.co dL_doesStand_2 rfl (lv_at hl 0 rfl) ?_
  refine lv_iload_n X.ex X.co dL_doesStand_3 rfl (lv_at hl 1 rfl) ?_
  refine w_V X ce_X9_doesStand m_1203 (c_X9_doesStand l hst G A hAg b σ hI hJ h0 p0) g0 F.1 hfB rfl (by decide) rfl hl.1 rfl (Nat.le_of_ble_eq_true rfl) dL_doesStand_4 (by omega) (by omega) hS (fun q h => Or.inl h) (fun E ce q9 H locs hB hz hk9 hS hc1 hc2 hc3 => ?_) (fun v0 H locs hB hz hk9 hS => ?_)
  · obtain ⟨k, hT, hk0, hCB⟩ := hB
    have hO : fw G.1 lv ad en AO H := F.2.kept (fun j hj => hk9 _ (F.2.lt hj) (fun z => hdis _ z (F.2.in hj)))
    rcases k with _ | k
    · obtain rfl : "java/lang/IndexOutOfBoundsException" = E := Option.some.inj hT
      refine vx_catch X.ow [] ⟨0, 16, 19, 21⟩ [] htab (fun z h => absurd h List.not_mem_nil) rfl (by decide) (X.ts _ m_445) (cd_at g0 (tb_2 (List.mem_of_getElem? (i := 235) (by decide +kernel)))) hc1 hc2 hc3 ?_
      refine lv_astore_n (lv' := [(3, .ref q9), (0, .ref b), (1, .int p0), (2, .ref ao)]) X.ex X.co dL_doesStand_19 rfl hl (by decide) rfl (fun ls hl => ?_)
      refine lv_iconst (v := 1) X.ex X.co dL_doesStand_20 (by decide) ?_
      exact c_i X hS rfl rfl ⟨(by rw [hk0]; rfl), hCB, (by omega), f, by rw [iup_eq he]; exact hO, fun z => absurd (hk0.symm.trans z) (by omega)⟩ (by omega) (by omega) dL_doesStand_21
    · exact absurd hT (by simp)
  · obtain ⟨rfl, hk0, hCB⟩ := hB
    have hO : fw G.1 lv ad en AO H := F.2.kept (fun j hj => hk9 _ (F.2.lt hj) (fun z => hdis _ z (F.2.in hj)))
    refine lv_if_eq (tgt := 14) X.ex X.co dL_doesStand_7 (by decide) (fun c_1 => ?_) (fun c_1 => ?_)
    · refine lv_lconst (v := 0) X.ex X.co dL_doesStand_14 rfl ?_
      refine w_last X g0.1 hO hS (fun q h => Or.inr h) hi hao he dL_doesStand_15 (fun H locs f1 hf1 hO hq hz2 hS => ?_)
      have hCB := hCB.kept (fun q hA _ => hq q (fun z => hdis q hA (by rw [z, ← hao]; exact F.2.in hi)))
      refine lv_goto (tgt := 22) X.ex X.co dL_doesStand_16 (by decide) ?_
      refine lv_iconst (v := 0) X.ex X.co dL_doesStand_22 (by decide) ?_
      exact c_i X hS rfl rfl ⟨(by rw [hk0]; rfl), hCB, (by omega), f1, hO, fun _ => hf1.trans (by rw [c_1]; rfl)⟩ (by omega) (by omega) dL_doesStand_23
    · refine lv_lconst (v := 1) X.ex X.co dL_doesStand_10 rfl ?_
      refine lv_goto (tgt := 15) X.ex X.co dL_doesStand_11 (by decide) ?_
      refine w_last X g0.1 hO hS (fun q h => Or.inr h) hi hao he dL_doesStand_15 (fun H locs f1 hf1 hO hq hz2 hS => ?_)
      have hCB := hCB.kept (fun q hA _ => hq q (fun z => hdis q hA (by rw [z, ← hao]; exact F.2.in hi)))
      refine lv_goto (tgt := 22) X.ex X.co dL_doesStand_16 (by decide) ?_
      refine lv_iconst (v := 0) X.ex X.co dL_doesStand_22 (by decide) ?_
      exact c_i X hS rfl rfl ⟨(by rw [hk0]; rfl), hCB, (by omega), f1, hO, fun _ => hf1.trans (by rw [(ds_01 σ p0).resolve_left c_1]; rfl)⟩ (by omega) (by omega) dL_doesStand_23
theorem ce_X9_certificateOf : ceV yX9_certificateOf cX9_certificateOf 4 ((Option.some FieldType.int)) 2 := ⟨m_1212, m_1213, m_1, m_1214, ⟨by decide, by decide, by decide +kernel⟩, by decide⟩
set_option maxHeartbeats 4000000 in
set_option maxRecDepth 100000 in
theorem c_L_certificateOf (l : Launch) (hst : l.stackTraces = false) (G : GT) (A AO : Nat → Prop) (hAg : ∀ q, A q → gA G q) (hdis : ∀ q, A q → ¬ AO q) (b : Nat) (σ : Sg) (hI : MI σ) (hJ : MJ σ) (h0 : σ.1 0 0 = 0) (p0 p1 : Int32) (lv : I2 → Prop) (ad : I2 → Nat) (en : I2 → va_E) (i : I2) (hi : lv i) (ao : Nat) (hao : ad i = ao) (f : Nat → Int64) (he : en i = LgA G f) : Met l yL_certificateOf (wofW yL_certificateOf cL_certificateOf 5 (some .int) [(0, 10, 13, 21), (0, 10, 17, 58)]) (RM 6 1 6) (cPre [.ref b, .int p0, .int p1, .ref ao] G (wPre G A AO b σ lv ad en)) (cQ (wB G A AO b (fCertificateOf σ p0 p1) lv ad en i) (fun q => A q ∨ AO q)) 1 6 (fun q => A q ∨ AO q) := by
  refine mk_w (by decide) (Nat.le_of_ble_eq_true rfl) ?_
  intro p e s m args below meth c X ls hl g0 F htab
  have hS : va_S (fun q => A q ∨ AO q) s.heap s.heap [] := va_S.rf
  obtain ⟨fsB, hfB⟩ := CB_at F.1.1
  have hl : lv_has ls 5 [(0, .ref b), (1, .int p0), (2, .int p1), (3, .ref ao)] := hl
  show W p l e (RM 6 1 6) s m args below meth c s.heap [] 0 0 (MQ below (cQ (wB G A AO b (fCertificateOf σ p0 p1) lv ad en i) (fun q => A q ∨ AO q)) args s 1 6 (fun q => A q ∨ AO q)) (F0 m 0 ls [])
  refine lv_aload_n X.ex X.co dL_certificateOf_0 rfl (lv_at hl 3 rfl) ?_
  refine lv_iconst (v := 0) X.ex X.co dL_certificateOf_1 (by decide) ?_
  refine lv_aload_n X.ex X.co dL_certificateOf_2 rfl (lv_at hl 0 rfl) ?_
  refine lv_iload_n X.ex X.co dL_certificateOf_3 rfl (lv_at hl 1 rfl) ?_
  refine lv_iload_n X.ex X.co dL_certificateOf_4 rfl (lv_at hl 2 rfl) ?_
  refine w_V X ce_X9_certificateOf m_1211 (c_X9_certificateOf l hst G A hAg b σ hI hJ h0 p0 p1) g0 F.1 hfB rfl (by decide) rfl hl.1 rfl (Nat.le_of_ble_eq_true rfl) dL_certificateOf_5 (by omega) (by omega) hS (fun q h => Or.inl h) (fun E ce q9 H locs hB hz hk9 hS hc1 hc2 hc3 => ?_) (fun v0 H locs hB hz hk9 hS => ?_)
  · obtain ⟨k, hT, hk0, hCB⟩ := hB
    have hO : fw G.1 lv ad en AO H := F.2.kept (fun j hj => hk9 _ (F.2.lt hj) (fun z => hdis _ z (F.2.in hj)))
    rcases k with _ | _ | k
    · obtain rfl : "java/lang/IndexOutOfBoundsException" = E := Option.some.inj hT
      refine vx_catch X.ow [] ⟨0, 10, 13, 21⟩ [⟨0, 10, 17, 58⟩] htab (fun z h => absurd h List.not_mem_nil) rfl (by decide) (X.ts _ m_445) (cd_at g0 (tb_2 (List.mem_of_getElem? (i := 235) (by decide +kernel)))) hc1 hc2 hc3 ?_
      refine lv_astore (lv' := [(4, .ref q9), (0, .ref b), (1, .int p0), (2, .int p1), (3, .ref ao)]) X.ex X.co dL_certificateOf_13 hl (by decide) rfl (fun ls hl => ?_)
      refine lv_iconst (v := 1) X.ex X.co dL_certificateOf_15 (by decide) ?_
      exact c_i X hS rfl rfl ⟨(by rw [hk0]; rfl), hCB, (by omega), f, by rw [iup_eq he]; exact hO, fun z => absurd (hk0.symm.trans z) (by omega)⟩ (by omega) (by omega) dL_certificateOf_16
    · obtain rfl : "java/util/NoSuchElementException" = E := Option.some.inj hT
      refine vx_catch X.ow [⟨0, 10, 13, 21⟩] ⟨0, 10, 17, 58⟩ [] htab (List.forall_mem_cons.mpr ⟨Or.inr ⟨by decide, "java/lang/IndexOutOfBoundsException", X.ts _ m_445, nc_at g0 (List.mem_of_getElem? (i := 13) rfl)⟩, (fun z h => absurd h List.not_mem_nil)⟩) rfl (by decide) (X.ts _ m_779) (cd_at g0 (tb_4 (List.mem_of_getElem? (i := 66) (by decide +kernel)))) hc1 hc2 hc3 ?_
      refine lv_astore (lv' := [(4, .ref q9), (0, .ref b), (1, .int p0), (2, .int p1), (3, .ref ao)]) X.ex X.co dL_certificateOf_17 hl (by decide) rfl (fun ls hl => ?_)
      refine lv_iconst (v := 2) X.ex X.co dL_certificateOf_19 (by decide) ?_
      exact c_i X hS rfl rfl ⟨(by rw [hk0]; rfl), hCB, (by omega), f, by rw [iup_eq he]; exact hO, fun z => absurd (hk0.symm.trans z) (by omega)⟩ (by omega) (by omega) dL_certificateOf_20
    · exact absurd hT (by simp)
  · obtain ⟨rfl, hk0, hCB⟩ := hB
    have hO : fw G.1 lv ad en AO H := F.2.kept (fun j hj => hk9 _ (F.2.lt hj) (fun z => hdis _ z (F.2.in hj)))
    refine lv_i2l X.ex X.co dL_certificateOf_8 rfl ?_
    refine w_last X g0.1 hO hS (fun q h => Or.inr h) hi hao he dL_certificateOf_9 (fun H locs f1 hf1 hO hq hz2 hS => ?_)
    have hCB := hCB.kept (fun q hA _ => hq q (fun z => hdis q hA (by rw [z, ← hao]; exact F.2.in hi)))
    refine lv_goto (tgt := 21) X.ex X.co dL_certificateOf_10 (by decide) ?_
    refine lv_iconst (v := 0) X.ex X.co dL_certificateOf_21 (by decide) ?_
    exact c_i X hS rfl rfl ⟨(by rw [hk0]; rfl), hCB, (by omega), f1, hO, fun _ => hf1⟩ (by omega) (by omega) dL_certificateOf_22
theorem ce_X9_pass : ceV yX9_pass cX9_pass 2 ((Option.some FieldType.int)) 1 := ⟨m_1220, m_1221, m_1, m_1222, ⟨by decide, by decide, by decide +kernel⟩, by decide⟩
set_option maxHeartbeats 4000000 in
set_option maxRecDepth 100000 in
theorem c_L_pass (l : Launch) (hst : l.stackTraces = false) (G : GT) (A AO : Nat → Prop) (hAg : ∀ q, A q → gA G q) (hdis : ∀ q, A q → ¬ AO q) (b : Nat) (σ : Sg) (hI : MI σ) (hJ : MJ σ) (h0 : σ.1 0 0 = 0) (p0 : Int32) (lv : I2 → Prop) (ad : I2 → Nat) (en : I2 → va_E) (i : I2) (hi : lv i) (ao : Nat) (hao : ad i = ao) (f : Nat → Int64) (he : en i = LgA G f) : Met l yL_pass (wofW yL_pass cL_pass 4 (some .int) [(0, 9, 12, 13), (0, 9, 15, 15)]) (RM 4 1 6) (cPre [.ref b, .int p0, .ref ao] G (wPre G A AO b σ lv ad en)) (cQ (wB G A AO b (fPass σ p0) lv ad en i) (fun q => A q ∨ AO q)) 1 6 (fun q => A q ∨ AO q) := by
  refine mk_w (by decide) (Nat.le_of_ble_eq_true rfl) ?_
  intro p e s m args below meth c X ls hl g0 F htab
  have hS : va_S (fun q => A q ∨ AO q) s.heap s.heap [] := va_S.rf
  obtain ⟨fsB, hfB⟩ := CB_at F.1.1
  have hl : lv_has ls 4 [(0, .ref b), (1, .int p0), (2, .ref ao)] := hl
  show W p l e (RM 4 1 6) s m args below meth c s.heap [] 0 0 (MQ below (cQ (wB G A AO b (fPass σ p0) lv ad en i) (fun q => A q ∨ AO q)) args s 1 6 (fun q => A q ∨ AO q)) (F0 m 0 ls [])
  refine lv_aload_n X.ex X.co dL_pass_0 rfl (lv_at hl 2 rfl) ?_
  refine lv_iconst (v := 0) X.ex X.co dL_pass_1 (by decide) ?_
  refine lv_aload_n X.ex X.co dL_pass_2 rfl (lv_at hl 0 rfl) ?_
  refine lv_iload_n X.ex X.co dL_pass_3 rfl (lv_at hl 1 rfl) ?_
  refine w_V X ce_X9_pass m_1219 (c_X9_pass l hst G A hAg b σ hI hJ h0 p0) g0 F.1 hfB rfl (by decide) rfl hl.1 rfl (Nat.le_of_ble_eq_true rfl) dL_pass_4 (by omega) (by omega) hS (fun q h => Or.inl h) (fun E ce q9 H locs hB hz hk9 hS hc1 hc2 hc3 => ?_) (fun v0 H locs hB hz hk9 hS => ?_)
  · obtain ⟨k, hT, hk0, hCB⟩ := hB
    have hO : fw G.1 lv ad en AO H := F.2.kept (fun j hj => hk9 _ (F.2.lt hj) (fun z => hdis _ z (F.2.in hj)))
    rcases k with _ | _ | k
    · obtain rfl : "java/lang/IllegalArgumentException" = E := Option.some.inj hT
      refine vx_catch X.ow [] ⟨0, 9, 12, 13⟩ [⟨0, 9, 15, 15⟩] htab (fun z h => absurd h List.not_mem_nil) rfl (by decide) (X.ts _ m_268) (cd_at g0 (tb_2 (List.mem_of_getElem? (i := 36) (by decide +kernel)))) hc1 hc2 hc3 ?_
      refine lv_astore_n (lv' := [(3, .ref q9), (0, .ref b), (1, .int p0), (2, .ref ao)]) X.ex X.co dL_pass_12 rfl hl (by decide) rfl (fun ls hl => ?_)
      refine lv_iconst (v := 1) X.ex X.co dL_pass_13 (by decide) ?_
      exact c_i X hS rfl rfl ⟨(by rw [hk0]; rfl), hCB, (by omega), f, by rw [iup_eq he]; exact hO, fun z => absurd (hk0.symm.trans z) (by omega)⟩ (by omega) (by omega) dL_pass_14
    · obtain rfl : "java/lang/IllegalStateException" = E := Option.some.inj hT
      refine vx_catch X.ow [⟨0, 9, 12, 13⟩] ⟨0, 9, 15, 15⟩ [] htab (List.forall_mem_cons.mpr ⟨Or.inr ⟨by decide, "java/lang/IllegalArgumentException", X.ts _ m_268, nc_at g0 (List.mem_of_getElem? (i := 0) rfl)⟩, (fun z h => absurd h List.not_mem_nil)⟩) rfl (by decide) (X.ts _ m_269) (cd_at g0 (tb_2 (List.mem_of_getElem? (i := 108) (by decide +kernel)))) hc1 hc2 hc3 ?_
      refine lv_astore_n (lv' := [(3, .ref q9), (0, .ref b), (1, .int p0), (2, .ref ao)]) X.ex X.co dL_pass_15 rfl hl (by decide) rfl (fun ls hl => ?_)
      refine lv_iconst (v := 2) X.ex X.co dL_pass_16 (by decide) ?_
      exact c_i X hS rfl rfl ⟨(by rw [hk0]; rfl), hCB, (by omega), f, by rw [iup_eq he]; exact hO, fun z => absurd (hk0.symm.trans z) (by omega)⟩ (by omega) (by omega) dL_pass_17
    · exact absurd hT (by simp)
  · obtain ⟨rfl, hk0, hCB⟩ := hB
    have hO : fw G.1 lv ad en AO H := F.2.kept (fun j hj => hk9 _ (F.2.lt hj) (fun z => hdis _ z (F.2.in hj)))
    refine lv_i2l X.ex X.co dL_pass_7 rfl ?_
    refine w_last X g0.1 hO hS (fun q h => Or.inr h) hi hao he dL_pass_8 (fun H locs f1 hf1 hO hq hz2 hS => ?_)
    have hCB := hCB.kept (fun q hA _ => hq q (fun z => hdis q hA (by rw [z, ← hao]; exact F.2.in hi)))
    refine lv_goto (tgt := 18) X.ex X.co dL_pass_9 (by decide) ?_
    refine lv_iconst (v := 0) X.ex X.co dL_pass_18 (by decide) ?_
    exact c_i X hS rfl rfl ⟨(by rw [hk0]; rfl), hCB, (by omega), f1, hO, fun _ => hf1⟩ (by omega) (by omega) dL_pass_19
theorem ce_X9_meanGrade : ceV yX9_meanGrade cX9_meanGrade 4 ((Option.some FieldType.double)) 0 := ⟨m_1243, m_1244, m_1, m_1245, ⟨by decide, by decide, by decide +kernel⟩, by decide⟩
set_option maxHeartbeats 4000000 in
set_option maxRecDepth 100000 in
theorem c_L_meanGrade (l : Launch) (hst : l.stackTraces = false) (G : GT) (A AO : Nat → Prop) (hAg : ∀ q, A q → gA G q) (hdis : ∀ q, A q → ¬ AO q) (b : Nat) (σ : Sg) (hI : MI σ) (hJ : MJ σ) (h0 : σ.1 0 0 = 0) (lv : I2 → Prop) (ad : I2 → Nat) (en : I2 → va_E) (i : I2) (hi : lv i) (ao : Nat) (hao : ad i = ao) (f : Nat → UInt64) (he : en i = DbA G f) : Met l yL_meanGrade (wofW yL_meanGrade cL_meanGrade 3 (some .int) [(0, 7, 10, 113)]) (RM 4 1 6) (cPre [.ref b, .ref ao] G (wPre G A AO b σ lv ad en)) (cQ (wBd G A AO b (fMeanGrade σ) lv ad en i) (fun q => A q ∨ AO q)) 1 6 (fun q => A q ∨ AO q) := by
  refine mk_w (by decide) (Nat.le_of_ble_eq_true rfl) ?_
  intro p e s m args below meth c X ls hl g0 F htab
  have hS : va_S (fun q => A q ∨ AO q) s.heap s.heap [] := va_S.rf
  obtain ⟨fsB, hfB⟩ := CB_at F.1.1
  have hl : lv_has ls 3 [(0, .ref b), (1, .ref ao)] := hl
  show W p l e (RM 4 1 6) s m args below meth c s.heap [] 0 0 (MQ below (cQ (wBd G A AO b (fMeanGrade σ) lv ad en i) (fun q => A q ∨ AO q)) args s 1 6 (fun q => A q ∨ AO q)) (F0 m 0 ls [])
  refine lv_aload_n X.ex X.co dL_meanGrade_0 rfl (lv_at hl 1 rfl) ?_
  refine lv_iconst (v := 0) X.ex X.co dL_meanGrade_1 (by decide) ?_
  refine lv_aload_n X.ex X.co dL_meanGrade_2 rfl (lv_at hl 0 rfl) ?_
  refine w_V X ce_X9_meanGrade m_1242 (c_X9_meanGrade l hst G A hAg b σ hI hJ h0) g0 F.1 hfB rfl (by decide) rfl hl.1 rfl (Nat.le_of_ble_eq_true rfl) dL_meanGrade_3 (by omega) (by omega) hS (fun q h => Or.inl h) (fun E ce q9 H locs hB hz hk9 hS hc1 hc2 hc3 => ?_) (fun v0 H locs hB hz hk9 hS => ?_)
  · obtain ⟨k, hT, hk0, hCB⟩ := hB
    have hO : fw G.1 lv ad en AO H := F.2.kept (fun j hj => hk9 _ (F.2.lt hj) (fun z => hdis _ z (F.2.in hj)))
    rcases k with _ | k
    · obtain rfl : "java/lang/ArithmeticException" = E := Option.some.inj hT
      refine vx_catch X.ow [] ⟨0, 7, 10, 113⟩ [] htab (fun z h => absurd h List.not_mem_nil) rfl (by decide) (X.ts _ m_1228) (cd_at g0 (tb_6 (List.mem_of_getElem? (i := 40) (by decide +kernel)))) hc1 hc2 hc3 ?_
      refine lv_astore_n (lv' := [(2, .ref q9), (0, .ref b), (1, .ref ao)]) X.ex X.co dL_meanGrade_10 rfl hl (by decide) rfl (fun ls hl => ?_)
      refine lv_iconst (v := 1) X.ex X.co dL_meanGrade_11 (by decide) ?_
      exact c_i X hS rfl rfl ⟨(by rw [hk0]; rfl), hCB, (by omega), f, by rw [iup_eq he]; exact hO, fun z => absurd (hk0.symm.trans z) (by omega)⟩ (by omega) (by omega) dL_meanGrade_12
    · exact absurd hT (by simp)
  · obtain ⟨rfl, hk0, hCB⟩ := hB
    have hO : fw G.1 lv ad en AO H := F.2.kept (fun j hj => hk9 _ (F.2.lt hj) (fun z => hdis _ z (F.2.in hj)))
    refine w_dast X g0.1 hO hS (fun q h => Or.inr h) hi hao he dL_meanGrade_6 (fun H locs f1 hf1 hO hq hz2 hS => ?_)
    have hCB := hCB.kept (fun q hA _ => hq q (fun z => hdis q hA (by rw [z, ← hao]; exact F.2.in hi)))
    refine lv_goto (tgt := 13) X.ex X.co dL_meanGrade_7 (by decide) ?_
    refine lv_iconst (v := 0) X.ex X.co dL_meanGrade_13 (by decide) ?_
    exact c_i X hS rfl rfl ⟨(by rw [hk0]; rfl), hCB, (by omega), f1, hO, fun _ => hf1⟩ (by omega) (by omega) dL_meanGrade_14
theorem ce_X9_standingShare : ceV yX9_standingShare cX9_standingShare 2 ((Option.some FieldType.float)) 0 := ⟨m_1253, m_1254, m_1, m_1255, ⟨by decide, by decide, by decide +kernel⟩, by decide⟩
set_option maxHeartbeats 4000000 in
set_option maxRecDepth 100000 in
theorem c_L_standingShare (l : Launch) (hst : l.stackTraces = false) (G : GT) (A AO : Nat → Prop) (hAg : ∀ q, A q → gA G q) (hdis : ∀ q, A q → ¬ AO q) (b : Nat) (σ : Sg) (hI : MI σ) (hJ : MJ σ) (h0 : σ.1 0 0 = 0) (lv : I2 → Prop) (ad : I2 → Nat) (en : I2 → va_E) (i : I2) (hi : lv i) (ao : Nat) (hao : ad i = ao) (f : Nat → UInt64) (he : en i = DbA G f) : Met l yL_standingShare (wofW yL_standingShare cL_standingShare 3 (some .int) [(0, 8, 11, 113)]) (RM 5 1 6) (cPre [.ref b, .ref ao] G (wPre G A AO b σ lv ad en)) (cQ (wBf G A AO b (fStandingShare σ) lv ad en i) (fun q => A q ∨ AO q)) 1 6 (fun q => A q ∨ AO q) := by
  refine mk_w (by decide) (Nat.le_of_ble_eq_true rfl) ?_
  intro p e s m args below meth c X ls hl g0 F htab
  have hS : va_S (fun q => A q ∨ AO q) s.heap s.heap [] := va_S.rf
  obtain ⟨fsB, hfB⟩ := CB_at F.1.1
  have hl : lv_has ls 3 [(0, .ref b), (1, .ref ao)] := hl
  show W p l e (RM 5 1 6) s m args below meth c s.heap [] 0 0 (MQ below (cQ (wBf G A AO b (fStandingShare σ) lv ad en i) (fun q => A q ∨ AO q)) args s 1 6 (fun q => A q ∨ AO q)) (F0 m 0 ls [])
  refine lv_aload_n X.ex X.co dL_standingShare_0 rfl (lv_at hl 1 rfl) ?_
  refine lv_iconst (v := 0) X.ex X.co dL_standingShare_1 (by decide) ?_
  refine lv_aload_n X.ex X.co dL_standingShare_2 rfl (lv_at hl 0 rfl) ?_
  refine w_V X ce_X9_standingShare m_1252 (c_X9_standingShare l hst G A hAg b σ hI hJ h0) g0 F.1 hfB rfl (by decide) rfl hl.1 rfl (Nat.le_of_ble_eq_true rfl) dL_standingShare_3 (by omega) (by omega) hS (fun q h => Or.inl h) (fun E ce q9 H locs hB hz hk9 hS hc1 hc2 hc3 => ?_) (fun v0 H locs hB hz hk9 hS => ?_)
  · obtain ⟨k, hT, hk0, hCB⟩ := hB
    have hO : fw G.1 lv ad en AO H := F.2.kept (fun j hj => hk9 _ (F.2.lt hj) (fun z => hdis _ z (F.2.in hj)))
    rcases k with _ | k
    · obtain rfl : "java/lang/ArithmeticException" = E := Option.some.inj hT
      refine vx_catch X.ow [] ⟨0, 8, 11, 113⟩ [] htab (fun z h => absurd h List.not_mem_nil) rfl (by decide) (X.ts _ m_1228) (cd_at g0 (tb_6 (List.mem_of_getElem? (i := 40) (by decide +kernel)))) hc1 hc2 hc3 ?_
      refine lv_astore_n (lv' := [(2, .ref q9), (0, .ref b), (1, .ref ao)]) X.ex X.co dL_standingShare_11 rfl hl (by decide) rfl (fun ls hl => ?_)
      refine lv_iconst (v := 1) X.ex X.co dL_standingShare_12 (by decide) ?_
      exact c_i X hS rfl rfl ⟨(by rw [hk0]; rfl), hCB, (by omega), f, by rw [iup_eq he]; exact hO, fun z => absurd (hk0.symm.trans z) (by omega)⟩ (by omega) (by omega) dL_standingShare_13
    · exact absurd hT (by simp)
  · obtain ⟨rfl, hk0, hCB⟩ := hB
    have hO : fw G.1 lv ad en AO H := F.2.kept (fun j hj => hk9 _ (F.2.lt hj) (fun z => hdis _ z (F.2.in hj)))
    refine lv_f2d X.ex X.co dL_standingShare_6 (ss_n hI hk0) ?_
    refine w_dast X g0.1 hO hS (fun q h => Or.inr h) hi hao he dL_standingShare_7 (fun H locs f1 hf1 hO hq hz2 hS => ?_)
    have hCB := hCB.kept (fun q hA _ => hq q (fun z => hdis q hA (by rw [z, ← hao]; exact F.2.in hi)))
    refine lv_goto (tgt := 14) X.ex X.co dL_standingShare_8 (by decide) ?_
    refine lv_iconst (v := 0) X.ex X.co dL_standingShare_14 (by decide) ?_
    exact c_i X hS rfl rfl ⟨(by rw [hk0]; rfl), hCB, (by omega), f1, hO, fun _ => hf1⟩ (by omega) (by omega) dL_standingShare_15
theorem ce_X9_writeAnswer : ceV yX9_writeAnswer cX9_writeAnswer 3 ((Option.some FieldType.int)) 1 := ⟨m_1261, m_1262, m_1, m_1263, ⟨by decide, by decide, by decide +kernel⟩, by decide⟩
set_option maxHeartbeats 4000000 in
set_option maxRecDepth 100000 in
theorem c_L_writeAnswer (l : Launch) (hst : l.stackTraces = false) (G : GT) (A AO : Nat → Prop) (hAg : ∀ q, A q → gA G q) (hdis : ∀ q, A q → ¬ AO q) (b : Nat) (σ : Sg) (hI : MI σ) (hJ : MJ σ) (h0 : σ.1 0 0 = 0) (p0 : Int32) (lv : I2 → Prop) (ad : I2 → Nat) (en : I2 → va_E) (i : I2) (hi : lv i) (ao : Nat) (hao : ad i = ao) (f : Nat → Int64) (he : en i = LgA G f) : Met l yL_writeAnswer (wofW yL_writeAnswer cL_writeAnswer 4 (some .int) [(0, 9, 12, 21)]) (RM 8 8 2200) (cPre [.ref b, .int p0, .ref ao] G (wPre G A AO b σ lv ad en)) (cQ (wB G A AO b (fWriteAnswer σ p0) lv ad en i) (fun q => A q ∨ AO q)) 8 2200 (fun q => A q ∨ AO q) := by
  refine mk_w (by decide) (Nat.le_of_ble_eq_true rfl) ?_
  intro p e s m args below meth c X ls hl g0 F htab
  have hS : va_S (fun q => A q ∨ AO q) s.heap s.heap [] := va_S.rf
  obtain ⟨fsB, hfB⟩ := CB_at F.1.1
  have hl : lv_has ls 4 [(0, .ref b), (1, .int p0), (2, .ref ao)] := hl
  show W p l e (RM 8 8 2200) s m args below meth c s.heap [] 0 0 (MQ below (cQ (wB G A AO b (fWriteAnswer σ p0) lv ad en i) (fun q => A q ∨ AO q)) args s 8 2200 (fun q => A q ∨ AO q)) (F0 m 0 ls [])
  refine lv_aload_n X.ex X.co dL_writeAnswer_0 rfl (lv_at hl 2 rfl) ?_
  refine lv_iconst (v := 0) X.ex X.co dL_writeAnswer_1 (by decide) ?_
  refine lv_aload_n X.ex X.co dL_writeAnswer_2 rfl (lv_at hl 0 rfl) ?_
  refine lv_iload_n X.ex X.co dL_writeAnswer_3 rfl (lv_at hl 1 rfl) ?_
  refine w_V X ce_X9_writeAnswer m_1260 (c_X9_writeAnswer l hst G A hAg b σ hI hJ h0 p0) g0 F.1 hfB rfl (by decide) rfl hl.1 rfl (Nat.le_of_ble_eq_true rfl) dL_writeAnswer_4 (by omega) (by omega) hS (fun q h => Or.inl h) (fun E ce q9 H locs hB hz hk9 hS hc1 hc2 hc3 => ?_) (fun v0 H locs hB hz hk9 hS => ?_)
  · obtain ⟨k, hT, hk0, hCB⟩ := hB
    have hO : fw G.1 lv ad en AO H := F.2.kept (fun j hj => hk9 _ (F.2.lt hj) (fun z => hdis _ z (F.2.in hj)))
    rcases k with _ | k
    · obtain rfl : "java/lang/IndexOutOfBoundsException" = E := Option.some.inj hT
      refine vx_catch X.ow [] ⟨0, 9, 12, 21⟩ [] htab (fun z h => absurd h List.not_mem_nil) rfl (by decide) (X.ts _ m_445) (cd_at g0 (tb_2 (List.mem_of_getElem? (i := 235) (by decide +kernel)))) hc1 hc2 hc3 ?_
      refine lv_astore_n (lv' := [(3, .ref q9), (0, .ref b), (1, .int p0), (2, .ref ao)]) X.ex X.co dL_writeAnswer_12 rfl hl (by decide) rfl (fun ls hl => ?_)
      refine lv_iconst (v := 1) X.ex X.co dL_writeAnswer_13 (by decide) ?_
      exact c_i X hS rfl rfl ⟨(by rw [hk0]; rfl), hCB, (by omega), f, by rw [iup_eq he]; exact hO, fun z => absurd (hk0.symm.trans z) (by omega)⟩ (by omega) (by omega) dL_writeAnswer_14
    · exact absurd hT (by simp)
  · obtain ⟨rfl, hk0, hCB⟩ := hB
    have hO : fw G.1 lv ad en AO H := F.2.kept (fun j hj => hk9 _ (F.2.lt hj) (fun z => hdis _ z (F.2.in hj)))
    refine lv_i2l X.ex X.co dL_writeAnswer_7 rfl ?_
    refine w_last X g0.1 hO hS (fun q h => Or.inr h) hi hao he dL_writeAnswer_8 (fun H locs f1 hf1 hO hq hz2 hS => ?_)
    have hCB := hCB.kept (fun q hA _ => hq q (fun z => hdis q hA (by rw [z, ← hao]; exact F.2.in hi)))
    refine lv_goto (tgt := 15) X.ex X.co dL_writeAnswer_9 (by decide) ?_
    refine lv_iconst (v := 0) X.ex X.co dL_writeAnswer_15 (by decide) ?_
    exact c_i X hS rfl rfl ⟨(by rw [hk0]; rfl), hCB, (by omega), f1, hO, fun _ => hf1⟩ (by omega) (by omega) dL_writeAnswer_16
theorem ce_X9_lineAt : ceV yX9_lineAt cX9_lineAt 2 ((Option.some FieldType.char)) 1 := ⟨m_1328, m_1329, m_1, m_1330, ⟨by decide, by decide, by decide +kernel⟩, by decide⟩
set_option maxHeartbeats 4000000 in
set_option maxRecDepth 100000 in
theorem c_L_lineAt (l : Launch) (hst : l.stackTraces = false) (G : GT) (A AO : Nat → Prop) (hAg : ∀ q, A q → gA G q) (hdis : ∀ q, A q → ¬ AO q) (b : Nat) (σ : Sg) (hI : MI σ) (hJ : MJ σ) (h0 : σ.1 0 0 = 0) (p0 : Int32) (lv : I2 → Prop) (ad : I2 → Nat) (en : I2 → va_E) (i : I2) (hi : lv i) (ao : Nat) (hao : ad i = ao) (f : Nat → Int64) (he : en i = LgA G f) : Met l yL_lineAt (wofW yL_lineAt cL_lineAt 4 (some .int) [(0, 9, 12, 21)]) (RM 6 1 6) (cPre [.ref b, .int p0, .ref ao] G (wPre G A AO b σ lv ad en)) (cQ (wB G A AO b (fLineAt σ p0) lv ad en i) (fun q => A q ∨ AO q)) 1 6 (fun q => A q ∨ AO q) := by
  refine mk_w (by decide) (Nat.le_of_ble_eq_true rfl) ?_
  intro p e s m args below meth c X ls hl g0 F htab
  have hS : va_S (fun q => A q ∨ AO q) s.heap s.heap [] := va_S.rf
  obtain ⟨fsB, hfB⟩ := CB_at F.1.1
  have hl : lv_has ls 4 [(0, .ref b), (1, .int p0), (2, .ref ao)] := hl
  show W p l e (RM 6 1 6) s m args below meth c s.heap [] 0 0 (MQ below (cQ (wB G A AO b (fLineAt σ p0) lv ad en i) (fun q => A q ∨ AO q)) args s 1 6 (fun q => A q ∨ AO q)) (F0 m 0 ls [])
  refine lv_aload_n X.ex X.co dL_lineAt_0 rfl (lv_at hl 2 rfl) ?_
  refine lv_iconst (v := 0) X.ex X.co dL_lineAt_1 (by decide) ?_
  refine lv_aload_n X.ex X.co dL_lineAt_2 rfl (lv_at hl 0 rfl) ?_
  refine lv_iload_n X.ex X.co dL_lineAt_3 rfl (lv_at hl 1 rfl) ?_
  refine w_V X ce_X9_lineAt m_1327 (c_X9_lineAt l hst G A hAg b σ hI hJ h0 p0) g0 F.1 hfB rfl (by decide) rfl hl.1 rfl (Nat.le_of_ble_eq_true rfl) dL_lineAt_4 (by omega) (by omega) hS (fun q h => Or.inl h) (fun E ce q9 H locs hB hz hk9 hS hc1 hc2 hc3 => ?_) (fun v0 H locs hB hz hk9 hS => ?_)
  · obtain ⟨k, hT, hk0, hCB⟩ := hB
    have hO : fw G.1 lv ad en AO H := F.2.kept (fun j hj => hk9 _ (F.2.lt hj) (fun z => hdis _ z (F.2.in hj)))
    rcases k with _ | k
    · obtain rfl : "java/lang/IndexOutOfBoundsException" = E := Option.some.inj hT
      refine vx_catch X.ow [] ⟨0, 9, 12, 21⟩ [] htab (fun z h => absurd h List.not_mem_nil) rfl (by decide) (X.ts _ m_445) (cd_at g0 (tb_2 (List.mem_of_getElem? (i := 235) (by decide +kernel)))) hc1 hc2 hc3 ?_
      refine lv_astore_n (lv' := [(3, .ref q9), (0, .ref b), (1, .int p0), (2, .ref ao)]) X.ex X.co dL_lineAt_12 rfl hl (by decide) rfl (fun ls hl => ?_)
      refine lv_iconst (v := 1) X.ex X.co dL_lineAt_13 (by decide) ?_
      exact c_i X hS rfl rfl ⟨(by rw [hk0]; rfl), hCB, (by omega), f, by rw [iup_eq he]; exact hO, fun z => absurd (hk0.symm.trans z) (by omega)⟩ (by omega) (by omega) dL_lineAt_14
    · exact absurd hT (by simp)
  · obtain ⟨rfl, hk0, hCB⟩ := hB
    have hO : fw G.1 lv ad en AO H := F.2.kept (fun j hj => hk9 _ (F.2.lt hj) (fun z => hdis _ z (F.2.in hj)))
    refine lv_i2l X.ex X.co dL_lineAt_7 rfl ?_
    refine w_last X g0.1 hO hS (fun q h => Or.inr h) hi hao he dL_lineAt_8 (fun H locs f1 hf1 hO hq hz2 hS => ?_)
    have hCB := hCB.kept (fun q hA _ => hq q (fun z => hdis q hA (by rw [z, ← hao]; exact F.2.in hi)))
    refine lv_goto (tgt := 15) X.ex X.co dL_lineAt_9 (by decide) ?_
    refine lv_iconst (v := 0) X.ex X.co dL_lineAt_15 (by decide) ?_
    exact c_i X hS rfl rfl ⟨(by rw [hk0]; rfl), hCB, (by omega), f1, hO, fun _ => hf1⟩ (by omega) (by omega) dL_lineAt_16
