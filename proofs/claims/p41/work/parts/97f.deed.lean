set_option maxHeartbeats 4000000 in
set_option maxRecDepth 100000 in
theorem c_L_deed_0 (l : Launch) (hst : l.stackTraces = false) (G : GT) (A : Nat → Prop) (hAg : ∀ q, A q → gA G q) (b : Nat) (σ : Sg) (hI : MI σ) (hJ : MJ σ) (h0 : σ.1 0 0 = 0) (p0 p1 p2 p3 : Int32) : Met l yL_deed (wofW yL_deed cL_deed 7 (some .int) [(0, 11, 12, 64), (0, 11, 18, 66), (0, 11, 24, 68), (0, 11, 30, 70), (0, 11, 36, 72)]) (RM 10 2 310) (cPre [.ref b, .int 0, .int p0, .int p1, .int p2, .int p3] G (fun H => CB G A b σ H ∧ ∀ q, H.size ≤ q → A q)) (cQ (lB G A b [(-2002), (-2003)] (fAddCohort σ p0 p1)) A) 2 310 A := by
  refine mk_w (by decide) (Nat.le_of_ble_eq_true rfl) ?_
  intro p e s m args below meth c X ls hl g0 F htab
  have hS : va_S A s.heap s.heap [] := va_S.rf
  have hl : lv_has ls 7 [(0, .ref b), (1, .int 0), (2, .int p0), (3, .int p1), (4, .int p2), (5, .int p3)] := hl
  show W p l e (RM 10 2 310) s m args below meth c s.heap [] 0 0 (MQ below (cQ (lB G A b [(-2002), (-2003)] (fAddCohort σ p0 p1)) A) args s 2 310 A) (F0 m 0 ls [])
  refine lv_aload_n X.ex X.co dL_deed_0 rfl (lv_at hl 0 rfl) ?_
  refine lv_iload_n X.ex X.co dL_deed_1 rfl (lv_at hl 1 rfl) ?_
  refine lv_iload_n X.ex X.co dL_deed_2 rfl (lv_at hl 2 rfl) ?_
  refine lv_iload_n X.ex X.co dL_deed_3 rfl (lv_at hl 3 rfl) ?_
  refine lv_iload X.ex X.co dL_deed_4 (lv_at hl 4 rfl) ?_
  refine lv_iload X.ex X.co dL_deed_6 (lv_at hl 5 rfl) ?_
  refine w_S X ce_L_plain mn_22 (c_L_plain_0 l hst G A hAg b σ hI hJ h0 p0 p1 p2 p3) g0 F (by decide) rfl hl.1 rfl (Nat.le_of_ble_eq_true rfl) dL_deed_8 (by omega) (by omega) hS (fun _ h => h) (fun E ce q9 H locs hB hz hk9 hS hc1 hc2 hc3 => ?_) (fun v0 H locs hB hz hk9 hS => ?_)
  · obtain ⟨k, hT, hk0, hCB⟩ := hB
    rcases k with _ | _ | k
    · obtain rfl : "java/lang/IllegalArgumentException" = E := Option.some.inj hT
      refine vx_catch X.ow [⟨0, 11, 12, 64⟩] ⟨0, 11, 18, 66⟩ [⟨0, 11, 24, 68⟩, ⟨0, 11, 30, 70⟩, ⟨0, 11, 36, 72⟩] htab (List.forall_mem_cons.mpr ⟨Or.inr ⟨by decide, "java/lang/IndexOutOfBoundsException", X.ts _ mn_17, nc_at g0 (List.mem_of_getElem? (i := 10) rfl)⟩, (fun z h => absurd h List.not_mem_nil)⟩) rfl (by decide) (X.ts _ mn_18) (cd_at g0 (tb_2 (List.mem_of_getElem? (i := 115) (by decide +kernel)))) hc1 hc2 hc3 ?_
      refine lv_astore (lv' := [(6, .ref q9), (0, .ref b), (1, .int 0), (2, .int p0), (3, .int p1), (4, .int p2), (5, .int p3)]) X.ex X.co dL_deed_18 hl (by decide) rfl (fun ls hl => ?_)
      refine lv_sipush (v := (-2002)) X.ex X.co dL_deed_20 (by decide) ?_
      exact c_i X hS rfl rfl ⟨(by rw [lC, if_neg (by rw [hk0]; omega), hk0]; rfl), CB_0 0 hCB⟩ (by omega) (by omega) dL_deed_23
    · obtain rfl : "java/lang/IllegalStateException" = E := Option.some.inj hT
      refine vx_catch X.ow [⟨0, 11, 12, 64⟩, ⟨0, 11, 18, 66⟩] ⟨0, 11, 24, 68⟩ [⟨0, 11, 30, 70⟩, ⟨0, 11, 36, 72⟩] htab (List.forall_mem_cons.mpr ⟨Or.inr ⟨by decide, "java/lang/IndexOutOfBoundsException", X.ts _ mn_17, nc_at g0 (List.mem_of_getElem? (i := 11) rfl)⟩, (List.forall_mem_cons.mpr ⟨Or.inr ⟨by decide, "java/lang/IllegalArgumentException", X.ts _ mn_18, nc_at g0 (List.mem_of_getElem? (i := 0) rfl)⟩, (fun z h => absurd h List.not_mem_nil)⟩)⟩) rfl (by decide) (X.ts _ mn_19) (cd_at g0 (tb_2 (List.mem_of_getElem? (i := 131) (by decide +kernel)))) hc1 hc2 hc3 ?_
      refine lv_astore (lv' := [(6, .ref q9), (0, .ref b), (1, .int 0), (2, .int p0), (3, .int p1), (4, .int p2), (5, .int p3)]) X.ex X.co dL_deed_24 hl (by decide) rfl (fun ls hl => ?_)
      refine lv_sipush (v := (-2003)) X.ex X.co dL_deed_26 (by decide) ?_
      exact c_i X hS rfl rfl ⟨(by rw [lC, if_neg (by rw [hk0]; omega), hk0]; rfl), CB_0 0 hCB⟩ (by omega) (by omega) dL_deed_29
    · exact absurd hT (by simp)
  · obtain ⟨rfl, hk0, hCB⟩ := hB
    exact c_i X hS rfl rfl ⟨(by rw [lC, if_pos hk0]), CB_0 0 hCB⟩ (by omega) (by omega) dL_deed_11
set_option maxHeartbeats 4000000 in
set_option maxRecDepth 100000 in
theorem c_L_deed_1 (l : Launch) (hst : l.stackTraces = false) (G : GT) (A : Nat → Prop) (hAg : ∀ q, A q → gA G q) (b : Nat) (σ : Sg) (hI : MI σ) (hJ : MJ σ) (h0 : σ.1 0 0 = 0) (p0 p1 p2 p3 : Int32) : Met l yL_deed (wofW yL_deed cL_deed 7 (some .int) [(0, 11, 12, 64), (0, 11, 18, 66), (0, 11, 24, 68), (0, 11, 30, 70), (0, 11, 36, 72)]) (RM 10 2 310) (cPre [.ref b, .int 1, .int p0, .int p1, .int p2, .int p3] G (fun H => CB G A b σ H ∧ ∀ q, H.size ≤ q → A q)) (cQ (lB G A b [(-2001), (-2003)] (fAddStudent σ p0)) A) 2 310 A := by
  refine mk_w (by decide) (Nat.le_of_ble_eq_true rfl) ?_
  intro p e s m args below meth c X ls hl g0 F htab
  have hS : va_S A s.heap s.heap [] := va_S.rf
  have hl : lv_has ls 7 [(0, .ref b), (1, .int 1), (2, .int p0), (3, .int p1), (4, .int p2), (5, .int p3)] := hl
  show W p l e (RM 10 2 310) s m args below meth c s.heap [] 0 0 (MQ below (cQ (lB G A b [(-2001), (-2003)] (fAddStudent σ p0)) A) args s 2 310 A) (F0 m 0 ls [])
  refine lv_aload_n X.ex X.co dL_deed_0 rfl (lv_at hl 0 rfl) ?_
  refine lv_iload_n X.ex X.co dL_deed_1 rfl (lv_at hl 1 rfl) ?_
  refine lv_iload_n X.ex X.co dL_deed_2 rfl (lv_at hl 2 rfl) ?_
  refine lv_iload_n X.ex X.co dL_deed_3 rfl (lv_at hl 3 rfl) ?_
  refine lv_iload X.ex X.co dL_deed_4 (lv_at hl 4 rfl) ?_
  refine lv_iload X.ex X.co dL_deed_6 (lv_at hl 5 rfl) ?_
  refine w_S X ce_L_plain mn_22 (c_L_plain_1 l hst G A hAg b σ hI hJ h0 p0 p1 p2 p3) g0 F (by decide) rfl hl.1 rfl (Nat.le_of_ble_eq_true rfl) dL_deed_8 (by omega) (by omega) hS (fun _ h => h) (fun E ce q9 H locs hB hz hk9 hS hc1 hc2 hc3 => ?_) (fun v0 H locs hB hz hk9 hS => ?_)
  · obtain ⟨k, hT, hk0, hCB⟩ := hB
    rcases k with _ | _ | k
    · obtain rfl : "java/lang/IndexOutOfBoundsException" = E := Option.some.inj hT
      refine vx_catch X.ow [] ⟨0, 11, 12, 64⟩ [⟨0, 11, 18, 66⟩, ⟨0, 11, 24, 68⟩, ⟨0, 11, 30, 70⟩, ⟨0, 11, 36, 72⟩] htab (fun z h => absurd h List.not_mem_nil) rfl (by decide) (X.ts _ mn_17) (cd_at g0 (tb_2 (List.mem_of_getElem? (i := 230) (by decide +kernel)))) hc1 hc2 hc3 ?_
      refine lv_astore (lv' := [(6, .ref q9), (0, .ref b), (1, .int 1), (2, .int p0), (3, .int p1), (4, .int p2), (5, .int p3)]) X.ex X.co dL_deed_12 hl (by decide) rfl (fun ls hl => ?_)
      refine lv_sipush (v := (-2001)) X.ex X.co dL_deed_14 (by decide) ?_
      exact c_i X hS rfl rfl ⟨(by rw [lC, if_neg (by rw [hk0]; omega), hk0]; rfl), CB_0 0 hCB⟩ (by omega) (by omega) dL_deed_17
    · obtain rfl : "java/lang/IllegalStateException" = E := Option.some.inj hT
      refine vx_catch X.ow [⟨0, 11, 12, 64⟩, ⟨0, 11, 18, 66⟩] ⟨0, 11, 24, 68⟩ [⟨0, 11, 30, 70⟩, ⟨0, 11, 36, 72⟩] htab (List.forall_mem_cons.mpr ⟨Or.inr ⟨by decide, "java/lang/IndexOutOfBoundsException", X.ts _ mn_17, nc_at g0 (List.mem_of_getElem? (i := 11) rfl)⟩, (List.forall_mem_cons.mpr ⟨Or.inr ⟨by decide, "java/lang/IllegalArgumentException", X.ts _ mn_18, nc_at g0 (List.mem_of_getElem? (i := 0) rfl)⟩, (fun z h => absurd h List.not_mem_nil)⟩)⟩) rfl (by decide) (X.ts _ mn_19) (cd_at g0 (tb_2 (List.mem_of_getElem? (i := 131) (by decide +kernel)))) hc1 hc2 hc3 ?_
      refine lv_astore (lv' := [(6, .ref q9), (0, .ref b), (1, .int 1), (2, .int p0), (3, .int p1), (4, .int p2), (5, .int p3)]) X.ex X.co dL_deed_24 hl (by decide) rfl (fun ls hl => ?_)
      refine lv_sipush (v := (-2003)) X.ex X.co dL_deed_26 (by decide) ?_
      exact c_i X hS rfl rfl ⟨(by rw [lC, if_neg (by rw [hk0]; omega), hk0]; rfl), CB_0 0 hCB⟩ (by omega) (by omega) dL_deed_29
    · exact absurd hT (by simp)
  · obtain ⟨rfl, hk0, hCB⟩ := hB
    exact c_i X hS rfl rfl ⟨(by rw [lC, if_pos hk0]), CB_0 0 hCB⟩ (by omega) (by omega) dL_deed_11
set_option maxHeartbeats 4000000 in
set_option maxRecDepth 100000 in
theorem c_L_deed_2 (l : Launch) (hst : l.stackTraces = false) (G : GT) (A : Nat → Prop) (hAg : ∀ q, A q → gA G q) (b : Nat) (σ : Sg) (hI : MI σ) (hJ : MJ σ) (h0 : σ.1 0 0 = 0) (p0 p1 p2 p3 : Int32) : Met l yL_deed (wofW yL_deed cL_deed 7 (some .int) [(0, 11, 12, 64), (0, 11, 18, 66), (0, 11, 24, 68), (0, 11, 30, 70), (0, 11, 36, 72)]) (RM 10 3 320) (cPre [.ref b, .int 2, .int p0, .int p1, .int p2, .int p3] G (fun H => CB G A b σ H ∧ ∀ q, H.size ≤ q → A q)) (cQ (lB G A b [(-2002), (-2003)] (fAddLesson σ p0 p1)) A) 3 320 A := by
  refine mk_w (by decide) (Nat.le_of_ble_eq_true rfl) ?_
  intro p e s m args below meth c X ls hl g0 F htab
  have hS : va_S A s.heap s.heap [] := va_S.rf
  have hl : lv_has ls 7 [(0, .ref b), (1, .int 2), (2, .int p0), (3, .int p1), (4, .int p2), (5, .int p3)] := hl
  show W p l e (RM 10 3 320) s m args below meth c s.heap [] 0 0 (MQ below (cQ (lB G A b [(-2002), (-2003)] (fAddLesson σ p0 p1)) A) args s 3 320 A) (F0 m 0 ls [])
  refine lv_aload_n X.ex X.co dL_deed_0 rfl (lv_at hl 0 rfl) ?_
  refine lv_iload_n X.ex X.co dL_deed_1 rfl (lv_at hl 1 rfl) ?_
  refine lv_iload_n X.ex X.co dL_deed_2 rfl (lv_at hl 2 rfl) ?_
  refine lv_iload_n X.ex X.co dL_deed_3 rfl (lv_at hl 3 rfl) ?_
  refine lv_iload X.ex X.co dL_deed_4 (lv_at hl 4 rfl) ?_
  refine lv_iload X.ex X.co dL_deed_6 (lv_at hl 5 rfl) ?_
  refine w_S X ce_L_plain mn_22 (c_L_plain_2 l hst G A hAg b σ hI hJ h0 p0 p1 p2 p3) g0 F (by decide) rfl hl.1 rfl (Nat.le_of_ble_eq_true rfl) dL_deed_8 (by omega) (by omega) hS (fun _ h => h) (fun E ce q9 H locs hB hz hk9 hS hc1 hc2 hc3 => ?_) (fun v0 H locs hB hz hk9 hS => ?_)
  · obtain ⟨k, hT, hk0, hCB⟩ := hB
    rcases k with _ | _ | k
    · obtain rfl : "java/lang/IllegalArgumentException" = E := Option.some.inj hT
      refine vx_catch X.ow [⟨0, 11, 12, 64⟩] ⟨0, 11, 18, 66⟩ [⟨0, 11, 24, 68⟩, ⟨0, 11, 30, 70⟩, ⟨0, 11, 36, 72⟩] htab (List.forall_mem_cons.mpr ⟨Or.inr ⟨by decide, "java/lang/IndexOutOfBoundsException", X.ts _ mn_17, nc_at g0 (List.mem_of_getElem? (i := 10) rfl)⟩, (fun z h => absurd h List.not_mem_nil)⟩) rfl (by decide) (X.ts _ mn_18) (cd_at g0 (tb_2 (List.mem_of_getElem? (i := 115) (by decide +kernel)))) hc1 hc2 hc3 ?_
      refine lv_astore (lv' := [(6, .ref q9), (0, .ref b), (1, .int 2), (2, .int p0), (3, .int p1), (4, .int p2), (5, .int p3)]) X.ex X.co dL_deed_18 hl (by decide) rfl (fun ls hl => ?_)
      refine lv_sipush (v := (-2002)) X.ex X.co dL_deed_20 (by decide) ?_
      exact c_i X hS rfl rfl ⟨(by rw [lC, if_neg (by rw [hk0]; omega), hk0]; rfl), CB_0 0 hCB⟩ (by omega) (by omega) dL_deed_23
    · obtain rfl : "java/lang/IllegalStateException" = E := Option.some.inj hT
      refine vx_catch X.ow [⟨0, 11, 12, 64⟩, ⟨0, 11, 18, 66⟩] ⟨0, 11, 24, 68⟩ [⟨0, 11, 30, 70⟩, ⟨0, 11, 36, 72⟩] htab (List.forall_mem_cons.mpr ⟨Or.inr ⟨by decide, "java/lang/IndexOutOfBoundsException", X.ts _ mn_17, nc_at g0 (List.mem_of_getElem? (i := 11) rfl)⟩, (List.forall_mem_cons.mpr ⟨Or.inr ⟨by decide, "java/lang/IllegalArgumentException", X.ts _ mn_18, nc_at g0 (List.mem_of_getElem? (i := 0) rfl)⟩, (fun z h => absurd h List.not_mem_nil)⟩)⟩) rfl (by decide) (X.ts _ mn_19) (cd_at g0 (tb_2 (List.mem_of_getElem? (i := 131) (by decide +kernel)))) hc1 hc2 hc3 ?_
      refine lv_astore (lv' := [(6, .ref q9), (0, .ref b), (1, .int 2), (2, .int p0), (3, .int p1), (4, .int p2), (5, .int p3)]) X.ex X.co dL_deed_24 hl (by decide) rfl (fun ls hl => ?_)
      refine lv_sipush (v := (-2003)) X.ex X.co dL_deed_26 (by decide) ?_
      exact c_i X hS rfl rfl ⟨(by rw [lC, if_neg (by rw [hk0]; omega), hk0]; rfl), CB_0 0 hCB⟩ (by omega) (by omega) dL_deed_29
    · exact absurd hT (by simp)
  · obtain ⟨rfl, hk0, hCB⟩ := hB
    exact c_i X hS rfl rfl ⟨(by rw [lC, if_pos hk0]), CB_0 0 hCB⟩ (by omega) (by omega) dL_deed_11
set_option maxHeartbeats 4000000 in
set_option maxRecDepth 100000 in
theorem c_L_deed_3 (l : Launch) (hst : l.stackTraces = false) (G : GT) (A : Nat → Prop) (hAg : ∀ q, A q → gA G q) (b : Nat) (σ : Sg) (hI : MI σ) (hJ : MJ σ) (h0 : σ.1 0 0 = 0) (p0 p1 p2 p3 : Int32) : Met l yL_deed (wofW yL_deed cL_deed 7 (some .int) [(0, 11, 12, 64), (0, 11, 18, 66), (0, 11, 24, 68), (0, 11, 30, 70), (0, 11, 36, 72)]) (RM 11 7 700) (cPre [.ref b, .int 3, .int p0, .int p1, .int p2, .int p3] G (fun H => CB G A b σ H ∧ ∀ q, H.size ≤ q → A q)) (cQ (lB G A b [(-2001), (-2002), (-2003)] (fAddExercise σ p0 p1 p2 p3)) A) 7 700 A := by
  refine mk_w (by decide) (Nat.le_of_ble_eq_true rfl) ?_
  intro p e s m args below meth c X ls hl g0 F htab
  have hS : va_S A s.heap s.heap [] := va_S.rf
  have hl : lv_has ls 7 [(0, .ref b), (1, .int 3), (2, .int p0), (3, .int p1), (4, .int p2), (5, .int p3)] := hl
  show W p l e (RM 11 7 700) s m args below meth c s.heap [] 0 0 (MQ below (cQ (lB G A b [(-2001), (-2002), (-2003)] (fAddExercise σ p0 p1 p2 p3)) A) args s 7 700 A) (F0 m 0 ls [])
  refine lv_aload_n X.ex X.co dL_deed_0 rfl (lv_at hl 0 rfl) ?_
  refine lv_iload_n X.ex X.co dL_deed_1 rfl (lv_at hl 1 rfl) ?_
  refine lv_iload_n X.ex X.co dL_deed_2 rfl (lv_at hl 2 rfl) ?_
  refine lv_iload_n X.ex X.co dL_deed_3 rfl (lv_at hl 3 rfl) ?_
  refine lv_iload X.ex X.co dL_deed_4 (lv_at hl 4 rfl) ?_
  refine lv_iload X.ex X.co dL_deed_6 (lv_at hl 5 rfl) ?_
  refine w_S X ce_L_plain mn_22 (c_L_plain_3 l hst G A hAg b σ hI hJ h0 p0 p1 p2 p3) g0 F (by decide) rfl hl.1 rfl (Nat.le_of_ble_eq_true rfl) dL_deed_8 (by omega) (by omega) hS (fun _ h => h) (fun E ce q9 H locs hB hz hk9 hS hc1 hc2 hc3 => ?_) (fun v0 H locs hB hz hk9 hS => ?_)
  · obtain ⟨k, hT, hk0, hCB⟩ := hB
    rcases k with _ | _ | _ | k
    · obtain rfl : "java/lang/IndexOutOfBoundsException" = E := Option.some.inj hT
      refine vx_catch X.ow [] ⟨0, 11, 12, 64⟩ [⟨0, 11, 18, 66⟩, ⟨0, 11, 24, 68⟩, ⟨0, 11, 30, 70⟩, ⟨0, 11, 36, 72⟩] htab (fun z h => absurd h List.not_mem_nil) rfl (by decide) (X.ts _ mn_17) (cd_at g0 (tb_2 (List.mem_of_getElem? (i := 230) (by decide +kernel)))) hc1 hc2 hc3 ?_
      refine lv_astore (lv' := [(6, .ref q9), (0, .ref b), (1, .int 3), (2, .int p0), (3, .int p1), (4, .int p2), (5, .int p3)]) X.ex X.co dL_deed_12 hl (by decide) rfl (fun ls hl => ?_)
      refine lv_sipush (v := (-2001)) X.ex X.co dL_deed_14 (by decide) ?_
      exact c_i X hS rfl rfl ⟨(by rw [lC, if_neg (by rw [hk0]; omega), hk0]; rfl), CB_0 0 hCB⟩ (by omega) (by omega) dL_deed_17
    · obtain rfl : "java/lang/IllegalArgumentException" = E := Option.some.inj hT
      refine vx_catch X.ow [⟨0, 11, 12, 64⟩] ⟨0, 11, 18, 66⟩ [⟨0, 11, 24, 68⟩, ⟨0, 11, 30, 70⟩, ⟨0, 11, 36, 72⟩] htab (List.forall_mem_cons.mpr ⟨Or.inr ⟨by decide, "java/lang/IndexOutOfBoundsException", X.ts _ mn_17, nc_at g0 (List.mem_of_getElem? (i := 10) rfl)⟩, (fun z h => absurd h List.not_mem_nil)⟩) rfl (by decide) (X.ts _ mn_18) (cd_at g0 (tb_2 (List.mem_of_getElem? (i := 115) (by decide +kernel)))) hc1 hc2 hc3 ?_
      refine lv_astore (lv' := [(6, .ref q9), (0, .ref b), (1, .int 3), (2, .int p0), (3, .int p1), (4, .int p2), (5, .int p3)]) X.ex X.co dL_deed_18 hl (by decide) rfl (fun ls hl => ?_)
      refine lv_sipush (v := (-2002)) X.ex X.co dL_deed_20 (by decide) ?_
      exact c_i X hS rfl rfl ⟨(by rw [lC, if_neg (by rw [hk0]; omega), hk0]; rfl), CB_0 0 hCB⟩ (by omega) (by omega) dL_deed_23
    · obtain rfl : "java/lang/IllegalStateException" = E := Option.some.inj hT
      refine vx_catch X.ow [⟨0, 11, 12, 64⟩, ⟨0, 11, 18, 66⟩] ⟨0, 11, 24, 68⟩ [⟨0, 11, 30, 70⟩, ⟨0, 11, 36, 72⟩] htab (List.forall_mem_cons.mpr ⟨Or.inr ⟨by decide, "java/lang/IndexOutOfBoundsException", X.ts _ mn_17, nc_at g0 (List.mem_of_getElem? (i := 11) rfl)⟩, (List.forall_mem_cons.mpr ⟨Or.inr ⟨by decide, "java/lang/IllegalArgumentException", X.ts _ mn_18, nc_at g0 (List.mem_of_getElem? (i := 0) rfl)⟩, (fun z h => absurd h List.not_mem_nil)⟩)⟩) rfl (by decide) (X.ts _ mn_19) (cd_at g0 (tb_2 (List.mem_of_getElem? (i := 131) (by decide +kernel)))) hc1 hc2 hc3 ?_
      refine lv_astore (lv' := [(6, .ref q9), (0, .ref b), (1, .int 3), (2, .int p0), (3, .int p1), (4, .int p2), (5, .int p3)]) X.ex X.co dL_deed_24 hl (by decide) rfl (fun ls hl => ?_)
      refine lv_sipush (v := (-2003)) X.ex X.co dL_deed_26 (by decide) ?_
      exact c_i X hS rfl rfl ⟨(by rw [lC, if_neg (by rw [hk0]; omega), hk0]; rfl), CB_0 0 hCB⟩ (by omega) (by omega) dL_deed_29
    · exact absurd hT (by simp)
  · obtain ⟨rfl, hk0, hCB⟩ := hB
    exact c_i X hS rfl rfl ⟨(by rw [lC, if_pos hk0]), CB_0 0 hCB⟩ (by omega) (by omega) dL_deed_11
set_option maxHeartbeats 4000000 in
set_option maxRecDepth 100000 in
theorem c_L_deed_4 (l : Launch) (hst : l.stackTraces = false) (G : GT) (A : Nat → Prop) (hAg : ∀ q, A q → gA G q) (b : Nat) (σ : Sg) (hI : MI σ) (hJ : MJ σ) (h0 : σ.1 0 0 = 0) (p0 p1 p2 p3 : Int32) : Met l yL_deed (wofW yL_deed cL_deed 7 (some .int) [(0, 11, 12, 64), (0, 11, 18, 66), (0, 11, 24, 68), (0, 11, 30, 70), (0, 11, 36, 72)]) (RM 6 1 6) (cPre [.ref b, .int 4, .int p0, .int p1, .int p2, .int p3] G (fun H => CB G A b σ H ∧ ∀ q, H.size ≤ q → A q)) (cQ (lB G A b [(-2001), (-2002), (-2003)] (fAddCase σ p0 p1 p2)) A) 1 6 A := by
  refine mk_w (by decide) (Nat.le_of_ble_eq_true rfl) ?_
  intro p e s m args below meth c X ls hl g0 F htab
  have hS : va_S A s.heap s.heap [] := va_S.rf
  have hl : lv_has ls 7 [(0, .ref b), (1, .int 4), (2, .int p0), (3, .int p1), (4, .int p2), (5, .int p3)] := hl
  show W p l e (RM 6 1 6) s m args below meth c s.heap [] 0 0 (MQ below (cQ (lB G A b [(-2001), (-2002), (-2003)] (fAddCase σ p0 p1 p2)) A) args s 1 6 A) (F0 m 0 ls [])
  refine lv_aload_n X.ex X.co dL_deed_0 rfl (lv_at hl 0 rfl) ?_
  refine lv_iload_n X.ex X.co dL_deed_1 rfl (lv_at hl 1 rfl) ?_
  refine lv_iload_n X.ex X.co dL_deed_2 rfl (lv_at hl 2 rfl) ?_
  refine lv_iload_n X.ex X.co dL_deed_3 rfl (lv_at hl 3 rfl) ?_
  refine lv_iload X.ex X.co dL_deed_4 (lv_at hl 4 rfl) ?_
  refine lv_iload X.ex X.co dL_deed_6 (lv_at hl 5 rfl) ?_
  refine w_S X ce_L_plain mn_22 (c_L_plain_4 l hst G A hAg b σ hI hJ h0 p0 p1 p2 p3) g0 F (by decide) rfl hl.1 rfl (Nat.le_of_ble_eq_true rfl) dL_deed_8 (by omega) (by omega) hS (fun _ h => h) (fun E ce q9 H locs hB hz hk9 hS hc1 hc2 hc3 => ?_) (fun v0 H locs hB hz hk9 hS => ?_)
  · obtain ⟨k, hT, hk0, hCB⟩ := hB
    rcases k with _ | _ | _ | k
    · obtain rfl : "java/lang/IndexOutOfBoundsException" = E := Option.some.inj hT
      refine vx_catch X.ow [] ⟨0, 11, 12, 64⟩ [⟨0, 11, 18, 66⟩, ⟨0, 11, 24, 68⟩, ⟨0, 11, 30, 70⟩, ⟨0, 11, 36, 72⟩] htab (fun z h => absurd h List.not_mem_nil) rfl (by decide) (X.ts _ mn_17) (cd_at g0 (tb_2 (List.mem_of_getElem? (i := 230) (by decide +kernel)))) hc1 hc2 hc3 ?_
      refine lv_astore (lv' := [(6, .ref q9), (0, .ref b), (1, .int 4), (2, .int p0), (3, .int p1), (4, .int p2), (5, .int p3)]) X.ex X.co dL_deed_12 hl (by decide) rfl (fun ls hl => ?_)
      refine lv_sipush (v := (-2001)) X.ex X.co dL_deed_14 (by decide) ?_
      exact c_i X hS rfl rfl ⟨(by rw [lC, if_neg (by rw [hk0]; omega), hk0]; rfl), CB_0 0 hCB⟩ (by omega) (by omega) dL_deed_17
    · obtain rfl : "java/lang/IllegalArgumentException" = E := Option.some.inj hT
      refine vx_catch X.ow [⟨0, 11, 12, 64⟩] ⟨0, 11, 18, 66⟩ [⟨0, 11, 24, 68⟩, ⟨0, 11, 30, 70⟩, ⟨0, 11, 36, 72⟩] htab (List.forall_mem_cons.mpr ⟨Or.inr ⟨by decide, "java/lang/IndexOutOfBoundsException", X.ts _ mn_17, nc_at g0 (List.mem_of_getElem? (i := 10) rfl)⟩, (fun z h => absurd h List.not_mem_nil)⟩) rfl (by decide) (X.ts _ mn_18) (cd_at g0 (tb_2 (List.mem_of_getElem? (i := 115) (by decide +kernel)))) hc1 hc2 hc3 ?_
      refine lv_astore (lv' := [(6, .ref q9), (0, .ref b), (1, .int 4), (2, .int p0), (3, .int p1), (4, .int p2), (5, .int p3)]) X.ex X.co dL_deed_18 hl (by decide) rfl (fun ls hl => ?_)
      refine lv_sipush (v := (-2002)) X.ex X.co dL_deed_20 (by decide) ?_
      exact c_i X hS rfl rfl ⟨(by rw [lC, if_neg (by rw [hk0]; omega), hk0]; rfl), CB_0 0 hCB⟩ (by omega) (by omega) dL_deed_23
    · obtain rfl : "java/lang/IllegalStateException" = E := Option.some.inj hT
      refine vx_catch X.ow [⟨0, 11, 12, 64⟩, ⟨0, 11, 18, 66⟩] ⟨0, 11, 24, 68⟩ [⟨0, 11, 30, 70⟩, ⟨0, 11, 36, 72⟩] htab (List.forall_mem_cons.mpr ⟨Or.inr ⟨by decide, "java/lang/IndexOutOfBoundsException", X.ts _ mn_17, nc_at g0 (List.mem_of_getElem? (i := 11) rfl)⟩, (List.forall_mem_cons.mpr ⟨Or.inr ⟨by decide, "java/lang/IllegalArgumentException", X.ts _ mn_18, nc_at g0 (List.mem_of_getElem? (i := 0) rfl)⟩, (fun z h => absurd h List.not_mem_nil)⟩)⟩) rfl (by decide) (X.ts _ mn_19) (cd_at g0 (tb_2 (List.mem_of_getElem? (i := 131) (by decide +kernel)))) hc1 hc2 hc3 ?_
      refine lv_astore (lv' := [(6, .ref q9), (0, .ref b), (1, .int 4), (2, .int p0), (3, .int p1), (4, .int p2), (5, .int p3)]) X.ex X.co dL_deed_24 hl (by decide) rfl (fun ls hl => ?_)
      refine lv_sipush (v := (-2003)) X.ex X.co dL_deed_26 (by decide) ?_
      exact c_i X hS rfl rfl ⟨(by rw [lC, if_neg (by rw [hk0]; omega), hk0]; rfl), CB_0 0 hCB⟩ (by omega) (by omega) dL_deed_29
    · exact absurd hT (by simp)
  · obtain ⟨rfl, hk0, hCB⟩ := hB
    exact c_i X hS rfl rfl ⟨(by rw [lC, if_pos hk0]), CB_0 0 hCB⟩ (by omega) (by omega) dL_deed_11
set_option maxHeartbeats 4000000 in
set_option maxRecDepth 100000 in
theorem c_L_deed_5 (l : Launch) (hst : l.stackTraces = false) (G : GT) (A : Nat → Prop) (hAg : ∀ q, A q → gA G q) (b : Nat) (σ : Sg) (hI : MI σ) (hJ : MJ σ) (h0 : σ.1 0 0 = 0) (p0 p1 p2 p3 : Int32) : Met l yL_deed (wofW yL_deed cL_deed 7 (some .int) [(0, 11, 12, 64), (0, 11, 18, 66), (0, 11, 24, 68), (0, 11, 30, 70), (0, 11, 36, 72)]) (RM 10 6 640) (cPre [.ref b, .int 5, .int p0, .int p1, .int p2, .int p3] G (fun H => CB G A b σ H ∧ ∀ q, H.size ≤ q → A q)) (cQ (lB G A b [(-2001), (-2002), (-2004), (-2003)] (fAnswer σ p0 p1 p2 p3)) A) 6 640 A := by
  refine mk_w (by decide) (Nat.le_of_ble_eq_true rfl) ?_
  intro p e s m args below meth c X ls hl g0 F htab
  have hS : va_S A s.heap s.heap [] := va_S.rf
  have hl : lv_has ls 7 [(0, .ref b), (1, .int 5), (2, .int p0), (3, .int p1), (4, .int p2), (5, .int p3)] := hl
  show W p l e (RM 10 6 640) s m args below meth c s.heap [] 0 0 (MQ below (cQ (lB G A b [(-2001), (-2002), (-2004), (-2003)] (fAnswer σ p0 p1 p2 p3)) A) args s 6 640 A) (F0 m 0 ls [])
  refine lv_aload_n X.ex X.co dL_deed_0 rfl (lv_at hl 0 rfl) ?_
  refine lv_iload_n X.ex X.co dL_deed_1 rfl (lv_at hl 1 rfl) ?_
  refine lv_iload_n X.ex X.co dL_deed_2 rfl (lv_at hl 2 rfl) ?_
  refine lv_iload_n X.ex X.co dL_deed_3 rfl (lv_at hl 3 rfl) ?_
  refine lv_iload X.ex X.co dL_deed_4 (lv_at hl 4 rfl) ?_
  refine lv_iload X.ex X.co dL_deed_6 (lv_at hl 5 rfl) ?_
  refine w_S X ce_L_plain mn_22 (c_L_plain_5 l hst G A hAg b σ hI hJ h0 p0 p1 p2 p3) g0 F (by decide) rfl hl.1 rfl (Nat.le_of_ble_eq_true rfl) dL_deed_8 (by omega) (by omega) hS (fun _ h => h) (fun E ce q9 H locs hB hz hk9 hS hc1 hc2 hc3 => ?_) (fun v0 H locs hB hz hk9 hS => ?_)
  · obtain ⟨k, hT, hk0, hCB⟩ := hB
    rcases k with _ | _ | _ | _ | k
    · obtain rfl : "java/lang/IndexOutOfBoundsException" = E := Option.some.inj hT
      refine vx_catch X.ow [] ⟨0, 11, 12, 64⟩ [⟨0, 11, 18, 66⟩, ⟨0, 11, 24, 68⟩, ⟨0, 11, 30, 70⟩, ⟨0, 11, 36, 72⟩] htab (fun z h => absurd h List.not_mem_nil) rfl (by decide) (X.ts _ mn_17) (cd_at g0 (tb_2 (List.mem_of_getElem? (i := 230) (by decide +kernel)))) hc1 hc2 hc3 ?_
      refine lv_astore (lv' := [(6, .ref q9), (0, .ref b), (1, .int 5), (2, .int p0), (3, .int p1), (4, .int p2), (5, .int p3)]) X.ex X.co dL_deed_12 hl (by decide) rfl (fun ls hl => ?_)
      refine lv_sipush (v := (-2001)) X.ex X.co dL_deed_14 (by decide) ?_
      exact c_i X hS rfl rfl ⟨(by rw [lC, if_neg (by rw [hk0]; omega), hk0]; rfl), CB_0 0 hCB⟩ (by omega) (by omega) dL_deed_17
    · obtain rfl : "java/lang/IllegalArgumentException" = E := Option.some.inj hT
      refine vx_catch X.ow [⟨0, 11, 12, 64⟩] ⟨0, 11, 18, 66⟩ [⟨0, 11, 24, 68⟩, ⟨0, 11, 30, 70⟩, ⟨0, 11, 36, 72⟩] htab (List.forall_mem_cons.mpr ⟨Or.inr ⟨by decide, "java/lang/IndexOutOfBoundsException", X.ts _ mn_17, nc_at g0 (List.mem_of_getElem? (i := 10) rfl)⟩, (fun z h => absurd h List.not_mem_nil)⟩) rfl (by decide) (X.ts _ mn_18) (cd_at g0 (tb_2 (List.mem_of_getElem? (i := 115) (by decide +kernel)))) hc1 hc2 hc3 ?_
      refine lv_astore (lv' := [(6, .ref q9), (0, .ref b), (1, .int 5), (2, .int p0), (3, .int p1), (4, .int p2), (5, .int p3)]) X.ex X.co dL_deed_18 hl (by decide) rfl (fun ls hl => ?_)
      refine lv_sipush (v := (-2002)) X.ex X.co dL_deed_20 (by decide) ?_
      exact c_i X hS rfl rfl ⟨(by rw [lC, if_neg (by rw [hk0]; omega), hk0]; rfl), CB_0 0 hCB⟩ (by omega) (by omega) dL_deed_23
    · obtain rfl : "java/lang/UnsupportedOperationException" = E := Option.some.inj hT
      refine vx_catch X.ow [⟨0, 11, 12, 64⟩, ⟨0, 11, 18, 66⟩, ⟨0, 11, 24, 68⟩] ⟨0, 11, 30, 70⟩ [⟨0, 11, 36, 72⟩] htab (List.forall_mem_cons.mpr ⟨Or.inr ⟨by decide, "java/lang/IndexOutOfBoundsException", X.ts _ mn_17, nc_at g0 (List.mem_of_getElem? (i := 12) rfl)⟩, (List.forall_mem_cons.mpr ⟨Or.inr ⟨by decide, "java/lang/IllegalArgumentException", X.ts _ mn_18, nc_at g0 (List.mem_of_getElem? (i := 2) rfl)⟩, (List.forall_mem_cons.mpr ⟨Or.inr ⟨by decide, "java/lang/IllegalStateException", X.ts _ mn_19, nc_at g0 (List.mem_of_getElem? (i := 7) rfl)⟩, (fun z h => absurd h List.not_mem_nil)⟩)⟩)⟩) rfl (by decide) (X.ts _ mn_20) (cd_at g0 (tb_3 (List.mem_of_getElem? (i := 173) (by decide +kernel)))) hc1 hc2 hc3 ?_
      refine lv_astore (lv' := [(6, .ref q9), (0, .ref b), (1, .int 5), (2, .int p0), (3, .int p1), (4, .int p2), (5, .int p3)]) X.ex X.co dL_deed_30 hl (by decide) rfl (fun ls hl => ?_)
      refine lv_sipush (v := (-2004)) X.ex X.co dL_deed_32 (by decide) ?_
      exact c_i X hS rfl rfl ⟨(by rw [lC, if_neg (by rw [hk0]; omega), hk0]; rfl), CB_0 0 hCB⟩ (by omega) (by omega) dL_deed_35
    · obtain rfl : "java/lang/IllegalStateException" = E := Option.some.inj hT
      refine vx_catch X.ow [⟨0, 11, 12, 64⟩, ⟨0, 11, 18, 66⟩] ⟨0, 11, 24, 68⟩ [⟨0, 11, 30, 70⟩, ⟨0, 11, 36, 72⟩] htab (List.forall_mem_cons.mpr ⟨Or.inr ⟨by decide, "java/lang/IndexOutOfBoundsException", X.ts _ mn_17, nc_at g0 (List.mem_of_getElem? (i := 11) rfl)⟩, (List.forall_mem_cons.mpr ⟨Or.inr ⟨by decide, "java/lang/IllegalArgumentException", X.ts _ mn_18, nc_at g0 (List.mem_of_getElem? (i := 0) rfl)⟩, (fun z h => absurd h List.not_mem_nil)⟩)⟩) rfl (by decide) (X.ts _ mn_19) (cd_at g0 (tb_2 (List.mem_of_getElem? (i := 131) (by decide +kernel)))) hc1 hc2 hc3 ?_
      refine lv_astore (lv' := [(6, .ref q9), (0, .ref b), (1, .int 5), (2, .int p0), (3, .int p1), (4, .int p2), (5, .int p3)]) X.ex X.co dL_deed_24 hl (by decide) rfl (fun ls hl => ?_)
      refine lv_sipush (v := (-2003)) X.ex X.co dL_deed_26 (by decide) ?_
      exact c_i X hS rfl rfl ⟨(by rw [lC, if_neg (by rw [hk0]; omega), hk0]; rfl), CB_0 0 hCB⟩ (by omega) (by omega) dL_deed_29
    · exact absurd hT (by simp)
  · obtain ⟨rfl, hk0, hCB⟩ := hB
    exact c_i X hS rfl rfl ⟨(by rw [lC, if_pos hk0]), CB_0 0 hCB⟩ (by omega) (by omega) dL_deed_11
set_option maxHeartbeats 4000000 in
set_option maxRecDepth 100000 in
theorem c_L_deed_6 (l : Launch) (hst : l.stackTraces = false) (G : GT) (A : Nat → Prop) (hAg : ∀ q, A q → gA G q) (b : Nat) (σ : Sg) (hI : MI σ) (hJ : MJ σ) (h0 : σ.1 0 0 = 0) (p0 p1 p2 p3 : Int32) : Met l yL_deed (wofW yL_deed cL_deed 7 (some .int) [(0, 11, 12, 64), (0, 11, 18, 66), (0, 11, 24, 68), (0, 11, 30, 70), (0, 11, 36, 72)]) (RM 10 1 310) (cPre [.ref b, .int 6, .int p0, .int p1, .int p2, .int p3] G (fun H => CB G A b σ H ∧ ∀ q, H.size ≤ q → A q)) (cQ (lB G A b [(-2001), (-2003)] (fAppeal σ p0)) A) 1 310 A := by
  refine mk_w (by decide) (Nat.le_of_ble_eq_true rfl) ?_
  intro p e s m args below meth c X ls hl g0 F htab
  have hS : va_S A s.heap s.heap [] := va_S.rf
  have hl : lv_has ls 7 [(0, .ref b), (1, .int 6), (2, .int p0), (3, .int p1), (4, .int p2), (5, .int p3)] := hl
  show W p l e (RM 10 1 310) s m args below meth c s.heap [] 0 0 (MQ below (cQ (lB G A b [(-2001), (-2003)] (fAppeal σ p0)) A) args s 1 310 A) (F0 m 0 ls [])
  refine lv_aload_n X.ex X.co dL_deed_0 rfl (lv_at hl 0 rfl) ?_
  refine lv_iload_n X.ex X.co dL_deed_1 rfl (lv_at hl 1 rfl) ?_
  refine lv_iload_n X.ex X.co dL_deed_2 rfl (lv_at hl 2 rfl) ?_
  refine lv_iload_n X.ex X.co dL_deed_3 rfl (lv_at hl 3 rfl) ?_
  refine lv_iload X.ex X.co dL_deed_4 (lv_at hl 4 rfl) ?_
  refine lv_iload X.ex X.co dL_deed_6 (lv_at hl 5 rfl) ?_
  refine w_S X ce_L_plain mn_22 (c_L_plain_6 l hst G A hAg b σ hI hJ h0 p0 p1 p2 p3) g0 F (by decide) rfl hl.1 rfl (Nat.le_of_ble_eq_true rfl) dL_deed_8 (by omega) (by omega) hS (fun _ h => h) (fun E ce q9 H locs hB hz hk9 hS hc1 hc2 hc3 => ?_) (fun v0 H locs hB hz hk9 hS => ?_)
  · obtain ⟨k, hT, hk0, hCB⟩ := hB
    rcases k with _ | _ | k
    · obtain rfl : "java/lang/IndexOutOfBoundsException" = E := Option.some.inj hT
      refine vx_catch X.ow [] ⟨0, 11, 12, 64⟩ [⟨0, 11, 18, 66⟩, ⟨0, 11, 24, 68⟩, ⟨0, 11, 30, 70⟩, ⟨0, 11, 36, 72⟩] htab (fun z h => absurd h List.not_mem_nil) rfl (by decide) (X.ts _ mn_17) (cd_at g0 (tb_2 (List.mem_of_getElem? (i := 230) (by decide +kernel)))) hc1 hc2 hc3 ?_
      refine lv_astore (lv' := [(6, .ref q9), (0, .ref b), (1, .int 6), (2, .int p0), (3, .int p1), (4, .int p2), (5, .int p3)]) X.ex X.co dL_deed_12 hl (by decide) rfl (fun ls hl => ?_)
      refine lv_sipush (v := (-2001)) X.ex X.co dL_deed_14 (by decide) ?_
      exact c_i X hS rfl rfl ⟨(by rw [lC, if_neg (by rw [hk0]; omega), hk0]; rfl), CB_0 0 hCB⟩ (by omega) (by omega) dL_deed_17
    · obtain rfl : "java/lang/IllegalStateException" = E := Option.some.inj hT
      refine vx_catch X.ow [⟨0, 11, 12, 64⟩, ⟨0, 11, 18, 66⟩] ⟨0, 11, 24, 68⟩ [⟨0, 11, 30, 70⟩, ⟨0, 11, 36, 72⟩] htab (List.forall_mem_cons.mpr ⟨Or.inr ⟨by decide, "java/lang/IndexOutOfBoundsException", X.ts _ mn_17, nc_at g0 (List.mem_of_getElem? (i := 11) rfl)⟩, (List.forall_mem_cons.mpr ⟨Or.inr ⟨by decide, "java/lang/IllegalArgumentException", X.ts _ mn_18, nc_at g0 (List.mem_of_getElem? (i := 0) rfl)⟩, (fun z h => absurd h List.not_mem_nil)⟩)⟩) rfl (by decide) (X.ts _ mn_19) (cd_at g0 (tb_2 (List.mem_of_getElem? (i := 131) (by decide +kernel)))) hc1 hc2 hc3 ?_
      refine lv_astore (lv' := [(6, .ref q9), (0, .ref b), (1, .int 6), (2, .int p0), (3, .int p1), (4, .int p2), (5, .int p3)]) X.ex X.co dL_deed_24 hl (by decide) rfl (fun ls hl => ?_)
      refine lv_sipush (v := (-2003)) X.ex X.co dL_deed_26 (by decide) ?_
      exact c_i X hS rfl rfl ⟨(by rw [lC, if_neg (by rw [hk0]; omega), hk0]; rfl), CB_0 0 hCB⟩ (by omega) (by omega) dL_deed_29
    · exact absurd hT (by simp)
  · obtain ⟨rfl, hk0, hCB⟩ := hB
    exact c_i X hS rfl rfl ⟨(by rw [lC, if_pos hk0]), CB_0 0 hCB⟩ (by omega) (by omega) dL_deed_11
set_option maxHeartbeats 4000000 in
set_option maxRecDepth 100000 in
theorem c_L_deed_7 (l : Launch) (hst : l.stackTraces = false) (G : GT) (A : Nat → Prop) (hAg : ∀ q, A q → gA G q) (b : Nat) (σ : Sg) (hI : MI σ) (hJ : MJ σ) (h0 : σ.1 0 0 = 0) (p0 p1 p2 p3 : Int32) : Met l yL_deed (wofW yL_deed cL_deed 7 (some .int) [(0, 11, 12, 64), (0, 11, 18, 66), (0, 11, 24, 68), (0, 11, 30, 70), (0, 11, 36, 72)]) (RM 6 1 6) (cPre [.ref b, .int 7, .int p0, .int p1, .int p2, .int p3] G (fun H => CB G A b σ H ∧ ∀ q, H.size ≤ q → A q)) (cQ (lB G A b [(-2001), (-2005)] (fWithdraw σ p0)) A) 1 6 A := by
  refine mk_w (by decide) (Nat.le_of_ble_eq_true rfl) ?_
  intro p e s m args below meth c X ls hl g0 F htab
  have hS : va_S A s.heap s.heap [] := va_S.rf
  have hl : lv_has ls 7 [(0, .ref b), (1, .int 7), (2, .int p0), (3, .int p1), (4, .int p2), (5, .int p3)] := hl
  show W p l e (RM 6 1 6) s m args below meth c s.heap [] 0 0 (MQ below (cQ (lB G A b [(-2001), (-2005)] (fWithdraw σ p0)) A) args s 1 6 A) (F0 m 0 ls [])
  refine lv_aload_n X.ex X.co dL_deed_0 rfl (lv_at hl 0 rfl) ?_
  refine lv_iload_n X.ex X.co dL_deed_1 rfl (lv_at hl 1 rfl) ?_
  refine lv_iload_n X.ex X.co dL_deed_2 rfl (lv_at hl 2 rfl) ?_
  refine lv_iload_n X.ex X.co dL_deed_3 rfl (lv_at hl 3 rfl) ?_
  refine lv_iload X.ex X.co dL_deed_4 (lv_at hl 4 rfl) ?_
  refine lv_iload X.ex X.co dL_deed_6 (lv_at hl 5 rfl) ?_
  refine w_S X ce_L_plain mn_22 (c_L_plain_7 l hst G A hAg b σ hI hJ h0 p0 p1 p2 p3) g0 F (by decide) rfl hl.1 rfl (Nat.le_of_ble_eq_true rfl) dL_deed_8 (by omega) (by omega) hS (fun _ h => h) (fun E ce q9 H locs hB hz hk9 hS hc1 hc2 hc3 => ?_) (fun v0 H locs hB hz hk9 hS => ?_)
  · obtain ⟨k, hT, hk0, hCB⟩ := hB
    rcases k with _ | _ | k
    · obtain rfl : "java/lang/IndexOutOfBoundsException" = E := Option.some.inj hT
      refine vx_catch X.ow [] ⟨0, 11, 12, 64⟩ [⟨0, 11, 18, 66⟩, ⟨0, 11, 24, 68⟩, ⟨0, 11, 30, 70⟩, ⟨0, 11, 36, 72⟩] htab (fun z h => absurd h List.not_mem_nil) rfl (by decide) (X.ts _ mn_17) (cd_at g0 (tb_2 (List.mem_of_getElem? (i := 230) (by decide +kernel)))) hc1 hc2 hc3 ?_
      refine lv_astore (lv' := [(6, .ref q9), (0, .ref b), (1, .int 7), (2, .int p0), (3, .int p1), (4, .int p2), (5, .int p3)]) X.ex X.co dL_deed_12 hl (by decide) rfl (fun ls hl => ?_)
      refine lv_sipush (v := (-2001)) X.ex X.co dL_deed_14 (by decide) ?_
      exact c_i X hS rfl rfl ⟨(by rw [lC, if_neg (by rw [hk0]; omega), hk0]; rfl), CB_0 0 hCB⟩ (by omega) (by omega) dL_deed_17
    · obtain rfl : "java/util/NoSuchElementException" = E := Option.some.inj hT
      refine vx_catch X.ow [⟨0, 11, 12, 64⟩, ⟨0, 11, 18, 66⟩, ⟨0, 11, 24, 68⟩, ⟨0, 11, 30, 70⟩] ⟨0, 11, 36, 72⟩ [] htab (List.forall_mem_cons.mpr ⟨Or.inr ⟨by decide, "java/lang/IndexOutOfBoundsException", X.ts _ mn_17, nc_at g0 (List.mem_of_getElem? (i := 13) rfl)⟩, (List.forall_mem_cons.mpr ⟨Or.inr ⟨by decide, "java/lang/IllegalArgumentException", X.ts _ mn_18, nc_at g0 (List.mem_of_getElem? (i := 3) rfl)⟩, (List.forall_mem_cons.mpr ⟨Or.inr ⟨by decide, "java/lang/IllegalStateException", X.ts _ mn_19, nc_at g0 (List.mem_of_getElem? (i := 8) rfl)⟩, (List.forall_mem_cons.mpr ⟨Or.inr ⟨by decide, "java/lang/UnsupportedOperationException", X.ts _ mn_20, nc_at g0 (List.mem_of_getElem? (i := 18) rfl)⟩, (fun z h => absurd h List.not_mem_nil)⟩)⟩)⟩)⟩) rfl (by decide) (X.ts _ mn_21) (cd_at g0 (tb_4 (List.mem_of_getElem? (i := 14) (by decide +kernel)))) hc1 hc2 hc3 ?_
      refine lv_astore (lv' := [(6, .ref q9), (0, .ref b), (1, .int 7), (2, .int p0), (3, .int p1), (4, .int p2), (5, .int p3)]) X.ex X.co dL_deed_36 hl (by decide) rfl (fun ls hl => ?_)
      refine lv_sipush (v := (-2005)) X.ex X.co dL_deed_38 (by decide) ?_
      exact c_i X hS rfl rfl ⟨(by rw [lC, if_neg (by rw [hk0]; omega), hk0]; rfl), CB_0 0 hCB⟩ (by omega) (by omega) dL_deed_41
    · exact absurd hT (by simp)
  · obtain ⟨rfl, hk0, hCB⟩ := hB
    exact c_i X hS rfl rfl ⟨(by rw [lC, if_pos hk0]), CB_0 0 hCB⟩ (by omega) (by omega) dL_deed_11
set_option maxHeartbeats 4000000 in
set_option maxRecDepth 100000 in
theorem c_L_deed_8 (l : Launch) (hst : l.stackTraces = false) (G : GT) (A : Nat → Prop) (hAg : ∀ q, A q → gA G q) (b : Nat) (σ : Sg) (hI : MI σ) (hJ : MJ σ) (h0 : σ.1 0 0 = 0) (p0 p1 p2 p3 : Int32) : Met l yL_deed (wofW yL_deed cL_deed 7 (some .int) [(0, 11, 12, 64), (0, 11, 18, 66), (0, 11, 24, 68), (0, 11, 30, 70), (0, 11, 36, 72)]) (RM 6 1 6) (cPre [.ref b, .int 8, .int p0, .int p1, .int p2, .int p3] G (fun H => CB G A b σ H ∧ ∀ q, H.size ≤ q → A q)) (cQ (lB G A b [(-2002), (-2005)] (fDecide σ p0)) A) 1 6 A := by
  refine mk_w (by decide) (Nat.le_of_ble_eq_true rfl) ?_
  intro p e s m args below meth c X ls hl g0 F htab
  have hS : va_S A s.heap s.heap [] := va_S.rf
  have hl : lv_has ls 7 [(0, .ref b), (1, .int 8), (2, .int p0), (3, .int p1), (4, .int p2), (5, .int p3)] := hl
  show W p l e (RM 6 1 6) s m args below meth c s.heap [] 0 0 (MQ below (cQ (lB G A b [(-2002), (-2005)] (fDecide σ p0)) A) args s 1 6 A) (F0 m 0 ls [])
  refine lv_aload_n X.ex X.co dL_deed_0 rfl (lv_at hl 0 rfl) ?_
  refine lv_iload_n X.ex X.co dL_deed_1 rfl (lv_at hl 1 rfl) ?_
  refine lv_iload_n X.ex X.co dL_deed_2 rfl (lv_at hl 2 rfl) ?_
  refine lv_iload_n X.ex X.co dL_deed_3 rfl (lv_at hl 3 rfl) ?_
  refine lv_iload X.ex X.co dL_deed_4 (lv_at hl 4 rfl) ?_
  refine lv_iload X.ex X.co dL_deed_6 (lv_at hl 5 rfl) ?_
  refine w_S X ce_L_plain mn_22 (c_L_plain_8 l hst G A hAg b σ hI hJ h0 p0 p1 p2 p3) g0 F (by decide) rfl hl.1 rfl (Nat.le_of_ble_eq_true rfl) dL_deed_8 (by omega) (by omega) hS (fun _ h => h) (fun E ce q9 H locs hB hz hk9 hS hc1 hc2 hc3 => ?_) (fun v0 H locs hB hz hk9 hS => ?_)
  · obtain ⟨k, hT, hk0, hCB⟩ := hB
    rcases k with _ | _ | k
    · obtain rfl : "java/lang/IllegalArgumentException" = E := Option.some.inj hT
      refine vx_catch X.ow [⟨0, 11, 12, 64⟩] ⟨0, 11, 18, 66⟩ [⟨0, 11, 24, 68⟩, ⟨0, 11, 30, 70⟩, ⟨0, 11, 36, 72⟩] htab (List.forall_mem_cons.mpr ⟨Or.inr ⟨by decide, "java/lang/IndexOutOfBoundsException", X.ts _ mn_17, nc_at g0 (List.mem_of_getElem? (i := 10) rfl)⟩, (fun z h => absurd h List.not_mem_nil)⟩) rfl (by decide) (X.ts _ mn_18) (cd_at g0 (tb_2 (List.mem_of_getElem? (i := 115) (by decide +kernel)))) hc1 hc2 hc3 ?_
      refine lv_astore (lv' := [(6, .ref q9), (0, .ref b), (1, .int 8), (2, .int p0), (3, .int p1), (4, .int p2), (5, .int p3)]) X.ex X.co dL_deed_18 hl (by decide) rfl (fun ls hl => ?_)
      refine lv_sipush (v := (-2002)) X.ex X.co dL_deed_20 (by decide) ?_
      exact c_i X hS rfl rfl ⟨(by rw [lC, if_neg (by rw [hk0]; omega), hk0]; rfl), CB_0 0 hCB⟩ (by omega) (by omega) dL_deed_23
    · obtain rfl : "java/util/NoSuchElementException" = E := Option.some.inj hT
      refine vx_catch X.ow [⟨0, 11, 12, 64⟩, ⟨0, 11, 18, 66⟩, ⟨0, 11, 24, 68⟩, ⟨0, 11, 30, 70⟩] ⟨0, 11, 36, 72⟩ [] htab (List.forall_mem_cons.mpr ⟨Or.inr ⟨by decide, "java/lang/IndexOutOfBoundsException", X.ts _ mn_17, nc_at g0 (List.mem_of_getElem? (i := 13) rfl)⟩, (List.forall_mem_cons.mpr ⟨Or.inr ⟨by decide, "java/lang/IllegalArgumentException", X.ts _ mn_18, nc_at g0 (List.mem_of_getElem? (i := 3) rfl)⟩, (List.forall_mem_cons.mpr ⟨Or.inr ⟨by decide, "java/lang/IllegalStateException", X.ts _ mn_19, nc_at g0 (List.mem_of_getElem? (i := 8) rfl)⟩, (List.forall_mem_cons.mpr ⟨Or.inr ⟨by decide, "java/lang/UnsupportedOperationException", X.ts _ mn_20, nc_at g0 (List.mem_of_getElem? (i := 18) rfl)⟩, (fun z h => absurd h List.not_mem_nil)⟩)⟩)⟩)⟩) rfl (by decide) (X.ts _ mn_21) (cd_at g0 (tb_4 (List.mem_of_getElem? (i := 14) (by decide +kernel)))) hc1 hc2 hc3 ?_
      refine lv_astore (lv' := [(6, .ref q9), (0, .ref b), (1, .int 8), (2, .int p0), (3, .int p1), (4, .int p2), (5, .int p3)]) X.ex X.co dL_deed_36 hl (by decide) rfl (fun ls hl => ?_)
      refine lv_sipush (v := (-2005)) X.ex X.co dL_deed_38 (by decide) ?_
      exact c_i X hS rfl rfl ⟨(by rw [lC, if_neg (by rw [hk0]; omega), hk0]; rfl), CB_0 0 hCB⟩ (by omega) (by omega) dL_deed_41
    · exact absurd hT (by simp)
  · obtain ⟨rfl, hk0, hCB⟩ := hB
    exact c_i X hS rfl rfl ⟨(by rw [lC, if_pos hk0]), CB_0 0 hCB⟩ (by omega) (by omega) dL_deed_11
set_option maxHeartbeats 4000000 in
set_option maxRecDepth 100000 in
theorem c_L_deed_9 (l : Launch) (hst : l.stackTraces = false) (G : GT) (A : Nat → Prop) (hAg : ∀ q, A q → gA G q) (b : Nat) (σ : Sg) (hI : MI σ) (hJ : MJ σ) (h0 : σ.1 0 0 = 0) (p0 p1 p2 p3 : Int32) : Met l yL_deed (wofW yL_deed cL_deed 7 (some .int) [(0, 11, 12, 64), (0, 11, 18, 66), (0, 11, 24, 68), (0, 11, 30, 70), (0, 11, 36, 72)]) (RM 10 102 1220) (cPre [.ref b, .int 9, .int p0, .int p1, .int p2, .int p3] G (fun H => CB G A b σ H ∧ ∀ q, H.size ≤ q → A q)) (cQ (lB G A b [(-2001), (-2002), (-2003)] (fMend σ p0 p1 p2)) A) 102 1220 A := by
  refine mk_w (by decide) (Nat.le_of_ble_eq_true rfl) ?_
  intro p e s m args below meth c X ls hl g0 F htab
  have hS : va_S A s.heap s.heap [] := va_S.rf
  have hl : lv_has ls 7 [(0, .ref b), (1, .int 9), (2, .int p0), (3, .int p1), (4, .int p2), (5, .int p3)] := hl
  show W p l e (RM 10 102 1220) s m args below meth c s.heap [] 0 0 (MQ below (cQ (lB G A b [(-2001), (-2002), (-2003)] (fMend σ p0 p1 p2)) A) args s 102 1220 A) (F0 m 0 ls [])
  refine lv_aload_n X.ex X.co dL_deed_0 rfl (lv_at hl 0 rfl) ?_
  refine lv_iload_n X.ex X.co dL_deed_1 rfl (lv_at hl 1 rfl) ?_
  refine lv_iload_n X.ex X.co dL_deed_2 rfl (lv_at hl 2 rfl) ?_
  refine lv_iload_n X.ex X.co dL_deed_3 rfl (lv_at hl 3 rfl) ?_
  refine lv_iload X.ex X.co dL_deed_4 (lv_at hl 4 rfl) ?_
  refine lv_iload X.ex X.co dL_deed_6 (lv_at hl 5 rfl) ?_
  refine w_S X ce_L_plain mn_22 (c_L_plain_9 l hst G A hAg b σ hI hJ h0 p0 p1 p2 p3) g0 F (by decide) rfl hl.1 rfl (Nat.le_of_ble_eq_true rfl) dL_deed_8 (by omega) (by omega) hS (fun _ h => h) (fun E ce q9 H locs hB hz hk9 hS hc1 hc2 hc3 => ?_) (fun v0 H locs hB hz hk9 hS => ?_)
  · obtain ⟨k, hT, hk0, hCB⟩ := hB
    rcases k with _ | _ | _ | k
    · obtain rfl : "java/lang/IndexOutOfBoundsException" = E := Option.some.inj hT
      refine vx_catch X.ow [] ⟨0, 11, 12, 64⟩ [⟨0, 11, 18, 66⟩, ⟨0, 11, 24, 68⟩, ⟨0, 11, 30, 70⟩, ⟨0, 11, 36, 72⟩] htab (fun z h => absurd h List.not_mem_nil) rfl (by decide) (X.ts _ mn_17) (cd_at g0 (tb_2 (List.mem_of_getElem? (i := 230) (by decide +kernel)))) hc1 hc2 hc3 ?_
      refine lv_astore (lv' := [(6, .ref q9), (0, .ref b), (1, .int 9), (2, .int p0), (3, .int p1), (4, .int p2), (5, .int p3)]) X.ex X.co dL_deed_12 hl (by decide) rfl (fun ls hl => ?_)
      refine lv_sipush (v := (-2001)) X.ex X.co dL_deed_14 (by decide) ?_
      exact c_i X hS rfl rfl ⟨(by rw [lC, if_neg (by rw [hk0]; omega), hk0]; rfl), CB_0 0 hCB⟩ (by omega) (by omega) dL_deed_17
    · obtain rfl : "java/lang/IllegalArgumentException" = E := Option.some.inj hT
      refine vx_catch X.ow [⟨0, 11, 12, 64⟩] ⟨0, 11, 18, 66⟩ [⟨0, 11, 24, 68⟩, ⟨0, 11, 30, 70⟩, ⟨0, 11, 36, 72⟩] htab (List.forall_mem_cons.mpr ⟨Or.inr ⟨by decide, "java/lang/IndexOutOfBoundsException", X.ts _ mn_17, nc_at g0 (List.mem_of_getElem? (i := 10) rfl)⟩, (fun z h => absurd h List.not_mem_nil)⟩) rfl (by decide) (X.ts _ mn_18) (cd_at g0 (tb_2 (List.mem_of_getElem? (i := 115) (by decide +kernel)))) hc1 hc2 hc3 ?_
      refine lv_astore (lv' := [(6, .ref q9), (0, .ref b), (1, .int 9), (2, .int p0), (3, .int p1), (4, .int p2), (5, .int p3)]) X.ex X.co dL_deed_18 hl (by decide) rfl (fun ls hl => ?_)
      refine lv_sipush (v := (-2002)) X.ex X.co dL_deed_20 (by decide) ?_
      exact c_i X hS rfl rfl ⟨(by rw [lC, if_neg (by rw [hk0]; omega), hk0]; rfl), CB_0 0 hCB⟩ (by omega) (by omega) dL_deed_23
    · obtain rfl : "java/lang/IllegalStateException" = E := Option.some.inj hT
      refine vx_catch X.ow [⟨0, 11, 12, 64⟩, ⟨0, 11, 18, 66⟩] ⟨0, 11, 24, 68⟩ [⟨0, 11, 30, 70⟩, ⟨0, 11, 36, 72⟩] htab (List.forall_mem_cons.mpr ⟨Or.inr ⟨by decide, "java/lang/IndexOutOfBoundsException", X.ts _ mn_17, nc_at g0 (List.mem_of_getElem? (i := 11) rfl)⟩, (List.forall_mem_cons.mpr ⟨Or.inr ⟨by decide, "java/lang/IllegalArgumentException", X.ts _ mn_18, nc_at g0 (List.mem_of_getElem? (i := 0) rfl)⟩, (fun z h => absurd h List.not_mem_nil)⟩)⟩) rfl (by decide) (X.ts _ mn_19) (cd_at g0 (tb_2 (List.mem_of_getElem? (i := 131) (by decide +kernel)))) hc1 hc2 hc3 ?_
      refine lv_astore (lv' := [(6, .ref q9), (0, .ref b), (1, .int 9), (2, .int p0), (3, .int p1), (4, .int p2), (5, .int p3)]) X.ex X.co dL_deed_24 hl (by decide) rfl (fun ls hl => ?_)
      refine lv_sipush (v := (-2003)) X.ex X.co dL_deed_26 (by decide) ?_
      exact c_i X hS rfl rfl ⟨(by rw [lC, if_neg (by rw [hk0]; omega), hk0]; rfl), CB_0 0 hCB⟩ (by omega) (by omega) dL_deed_29
    · exact absurd hT (by simp)
  · obtain ⟨rfl, hk0, hCB⟩ := hB
    exact c_i X hS rfl rfl ⟨(by rw [lC, if_pos hk0]), CB_0 0 hCB⟩ (by omega) (by omega) dL_deed_11
set_option maxHeartbeats 4000000 in
set_option maxRecDepth 100000 in
theorem c_L_deed_10 (l : Launch) (hst : l.stackTraces = false) (G : GT) (A : Nat → Prop) (hAg : ∀ q, A q → gA G q) (b : Nat) (σ : Sg) (hI : MI σ) (hJ : MJ σ) (h0 : σ.1 0 0 = 0) (p0 p1 p2 p3 : Int32) : Met l yL_deed (wofW yL_deed cL_deed 7 (some .int) [(0, 11, 12, 64), (0, 11, 18, 66), (0, 11, 24, 68), (0, 11, 30, 70), (0, 11, 36, 72)]) (RM 10 2 310) (cPre [.ref b, .int 10, .int p0, .int p1, .int p2, .int p3] G (fun H => CB G A b σ H ∧ ∀ q, H.size ≤ q → A q)) (cQ (lB G A b [(-2002), (-2003)] (fAddCourse σ p0 p1)) A) 2 310 A := by
  refine mk_w (by decide) (Nat.le_of_ble_eq_true rfl) ?_
  intro p e s m args below meth c X ls hl g0 F htab
  have hS : va_S A s.heap s.heap [] := va_S.rf
  have hl : lv_has ls 7 [(0, .ref b), (1, .int 10), (2, .int p0), (3, .int p1), (4, .int p2), (5, .int p3)] := hl
  show W p l e (RM 10 2 310) s m args below meth c s.heap [] 0 0 (MQ below (cQ (lB G A b [(-2002), (-2003)] (fAddCourse σ p0 p1)) A) args s 2 310 A) (F0 m 0 ls [])
  refine lv_aload_n X.ex X.co dL_deed_0 rfl (lv_at hl 0 rfl) ?_
  refine lv_iload_n X.ex X.co dL_deed_1 rfl (lv_at hl 1 rfl) ?_
  refine lv_iload_n X.ex X.co dL_deed_2 rfl (lv_at hl 2 rfl) ?_
  refine lv_iload_n X.ex X.co dL_deed_3 rfl (lv_at hl 3 rfl) ?_
  refine lv_iload X.ex X.co dL_deed_4 (lv_at hl 4 rfl) ?_
  refine lv_iload X.ex X.co dL_deed_6 (lv_at hl 5 rfl) ?_
  refine w_S X ce_L_plain mn_22 (c_L_plain_10 l hst G A hAg b σ hI hJ h0 p0 p1 p2 p3) g0 F (by decide) rfl hl.1 rfl (Nat.le_of_ble_eq_true rfl) dL_deed_8 (by omega) (by omega) hS (fun _ h => h) (fun E ce q9 H locs hB hz hk9 hS hc1 hc2 hc3 => ?_) (fun v0 H locs hB hz hk9 hS => ?_)
  · obtain ⟨k, hT, hk0, hCB⟩ := hB
    rcases k with _ | _ | k
    · obtain rfl : "java/lang/IllegalArgumentException" = E := Option.some.inj hT
      refine vx_catch X.ow [⟨0, 11, 12, 64⟩] ⟨0, 11, 18, 66⟩ [⟨0, 11, 24, 68⟩, ⟨0, 11, 30, 70⟩, ⟨0, 11, 36, 72⟩] htab (List.forall_mem_cons.mpr ⟨Or.inr ⟨by decide, "java/lang/IndexOutOfBoundsException", X.ts _ mn_17, nc_at g0 (List.mem_of_getElem? (i := 10) rfl)⟩, (fun z h => absurd h List.not_mem_nil)⟩) rfl (by decide) (X.ts _ mn_18) (cd_at g0 (tb_2 (List.mem_of_getElem? (i := 115) (by decide +kernel)))) hc1 hc2 hc3 ?_
      refine lv_astore (lv' := [(6, .ref q9), (0, .ref b), (1, .int 10), (2, .int p0), (3, .int p1), (4, .int p2), (5, .int p3)]) X.ex X.co dL_deed_18 hl (by decide) rfl (fun ls hl => ?_)
      refine lv_sipush (v := (-2002)) X.ex X.co dL_deed_20 (by decide) ?_
      exact c_i X hS rfl rfl ⟨(by rw [lC, if_neg (by rw [hk0]; omega), hk0]; rfl), CB_0 0 hCB⟩ (by omega) (by omega) dL_deed_23
    · obtain rfl : "java/lang/IllegalStateException" = E := Option.some.inj hT
      refine vx_catch X.ow [⟨0, 11, 12, 64⟩, ⟨0, 11, 18, 66⟩] ⟨0, 11, 24, 68⟩ [⟨0, 11, 30, 70⟩, ⟨0, 11, 36, 72⟩] htab (List.forall_mem_cons.mpr ⟨Or.inr ⟨by decide, "java/lang/IndexOutOfBoundsException", X.ts _ mn_17, nc_at g0 (List.mem_of_getElem? (i := 11) rfl)⟩, (List.forall_mem_cons.mpr ⟨Or.inr ⟨by decide, "java/lang/IllegalArgumentException", X.ts _ mn_18, nc_at g0 (List.mem_of_getElem? (i := 0) rfl)⟩, (fun z h => absurd h List.not_mem_nil)⟩)⟩) rfl (by decide) (X.ts _ mn_19) (cd_at g0 (tb_2 (List.mem_of_getElem? (i := 131) (by decide +kernel)))) hc1 hc2 hc3 ?_
      refine lv_astore (lv' := [(6, .ref q9), (0, .ref b), (1, .int 10), (2, .int p0), (3, .int p1), (4, .int p2), (5, .int p3)]) X.ex X.co dL_deed_24 hl (by decide) rfl (fun ls hl => ?_)
      refine lv_sipush (v := (-2003)) X.ex X.co dL_deed_26 (by decide) ?_
      exact c_i X hS rfl rfl ⟨(by rw [lC, if_neg (by rw [hk0]; omega), hk0]; rfl), CB_0 0 hCB⟩ (by omega) (by omega) dL_deed_29
    · exact absurd hT (by simp)
  · obtain ⟨rfl, hk0, hCB⟩ := hB
    exact c_i X hS rfl rfl ⟨(by rw [lC, if_pos hk0]), CB_0 0 hCB⟩ (by omega) (by omega) dL_deed_11
set_option maxHeartbeats 4000000 in
set_option maxRecDepth 100000 in
theorem c_L_deed_11 (l : Launch) (hst : l.stackTraces = false) (G : GT) (A : Nat → Prop) (hAg : ∀ q, A q → gA G q) (b : Nat) (σ : Sg) (hI : MI σ) (hJ : MJ σ) (h0 : σ.1 0 0 = 0) (p0 p1 p2 p3 : Int32) : Met l yL_deed (wofW yL_deed cL_deed 7 (some .int) [(0, 11, 12, 64), (0, 11, 18, 66), (0, 11, 24, 68), (0, 11, 30, 70), (0, 11, 36, 72)]) (RM 10 4 330) (cPre [.ref b, .int 11, .int p0, .int p1, .int p2, .int p3] G (fun H => CB G A b σ H ∧ ∀ q, H.size ≤ q → A q)) (cQ (lB G A b [(-2001), (-2003), (-2004)] (fIssue σ p0 p1)) A) 4 330 A := by
  refine mk_w (by decide) (Nat.le_of_ble_eq_true rfl) ?_
  intro p e s m args below meth c X ls hl g0 F htab
  have hS : va_S A s.heap s.heap [] := va_S.rf
  have hl : lv_has ls 7 [(0, .ref b), (1, .int 11), (2, .int p0), (3, .int p1), (4, .int p2), (5, .int p3)] := hl
  show W p l e (RM 10 4 330) s m args below meth c s.heap [] 0 0 (MQ below (cQ (lB G A b [(-2001), (-2003), (-2004)] (fIssue σ p0 p1)) A) args s 4 330 A) (F0 m 0 ls [])
  refine lv_aload_n X.ex X.co dL_deed_0 rfl (lv_at hl 0 rfl) ?_
  refine lv_iload_n X.ex X.co dL_deed_1 rfl (lv_at hl 1 rfl) ?_
  refine lv_iload_n X.ex X.co dL_deed_2 rfl (lv_at hl 2 rfl) ?_
  refine lv_iload_n X.ex X.co dL_deed_3 rfl (lv_at hl 3 rfl) ?_
  refine lv_iload X.ex X.co dL_deed_4 (lv_at hl 4 rfl) ?_
  refine lv_iload X.ex X.co dL_deed_6 (lv_at hl 5 rfl) ?_
  refine w_S X ce_L_plain mn_22 (c_L_plain_11 l hst G A hAg b σ hI hJ h0 p0 p1 p2 p3) g0 F (by decide) rfl hl.1 rfl (Nat.le_of_ble_eq_true rfl) dL_deed_8 (by omega) (by omega) hS (fun _ h => h) (fun E ce q9 H locs hB hz hk9 hS hc1 hc2 hc3 => ?_) (fun v0 H locs hB hz hk9 hS => ?_)
  · obtain ⟨k, hT, hk0, hCB⟩ := hB
    rcases k with _ | _ | _ | k
    · obtain rfl : "java/lang/IndexOutOfBoundsException" = E := Option.some.inj hT
      refine vx_catch X.ow [] ⟨0, 11, 12, 64⟩ [⟨0, 11, 18, 66⟩, ⟨0, 11, 24, 68⟩, ⟨0, 11, 30, 70⟩, ⟨0, 11, 36, 72⟩] htab (fun z h => absurd h List.not_mem_nil) rfl (by decide) (X.ts _ mn_17) (cd_at g0 (tb_2 (List.mem_of_getElem? (i := 230) (by decide +kernel)))) hc1 hc2 hc3 ?_
      refine lv_astore (lv' := [(6, .ref q9), (0, .ref b), (1, .int 11), (2, .int p0), (3, .int p1), (4, .int p2), (5, .int p3)]) X.ex X.co dL_deed_12 hl (by decide) rfl (fun ls hl => ?_)
      refine lv_sipush (v := (-2001)) X.ex X.co dL_deed_14 (by decide) ?_
      exact c_i X hS rfl rfl ⟨(by rw [lC, if_neg (by rw [hk0]; omega), hk0]; rfl), CB_0 0 hCB⟩ (by omega) (by omega) dL_deed_17
    · obtain rfl : "java/lang/IllegalStateException" = E := Option.some.inj hT
      refine vx_catch X.ow [⟨0, 11, 12, 64⟩, ⟨0, 11, 18, 66⟩] ⟨0, 11, 24, 68⟩ [⟨0, 11, 30, 70⟩, ⟨0, 11, 36, 72⟩] htab (List.forall_mem_cons.mpr ⟨Or.inr ⟨by decide, "java/lang/IndexOutOfBoundsException", X.ts _ mn_17, nc_at g0 (List.mem_of_getElem? (i := 11) rfl)⟩, (List.forall_mem_cons.mpr ⟨Or.inr ⟨by decide, "java/lang/IllegalArgumentException", X.ts _ mn_18, nc_at g0 (List.mem_of_getElem? (i := 0) rfl)⟩, (fun z h => absurd h List.not_mem_nil)⟩)⟩) rfl (by decide) (X.ts _ mn_19) (cd_at g0 (tb_2 (List.mem_of_getElem? (i := 131) (by decide +kernel)))) hc1 hc2 hc3 ?_
      refine lv_astore (lv' := [(6, .ref q9), (0, .ref b), (1, .int 11), (2, .int p0), (3, .int p1), (4, .int p2), (5, .int p3)]) X.ex X.co dL_deed_24 hl (by decide) rfl (fun ls hl => ?_)
      refine lv_sipush (v := (-2003)) X.ex X.co dL_deed_26 (by decide) ?_
      exact c_i X hS rfl rfl ⟨(by rw [lC, if_neg (by rw [hk0]; omega), hk0]; rfl), CB_0 0 hCB⟩ (by omega) (by omega) dL_deed_29
    · obtain rfl : "java/lang/UnsupportedOperationException" = E := Option.some.inj hT
      refine vx_catch X.ow [⟨0, 11, 12, 64⟩, ⟨0, 11, 18, 66⟩, ⟨0, 11, 24, 68⟩] ⟨0, 11, 30, 70⟩ [⟨0, 11, 36, 72⟩] htab (List.forall_mem_cons.mpr ⟨Or.inr ⟨by decide, "java/lang/IndexOutOfBoundsException", X.ts _ mn_17, nc_at g0 (List.mem_of_getElem? (i := 12) rfl)⟩, (List.forall_mem_cons.mpr ⟨Or.inr ⟨by decide, "java/lang/IllegalArgumentException", X.ts _ mn_18, nc_at g0 (List.mem_of_getElem? (i := 2) rfl)⟩, (List.forall_mem_cons.mpr ⟨Or.inr ⟨by decide, "java/lang/IllegalStateException", X.ts _ mn_19, nc_at g0 (List.mem_of_getElem? (i := 7) rfl)⟩, (fun z h => absurd h List.not_mem_nil)⟩)⟩)⟩) rfl (by decide) (X.ts _ mn_20) (cd_at g0 (tb_3 (List.mem_of_getElem? (i := 173) (by decide +kernel)))) hc1 hc2 hc3 ?_
      refine lv_astore (lv' := [(6, .ref q9), (0, .ref b), (1, .int 11), (2, .int p0), (3, .int p1), (4, .int p2), (5, .int p3)]) X.ex X.co dL_deed_30 hl (by decide) rfl (fun ls hl => ?_)
      refine lv_sipush (v := (-2004)) X.ex X.co dL_deed_32 (by decide) ?_
      exact c_i X hS rfl rfl ⟨(by rw [lC, if_neg (by rw [hk0]; omega), hk0]; rfl), CB_0 0 hCB⟩ (by omega) (by omega) dL_deed_35
    · exact absurd hT (by simp)
  · obtain ⟨rfl, hk0, hCB⟩ := hB
    exact c_i X hS rfl rfl ⟨(by rw [lC, if_pos hk0]), CB_0 0 hCB⟩ (by omega) (by omega) dL_deed_11
set_option maxHeartbeats 4000000 in
set_option maxRecDepth 100000 in
theorem c_L_deed_12 (l : Launch) (hst : l.stackTraces = false) (G : GT) (A : Nat → Prop) (hAg : ∀ q, A q → gA G q) (b : Nat) (σ : Sg) (hI : MI σ) (hJ : MJ σ) (h0 : σ.1 0 0 = 0) (p0 p1 p2 p3 : Int32) : Met l yL_deed (wofW yL_deed cL_deed 7 (some .int) [(0, 11, 12, 64), (0, 11, 18, 66), (0, 11, 24, 68), (0, 11, 30, 70), (0, 11, 36, 72)]) (RM 5 1 6) (cPre [.ref b, .int 12, .int p0, .int p1, .int p2, .int p3] G (fun H => CB G A b σ H ∧ ∀ q, H.size ≤ q → A q)) (cQ (lB G A b [(-2002), (-2003)] (fPass σ p0)) A) 1 6 A := by
  refine mk_w (by decide) (Nat.le_of_ble_eq_true rfl) ?_
  intro p e s m args below meth c X ls hl g0 F htab
  have hS : va_S A s.heap s.heap [] := va_S.rf
  have hl : lv_has ls 7 [(0, .ref b), (1, .int 12), (2, .int p0), (3, .int p1), (4, .int p2), (5, .int p3)] := hl
  show W p l e (RM 5 1 6) s m args below meth c s.heap [] 0 0 (MQ below (cQ (lB G A b [(-2002), (-2003)] (fPass σ p0)) A) args s 1 6 A) (F0 m 0 ls [])
  refine lv_aload_n X.ex X.co dL_deed_0 rfl (lv_at hl 0 rfl) ?_
  refine lv_iload_n X.ex X.co dL_deed_1 rfl (lv_at hl 1 rfl) ?_
  refine lv_iload_n X.ex X.co dL_deed_2 rfl (lv_at hl 2 rfl) ?_
  refine lv_iload_n X.ex X.co dL_deed_3 rfl (lv_at hl 3 rfl) ?_
  refine lv_iload X.ex X.co dL_deed_4 (lv_at hl 4 rfl) ?_
  refine lv_iload X.ex X.co dL_deed_6 (lv_at hl 5 rfl) ?_
  refine w_S X ce_L_plain mn_22 (c_L_plain_12 l hst G A hAg b σ hI hJ h0 p0 p1 p2 p3) g0 F (by decide) rfl hl.1 rfl (Nat.le_of_ble_eq_true rfl) dL_deed_8 (by omega) (by omega) hS (fun _ h => h) (fun E ce q9 H locs hB hz hk9 hS hc1 hc2 hc3 => ?_) (fun v0 H locs hB hz hk9 hS => ?_)
  · obtain ⟨k, hT, hk0, hCB⟩ := hB
    rcases k with _ | _ | k
    · obtain rfl : "java/lang/IllegalArgumentException" = E := Option.some.inj hT
      refine vx_catch X.ow [⟨0, 11, 12, 64⟩] ⟨0, 11, 18, 66⟩ [⟨0, 11, 24, 68⟩, ⟨0, 11, 30, 70⟩, ⟨0, 11, 36, 72⟩] htab (List.forall_mem_cons.mpr ⟨Or.inr ⟨by decide, "java/lang/IndexOutOfBoundsException", X.ts _ mn_17, nc_at g0 (List.mem_of_getElem? (i := 10) rfl)⟩, (fun z h => absurd h List.not_mem_nil)⟩) rfl (by decide) (X.ts _ mn_18) (cd_at g0 (tb_2 (List.mem_of_getElem? (i := 115) (by decide +kernel)))) hc1 hc2 hc3 ?_
      refine lv_astore (lv' := [(6, .ref q9), (0, .ref b), (1, .int 12), (2, .int p0), (3, .int p1), (4, .int p2), (5, .int p3)]) X.ex X.co dL_deed_18 hl (by decide) rfl (fun ls hl => ?_)
      refine lv_sipush (v := (-2002)) X.ex X.co dL_deed_20 (by decide) ?_
      exact c_i X hS rfl rfl ⟨(by rw [lC, if_neg (by rw [hk0]; omega), hk0]; rfl), CB_0 0 hCB⟩ (by omega) (by omega) dL_deed_23
    · obtain rfl : "java/lang/IllegalStateException" = E := Option.some.inj hT
      refine vx_catch X.ow [⟨0, 11, 12, 64⟩, ⟨0, 11, 18, 66⟩] ⟨0, 11, 24, 68⟩ [⟨0, 11, 30, 70⟩, ⟨0, 11, 36, 72⟩] htab (List.forall_mem_cons.mpr ⟨Or.inr ⟨by decide, "java/lang/IndexOutOfBoundsException", X.ts _ mn_17, nc_at g0 (List.mem_of_getElem? (i := 11) rfl)⟩, (List.forall_mem_cons.mpr ⟨Or.inr ⟨by decide, "java/lang/IllegalArgumentException", X.ts _ mn_18, nc_at g0 (List.mem_of_getElem? (i := 0) rfl)⟩, (fun z h => absurd h List.not_mem_nil)⟩)⟩) rfl (by decide) (X.ts _ mn_19) (cd_at g0 (tb_2 (List.mem_of_getElem? (i := 131) (by decide +kernel)))) hc1 hc2 hc3 ?_
      refine lv_astore (lv' := [(6, .ref q9), (0, .ref b), (1, .int 12), (2, .int p0), (3, .int p1), (4, .int p2), (5, .int p3)]) X.ex X.co dL_deed_24 hl (by decide) rfl (fun ls hl => ?_)
      refine lv_sipush (v := (-2003)) X.ex X.co dL_deed_26 (by decide) ?_
      exact c_i X hS rfl rfl ⟨(by rw [lC, if_neg (by rw [hk0]; omega), hk0]; rfl), CB_0 0 hCB⟩ (by omega) (by omega) dL_deed_29
    · exact absurd hT (by simp)
  · obtain ⟨rfl, hk0, hCB⟩ := hB
    exact c_i X hS rfl rfl ⟨(by rw [lC, if_pos hk0]), CB_0 0 hCB⟩ (by omega) (by omega) dL_deed_11
