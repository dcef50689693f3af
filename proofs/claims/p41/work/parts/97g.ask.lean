set_option maxHeartbeats 4000000 in
set_option maxRecDepth 100000 in
theorem c_L_ask_0 (l : Launch) (hst : l.stackTraces = false) (G : GT) (A : Nat → Prop) (hAg : ∀ q, A q → gA G q) (b : Nat) (σ : Sg) (hI : MI σ) (hJ : MJ σ) (h0 : σ.1 0 0 = 0) (p0 p1 : Int32) : Met l yL_ask (wofW yL_ask cL_ask 5 (some .int) [(0, 7, 8, 64), (0, 7, 14, 72)]) (RM 6 1 6) (cPre [.ref b, .int 0, .int p0, .int p1] G (fun H => CB G A b σ H ∧ ∀ q, H.size ≤ q → A q)) (cQ (lB G A b [(-2001)] (fVersionOf σ p0)) A) 1 6 A := by
  refine mk_w (by decide) (Nat.le_of_ble_eq_true rfl) ?_
  intro p e s m args below meth c X ls hl g0 F htab
  have hS : va_S A s.heap s.heap [] := va_S.rf
  have hl : lv_has ls 5 [(0, .ref b), (1, .int 0), (2, .int p0), (3, .int p1)] := hl
  show W p l e (RM 6 1 6) s m args below meth c s.heap [] 0 0 (MQ below (cQ (lB G A b [(-2001)] (fVersionOf σ p0)) A) args s 1 6 A) (F0 m 0 ls [])
  refine lv_aload_n X.ex X.co dL_ask_0 rfl (lv_at hl 0 rfl) ?_
  refine lv_iload_n X.ex X.co dL_ask_1 rfl (lv_at hl 1 rfl) ?_
  refine lv_iload_n X.ex X.co dL_ask_2 rfl (lv_at hl 2 rfl) ?_
  refine lv_iload_n X.ex X.co dL_ask_3 rfl (lv_at hl 3 rfl) ?_
  refine w_S X ce_L_asked mn_41 (c_L_asked_0 l hst G A hAg b σ hI hJ h0 p0 p1) g0 F (by decide) rfl hl.1 rfl (Nat.le_of_ble_eq_true rfl) dL_ask_4 (by omega) (by omega) hS (fun _ h => h) (fun E ce q9 H locs hB hz hk9 hS hc1 hc2 hc3 => ?_) (fun v0 H locs hB hz hk9 hS => ?_)
  · obtain ⟨k, hT, hk0, hCB⟩ := hB
    rcases k with _ | k
    · obtain rfl : "java/lang/IndexOutOfBoundsException" = E := Option.some.inj hT
      refine vx_catch X.ow [] ⟨0, 7, 8, 64⟩ [⟨0, 7, 14, 72⟩] htab (fun z h => absurd h List.not_mem_nil) rfl (by decide) (X.ts _ mn_17) (cd_at g0 (tb_2 (List.mem_of_getElem? (i := 230) (by decide +kernel)))) hc1 hc2 hc3 ?_
      refine lv_astore (lv' := [(4, .ref q9), (0, .ref b), (1, .int 0), (2, .int p0), (3, .int p1)]) X.ex X.co dL_ask_8 hl (by decide) rfl (fun ls hl => ?_)
      refine lv_sipush (v := (-2001)) X.ex X.co dL_ask_10 (by decide) ?_
      exact c_i X hS rfl rfl ⟨(by rw [lC, if_neg (by rw [hk0]; omega), hk0]; rfl), CB_0 0 hCB⟩ (by omega) (by omega) dL_ask_13
    · exact absurd hT (by simp)
  · obtain ⟨rfl, hk0, hCB⟩ := hB
    exact c_i X hS rfl rfl ⟨(by rw [lC, if_pos hk0]), CB_0 0 hCB⟩ (by omega) (by omega) dL_ask_7
set_option maxHeartbeats 4000000 in
set_option maxRecDepth 100000 in
theorem c_L_ask_1 (l : Launch) (hst : l.stackTraces = false) (G : GT) (A : Nat → Prop) (hAg : ∀ q, A q → gA G q) (b : Nat) (σ : Sg) (hI : MI σ) (hJ : MJ σ) (h0 : σ.1 0 0 = 0) (p0 p1 : Int32) : Met l yL_ask (wofW yL_ask cL_ask 5 (some .int) [(0, 7, 8, 64), (0, 7, 14, 72)]) (RM 10 1 6) (cPre [.ref b, .int 1, .int p0, .int p1] G (fun H => CB G A b σ H ∧ ∀ q, H.size ≤ q → A q)) (cQ (lB G A b [(-2001)] (fOpenLessons σ p0)) A) 1 6 A := by
  refine mk_w (by decide) (Nat.le_of_ble_eq_true rfl) ?_
  intro p e s m args below meth c X ls hl g0 F htab
  have hS : va_S A s.heap s.heap [] := va_S.rf
  have hl : lv_has ls 5 [(0, .ref b), (1, .int 1), (2, .int p0), (3, .int p1)] := hl
  show W p l e (RM 10 1 6) s m args below meth c s.heap [] 0 0 (MQ below (cQ (lB G A b [(-2001)] (fOpenLessons σ p0)) A) args s 1 6 A) (F0 m 0 ls [])
  refine lv_aload_n X.ex X.co dL_ask_0 rfl (lv_at hl 0 rfl) ?_
  refine lv_iload_n X.ex X.co dL_ask_1 rfl (lv_at hl 1 rfl) ?_
  refine lv_iload_n X.ex X.co dL_ask_2 rfl (lv_at hl 2 rfl) ?_
  refine lv_iload_n X.ex X.co dL_ask_3 rfl (lv_at hl 3 rfl) ?_
  refine w_S X ce_L_asked mn_41 (c_L_asked_1 l hst G A hAg b σ hI hJ h0 p0 p1) g0 F (by decide) rfl hl.1 rfl (Nat.le_of_ble_eq_true rfl) dL_ask_4 (by omega) (by omega) hS (fun _ h => h) (fun E ce q9 H locs hB hz hk9 hS hc1 hc2 hc3 => ?_) (fun v0 H locs hB hz hk9 hS => ?_)
  · obtain ⟨k, hT, hk0, hCB⟩ := hB
    rcases k with _ | k
    · obtain rfl : "java/lang/IndexOutOfBoundsException" = E := Option.some.inj hT
      refine vx_catch X.ow [] ⟨0, 7, 8, 64⟩ [⟨0, 7, 14, 72⟩] htab (fun z h => absurd h List.not_mem_nil) rfl (by decide) (X.ts _ mn_17) (cd_at g0 (tb_2 (List.mem_of_getElem? (i := 230) (by decide +kernel)))) hc1 hc2 hc3 ?_
      refine lv_astore (lv' := [(4, .ref q9), (0, .ref b), (1, .int 1), (2, .int p0), (3, .int p1)]) X.ex X.co dL_ask_8 hl (by decide) rfl (fun ls hl => ?_)
      refine lv_sipush (v := (-2001)) X.ex X.co dL_ask_10 (by decide) ?_
      exact c_i X hS rfl rfl ⟨(by rw [lC, if_neg (by rw [hk0]; omega), hk0]; rfl), CB_0 0 hCB⟩ (by omega) (by omega) dL_ask_13
    · exact absurd hT (by simp)
  · obtain ⟨rfl, hk0, hCB⟩ := hB
    exact c_i X hS rfl rfl ⟨(by rw [lC, if_pos hk0]), CB_0 0 hCB⟩ (by omega) (by omega) dL_ask_7
set_option maxHeartbeats 4000000 in
set_option maxRecDepth 100000 in
theorem c_L_ask_2 (l : Launch) (hst : l.stackTraces = false) (G : GT) (A : Nat → Prop) (hAg : ∀ q, A q → gA G q) (b : Nat) (σ : Sg) (hI : MI σ) (hJ : MJ σ) (h0 : σ.1 0 0 = 0) (p0 p1 : Int32) : Met l yL_ask (wofW yL_ask cL_ask 5 (some .int) [(0, 7, 8, 64), (0, 7, 14, 72)]) (RM 10 1 6) (cPre [.ref b, .int 2, .int p0, .int p1] G (fun H => CB G A b σ H ∧ ∀ q, H.size ≤ q → A q)) (cQ (lB G A b [(-2001)] (fReason σ p0 p1)) A) 1 6 A := by
  refine mk_w (by decide) (Nat.le_of_ble_eq_true rfl) ?_
  intro p e s m args below meth c X ls hl g0 F htab
  have hS : va_S A s.heap s.heap [] := va_S.rf
  have hl : lv_has ls 5 [(0, .ref b), (1, .int 2), (2, .int p0), (3, .int p1)] := hl
  show W p l e (RM 10 1 6) s m args below meth c s.heap [] 0 0 (MQ below (cQ (lB G A b [(-2001)] (fReason σ p0 p1)) A) args s 1 6 A) (F0 m 0 ls [])
  refine lv_aload_n X.ex X.co dL_ask_0 rfl (lv_at hl 0 rfl) ?_
  refine lv_iload_n X.ex X.co dL_ask_1 rfl (lv_at hl 1 rfl) ?_
  refine lv_iload_n X.ex X.co dL_ask_2 rfl (lv_at hl 2 rfl) ?_
  refine lv_iload_n X.ex X.co dL_ask_3 rfl (lv_at hl 3 rfl) ?_
  refine w_S X ce_L_asked mn_41 (c_L_asked_2 l hst G A hAg b σ hI hJ h0 p0 p1) g0 F (by decide) rfl hl.1 rfl (Nat.le_of_ble_eq_true rfl) dL_ask_4 (by omega) (by omega) hS (fun _ h => h) (fun E ce q9 H locs hB hz hk9 hS hc1 hc2 hc3 => ?_) (fun v0 H locs hB hz hk9 hS => ?_)
  · obtain ⟨k, hT, hk0, hCB⟩ := hB
    rcases k with _ | k
    · obtain rfl : "java/lang/IndexOutOfBoundsException" = E := Option.some.inj hT
      refine vx_catch X.ow [] ⟨0, 7, 8, 64⟩ [⟨0, 7, 14, 72⟩] htab (fun z h => absurd h List.not_mem_nil) rfl (by decide) (X.ts _ mn_17) (cd_at g0 (tb_2 (List.mem_of_getElem? (i := 230) (by decide +kernel)))) hc1 hc2 hc3 ?_
      refine lv_astore (lv' := [(4, .ref q9), (0, .ref b), (1, .int 2), (2, .int p0), (3, .int p1)]) X.ex X.co dL_ask_8 hl (by decide) rfl (fun ls hl => ?_)
      refine lv_sipush (v := (-2001)) X.ex X.co dL_ask_10 (by decide) ?_
      exact c_i X hS rfl rfl ⟨(by rw [lC, if_neg (by rw [hk0]; omega), hk0]; rfl), CB_0 0 hCB⟩ (by omega) (by omega) dL_ask_13
    · exact absurd hT (by simp)
  · obtain ⟨rfl, hk0, hCB⟩ := hB
    exact c_i X hS rfl rfl ⟨(by rw [lC, if_pos hk0]), CB_0 0 hCB⟩ (by omega) (by omega) dL_ask_7
set_option maxHeartbeats 4000000 in
set_option maxRecDepth 100000 in
theorem c_L_ask_3 (l : Launch) (hst : l.stackTraces = false) (G : GT) (A : Nat → Prop) (hAg : ∀ q, A q → gA G q) (b : Nat) (σ : Sg) (hI : MI σ) (hJ : MJ σ) (h0 : σ.1 0 0 = 0) (p0 p1 : Int32) : Met l yL_ask (wofW yL_ask cL_ask 5 (some .int) [(0, 7, 8, 64), (0, 7, 14, 72)]) (RM 6 1 6) (cPre [.ref b, .int 3, .int p0, .int p1] G (fun H => CB G A b σ H ∧ ∀ q, H.size ≤ q → A q)) (cQ (lB G A b [(-2001)] (fGradeOf σ p0)) A) 1 6 A := by
  refine mk_w (by decide) (Nat.le_of_ble_eq_true rfl) ?_
  intro p e s m args below meth c X ls hl g0 F htab
  have hS : va_S A s.heap s.heap [] := va_S.rf
  have hl : lv_has ls 5 [(0, .ref b), (1, .int 3), (2, .int p0), (3, .int p1)] := hl
  show W p l e (RM 6 1 6) s m args below meth c s.heap [] 0 0 (MQ below (cQ (lB G A b [(-2001)] (fGradeOf σ p0)) A) args s 1 6 A) (F0 m 0 ls [])
  refine lv_aload_n X.ex X.co dL_ask_0 rfl (lv_at hl 0 rfl) ?_
  refine lv_iload_n X.ex X.co dL_ask_1 rfl (lv_at hl 1 rfl) ?_
  refine lv_iload_n X.ex X.co dL_ask_2 rfl (lv_at hl 2 rfl) ?_
  refine lv_iload_n X.ex X.co dL_ask_3 rfl (lv_at hl 3 rfl) ?_
  refine w_S X ce_L_asked mn_41 (c_L_asked_3 l hst G A hAg b σ hI hJ h0 p0 p1) g0 F (by decide) rfl hl.1 rfl (Nat.le_of_ble_eq_true rfl) dL_ask_4 (by omega) (by omega) hS (fun _ h => h) (fun E ce q9 H locs hB hz hk9 hS hc1 hc2 hc3 => ?_) (fun v0 H locs hB hz hk9 hS => ?_)
  · obtain ⟨k, hT, hk0, hCB⟩ := hB
    rcases k with _ | k
    · obtain rfl : "java/lang/IndexOutOfBoundsException" = E := Option.some.inj hT
      refine vx_catch X.ow [] ⟨0, 7, 8, 64⟩ [⟨0, 7, 14, 72⟩] htab (fun z h => absurd h List.not_mem_nil) rfl (by decide) (X.ts _ mn_17) (cd_at g0 (tb_2 (List.mem_of_getElem? (i := 230) (by decide +kernel)))) hc1 hc2 hc3 ?_
      refine lv_astore (lv' := [(4, .ref q9), (0, .ref b), (1, .int 3), (2, .int p0), (3, .int p1)]) X.ex X.co dL_ask_8 hl (by decide) rfl (fun ls hl => ?_)
      refine lv_sipush (v := (-2001)) X.ex X.co dL_ask_10 (by decide) ?_
      exact c_i X hS rfl rfl ⟨(by rw [lC, if_neg (by rw [hk0]; omega), hk0]; rfl), CB_0 0 hCB⟩ (by omega) (by omega) dL_ask_13
    · exact absurd hT (by simp)
  · obtain ⟨rfl, hk0, hCB⟩ := hB
    exact c_i X hS rfl rfl ⟨(by rw [lC, if_pos hk0]), CB_0 0 hCB⟩ (by omega) (by omega) dL_ask_7
set_option maxHeartbeats 4000000 in
set_option maxRecDepth 100000 in
theorem c_L_ask_4 (l : Launch) (hst : l.stackTraces = false) (G : GT) (A : Nat → Prop) (hAg : ∀ q, A q → gA G q) (b : Nat) (σ : Sg) (hI : MI σ) (hJ : MJ σ) (h0 : σ.1 0 0 = 0) (p0 p1 : Int32) : Met l yL_ask (wofW yL_ask cL_ask 5 (some .int) [(0, 7, 8, 64), (0, 7, 14, 72)]) (RM 6 1 6) (cPre [.ref b, .int 4, .int p0, .int p1] G (fun H => CB G A b σ H ∧ ∀ q, H.size ≤ q → A q)) (cQ (lB G A b [(-2001)] (fGradeOf σ p0)) A) 1 6 A := by
  refine mk_w (by decide) (Nat.le_of_ble_eq_true rfl) ?_
  intro p e s m args below meth c X ls hl g0 F htab
  have hS : va_S A s.heap s.heap [] := va_S.rf
  have hl : lv_has ls 5 [(0, .ref b), (1, .int 4), (2, .int p0), (3, .int p1)] := hl
  show W p l e (RM 6 1 6) s m args below meth c s.heap [] 0 0 (MQ below (cQ (lB G A b [(-2001)] (fGradeOf σ p0)) A) args s 1 6 A) (F0 m 0 ls [])
  refine lv_aload_n X.ex X.co dL_ask_0 rfl (lv_at hl 0 rfl) ?_
  refine lv_iload_n X.ex X.co dL_ask_1 rfl (lv_at hl 1 rfl) ?_
  refine lv_iload_n X.ex X.co dL_ask_2 rfl (lv_at hl 2 rfl) ?_
  refine lv_iload_n X.ex X.co dL_ask_3 rfl (lv_at hl 3 rfl) ?_
  refine w_S X ce_L_asked mn_41 (c_L_asked_4 l hst G A hAg b σ hI hJ h0 p0 p1) g0 F (by decide) rfl hl.1 rfl (Nat.le_of_ble_eq_true rfl) dL_ask_4 (by omega) (by omega) hS (fun _ h => h) (fun E ce q9 H locs hB hz hk9 hS hc1 hc2 hc3 => ?_) (fun v0 H locs hB hz hk9 hS => ?_)
  · obtain ⟨k, hT, hk0, hCB⟩ := hB
    rcases k with _ | k
    · obtain rfl : "java/lang/IndexOutOfBoundsException" = E := Option.some.inj hT
      refine vx_catch X.ow [] ⟨0, 7, 8, 64⟩ [⟨0, 7, 14, 72⟩] htab (fun z h => absurd h List.not_mem_nil) rfl (by decide) (X.ts _ mn_17) (cd_at g0 (tb_2 (List.mem_of_getElem? (i := 230) (by decide +kernel)))) hc1 hc2 hc3 ?_
      refine lv_astore (lv' := [(4, .ref q9), (0, .ref b), (1, .int 4), (2, .int p0), (3, .int p1)]) X.ex X.co dL_ask_8 hl (by decide) rfl (fun ls hl => ?_)
      refine lv_sipush (v := (-2001)) X.ex X.co dL_ask_10 (by decide) ?_
      exact c_i X hS rfl rfl ⟨(by rw [lC, if_neg (by rw [hk0]; omega), hk0]; rfl), CB_0 0 hCB⟩ (by omega) (by omega) dL_ask_13
    · exact absurd hT (by simp)
  · obtain ⟨rfl, hk0, hCB⟩ := hB
    exact c_i X hS rfl rfl ⟨(by rw [lC, if_pos hk0]), CB_0 0 hCB⟩ (by omega) (by omega) dL_ask_7
set_option maxHeartbeats 4000000 in
set_option maxRecDepth 100000 in
theorem c_L_ask_5 (l : Launch) (hst : l.stackTraces = false) (G : GT) (A : Nat → Prop) (hAg : ∀ q, A q → gA G q) (b : Nat) (σ : Sg) (hI : MI σ) (hJ : MJ σ) (h0 : σ.1 0 0 = 0) (p0 p1 : Int32) : Met l yL_ask (wofW yL_ask cL_ask 5 (some .int) [(0, 7, 8, 64), (0, 7, 14, 72)]) (RM 6 1 6) (cPre [.ref b, .int 5, .int p0, .int p1] G (fun H => CB G A b σ H ∧ ∀ q, H.size ≤ q → A q)) (cQ (lB G A b [(-2001), (-2005)] (fCreditOf σ p0 p1)) A) 1 6 A := by
  refine mk_w (by decide) (Nat.le_of_ble_eq_true rfl) ?_
  intro p e s m args below meth c X ls hl g0 F htab
  have hS : va_S A s.heap s.heap [] := va_S.rf
  have hl : lv_has ls 5 [(0, .ref b), (1, .int 5), (2, .int p0), (3, .int p1)] := hl
  show W p l e (RM 6 1 6) s m args below meth c s.heap [] 0 0 (MQ below (cQ (lB G A b [(-2001), (-2005)] (fCreditOf σ p0 p1)) A) args s 1 6 A) (F0 m 0 ls [])
  refine lv_aload_n X.ex X.co dL_ask_0 rfl (lv_at hl 0 rfl) ?_
  refine lv_iload_n X.ex X.co dL_ask_1 rfl (lv_at hl 1 rfl) ?_
  refine lv_iload_n X.ex X.co dL_ask_2 rfl (lv_at hl 2 rfl) ?_
  refine lv_iload_n X.ex X.co dL_ask_3 rfl (lv_at hl 3 rfl) ?_
  refine w_S X ce_L_asked mn_41 (c_L_asked_5 l hst G A hAg b σ hI hJ h0 p0 p1) g0 F (by decide) rfl hl.1 rfl (Nat.le_of_ble_eq_true rfl) dL_ask_4 (by omega) (by omega) hS (fun _ h => h) (fun E ce q9 H locs hB hz hk9 hS hc1 hc2 hc3 => ?_) (fun v0 H locs hB hz hk9 hS => ?_)
  · obtain ⟨k, hT, hk0, hCB⟩ := hB
    rcases k with _ | _ | k
    · obtain rfl : "java/lang/IndexOutOfBoundsException" = E := Option.some.inj hT
      refine vx_catch X.ow [] ⟨0, 7, 8, 64⟩ [⟨0, 7, 14, 72⟩] htab (fun z h => absurd h List.not_mem_nil) rfl (by decide) (X.ts _ mn_17) (cd_at g0 (tb_2 (List.mem_of_getElem? (i := 230) (by decide +kernel)))) hc1 hc2 hc3 ?_
      refine lv_astore (lv' := [(4, .ref q9), (0, .ref b), (1, .int 5), (2, .int p0), (3, .int p1)]) X.ex X.co dL_ask_8 hl (by decide) rfl (fun ls hl => ?_)
      refine lv_sipush (v := (-2001)) X.ex X.co dL_ask_10 (by decide) ?_
      exact c_i X hS rfl rfl ⟨(by rw [lC, if_neg (by rw [hk0]; omega), hk0]; rfl), CB_0 0 hCB⟩ (by omega) (by omega) dL_ask_13
    · obtain rfl : "java/util/NoSuchElementException" = E := Option.some.inj hT
      refine vx_catch X.ow [⟨0, 7, 8, 64⟩] ⟨0, 7, 14, 72⟩ [] htab (List.forall_mem_cons.mpr ⟨Or.inr ⟨by decide, "java/lang/IndexOutOfBoundsException", X.ts _ mn_17, nc_at g0 (List.mem_of_getElem? (i := 13) rfl)⟩, (fun z h => absurd h List.not_mem_nil)⟩) rfl (by decide) (X.ts _ mn_21) (cd_at g0 (tb_4 (List.mem_of_getElem? (i := 14) (by decide +kernel)))) hc1 hc2 hc3 ?_
      refine lv_astore (lv' := [(4, .ref q9), (0, .ref b), (1, .int 5), (2, .int p0), (3, .int p1)]) X.ex X.co dL_ask_14 hl (by decide) rfl (fun ls hl => ?_)
      refine lv_sipush (v := (-2005)) X.ex X.co dL_ask_16 (by decide) ?_
      exact c_i X hS rfl rfl ⟨(by rw [lC, if_neg (by rw [hk0]; omega), hk0]; rfl), CB_0 0 hCB⟩ (by omega) (by omega) dL_ask_19
    · exact absurd hT (by simp)
  · obtain ⟨rfl, hk0, hCB⟩ := hB
    exact c_i X hS rfl rfl ⟨(by rw [lC, if_pos hk0]), CB_0 0 hCB⟩ (by omega) (by omega) dL_ask_7
set_option maxHeartbeats 4000000 in
set_option maxRecDepth 100000 in
theorem c_L_ask_6 (l : Launch) (hst : l.stackTraces = false) (G : GT) (A : Nat → Prop) (hAg : ∀ q, A q → gA G q) (b : Nat) (σ : Sg) (hI : MI σ) (hJ : MJ σ) (h0 : σ.1 0 0 = 0) (p0 p1 : Int32) : Met l yL_ask (wofW yL_ask cL_ask 5 (some .int) [(0, 7, 8, 64), (0, 7, 14, 72)]) (RM 6 1 6) (cPre [.ref b, .int 6, .int p0, .int p1] G (fun H => CB G A b σ H ∧ ∀ q, H.size ≤ q → A q)) (cQ (lB G A b [(-2001)] (fStudentOf σ p0)) A) 1 6 A := by
  refine mk_w (by decide) (Nat.le_of_ble_eq_true rfl) ?_
  intro p e s m args below meth c X ls hl g0 F htab
  have hS : va_S A s.heap s.heap [] := va_S.rf
  have hl : lv_has ls 5 [(0, .ref b), (1, .int 6), (2, .int p0), (3, .int p1)] := hl
  show W p l e (RM 6 1 6) s m args below meth c s.heap [] 0 0 (MQ below (cQ (lB G A b [(-2001)] (fStudentOf σ p0)) A) args s 1 6 A) (F0 m 0 ls [])
  refine lv_aload_n X.ex X.co dL_ask_0 rfl (lv_at hl 0 rfl) ?_
  refine lv_iload_n X.ex X.co dL_ask_1 rfl (lv_at hl 1 rfl) ?_
  refine lv_iload_n X.ex X.co dL_ask_2 rfl (lv_at hl 2 rfl) ?_
  refine lv_iload_n X.ex X.co dL_ask_3 rfl (lv_at hl 3 rfl) ?_
  refine w_S X ce_L_asked mn_41 (c_L_asked_6 l hst G A hAg b σ hI hJ h0 p0 p1) g0 F (by decide) rfl hl.1 rfl (Nat.le_of_ble_eq_true rfl) dL_ask_4 (by omega) (by omega) hS (fun _ h => h) (fun E ce q9 H locs hB hz hk9 hS hc1 hc2 hc3 => ?_) (fun v0 H locs hB hz hk9 hS => ?_)
  · obtain ⟨k, hT, hk0, hCB⟩ := hB
    rcases k with _ | k
    · obtain rfl : "java/lang/IndexOutOfBoundsException" = E := Option.some.inj hT
      refine vx_catch X.ow [] ⟨0, 7, 8, 64⟩ [⟨0, 7, 14, 72⟩] htab (fun z h => absurd h List.not_mem_nil) rfl (by decide) (X.ts _ mn_17) (cd_at g0 (tb_2 (List.mem_of_getElem? (i := 230) (by decide +kernel)))) hc1 hc2 hc3 ?_
      refine lv_astore (lv' := [(4, .ref q9), (0, .ref b), (1, .int 6), (2, .int p0), (3, .int p1)]) X.ex X.co dL_ask_8 hl (by decide) rfl (fun ls hl => ?_)
      refine lv_sipush (v := (-2001)) X.ex X.co dL_ask_10 (by decide) ?_
      exact c_i X hS rfl rfl ⟨(by rw [lC, if_neg (by rw [hk0]; omega), hk0]; rfl), CB_0 0 hCB⟩ (by omega) (by omega) dL_ask_13
    · exact absurd hT (by simp)
  · obtain ⟨rfl, hk0, hCB⟩ := hB
    exact c_i X hS rfl rfl ⟨(by rw [lC, if_pos hk0]), CB_0 0 hCB⟩ (by omega) (by omega) dL_ask_7
set_option maxHeartbeats 4000000 in
set_option maxRecDepth 100000 in
theorem c_L_ask_7 (l : Launch) (hst : l.stackTraces = false) (G : GT) (A : Nat → Prop) (hAg : ∀ q, A q → gA G q) (b : Nat) (σ : Sg) (hI : MI σ) (hJ : MJ σ) (h0 : σ.1 0 0 = 0) (p0 p1 : Int32) : Met l yL_ask (wofW yL_ask cL_ask 5 (some .int) [(0, 7, 8, 64), (0, 7, 14, 72)]) (RM 6 1 6) (cPre [.ref b, .int 7, .int p0, .int p1] G (fun H => CB G A b σ H ∧ ∀ q, H.size ≤ q → A q)) (cQ (lB G A b [(-2001)] (fDayOf σ p0)) A) 1 6 A := by
  refine mk_w (by decide) (Nat.le_of_ble_eq_true rfl) ?_
  intro p e s m args below meth c X ls hl g0 F htab
  have hS : va_S A s.heap s.heap [] := va_S.rf
  have hl : lv_has ls 5 [(0, .ref b), (1, .int 7), (2, .int p0), (3, .int p1)] := hl
  show W p l e (RM 6 1 6) s m args below meth c s.heap [] 0 0 (MQ below (cQ (lB G A b [(-2001)] (fDayOf σ p0)) A) args s 1 6 A) (F0 m 0 ls [])
  refine lv_aload_n X.ex X.co dL_ask_0 rfl (lv_at hl 0 rfl) ?_
  refine lv_iload_n X.ex X.co dL_ask_1 rfl (lv_at hl 1 rfl) ?_
  refine lv_iload_n X.ex X.co dL_ask_2 rfl (lv_at hl 2 rfl) ?_
  refine lv_iload_n X.ex X.co dL_ask_3 rfl (lv_at hl 3 rfl) ?_
  refine w_S X ce_L_asked mn_41 (c_L_asked_7 l hst G A hAg b σ hI hJ h0 p0 p1) g0 F (by decide) rfl hl.1 rfl (Nat.le_of_ble_eq_true rfl) dL_ask_4 (by omega) (by omega) hS (fun _ h => h) (fun E ce q9 H locs hB hz hk9 hS hc1 hc2 hc3 => ?_) (fun v0 H locs hB hz hk9 hS => ?_)
  · obtain ⟨k, hT, hk0, hCB⟩ := hB
    rcases k with _ | k
    · obtain rfl : "java/lang/IndexOutOfBoundsException" = E := Option.some.inj hT
      refine vx_catch X.ow [] ⟨0, 7, 8, 64⟩ [⟨0, 7, 14, 72⟩] htab (fun z h => absurd h List.not_mem_nil) rfl (by decide) (X.ts _ mn_17) (cd_at g0 (tb_2 (List.mem_of_getElem? (i := 230) (by decide +kernel)))) hc1 hc2 hc3 ?_
      refine lv_astore (lv' := [(4, .ref q9), (0, .ref b), (1, .int 7), (2, .int p0), (3, .int p1)]) X.ex X.co dL_ask_8 hl (by decide) rfl (fun ls hl => ?_)
      refine lv_sipush (v := (-2001)) X.ex X.co dL_ask_10 (by decide) ?_
      exact c_i X hS rfl rfl ⟨(by rw [lC, if_neg (by rw [hk0]; omega), hk0]; rfl), CB_0 0 hCB⟩ (by omega) (by omega) dL_ask_13
    · exact absurd hT (by simp)
  · obtain ⟨rfl, hk0, hCB⟩ := hB
    exact c_i X hS rfl rfl ⟨(by rw [lC, if_pos hk0]), CB_0 0 hCB⟩ (by omega) (by omega) dL_ask_7
set_option maxHeartbeats 4000000 in
set_option maxRecDepth 100000 in
theorem c_L_ask_8 (l : Launch) (hst : l.stackTraces = false) (G : GT) (A : Nat → Prop) (hAg : ∀ q, A q → gA G q) (b : Nat) (σ : Sg) (hI : MI σ) (hJ : MJ σ) (h0 : σ.1 0 0 = 0) (p0 p1 : Int32) : Met l yL_ask (wofW yL_ask cL_ask 5 (some .int) [(0, 7, 8, 64), (0, 7, 14, 72)]) (RM 7 2 9) (cPre [.ref b, .int 8, .int p0, .int p1] G (fun H => CB G A b σ H ∧ ∀ q, H.size ≤ q → A q)) (cQ (lB G A b [(-2001), (-2005)] (fBestAnswer σ p0 p1)) A) 2 9 A := by
  refine mk_w (by decide) (Nat.le_of_ble_eq_true rfl) ?_
  intro p e s m args below meth c X ls hl g0 F htab
  have hS : va_S A s.heap s.heap [] := va_S.rf
  have hl : lv_has ls 5 [(0, .ref b), (1, .int 8), (2, .int p0), (3, .int p1)] := hl
  show W p l e (RM 7 2 9) s m args below meth c s.heap [] 0 0 (MQ below (cQ (lB G A b [(-2001), (-2005)] (fBestAnswer σ p0 p1)) A) args s 2 9 A) (F0 m 0 ls [])
  refine lv_aload_n X.ex X.co dL_ask_0 rfl (lv_at hl 0 rfl) ?_
  refine lv_iload_n X.ex X.co dL_ask_1 rfl (lv_at hl 1 rfl) ?_
  refine lv_iload_n X.ex X.co dL_ask_2 rfl (lv_at hl 2 rfl) ?_
  refine lv_iload_n X.ex X.co dL_ask_3 rfl (lv_at hl 3 rfl) ?_
  refine w_S X ce_L_asked mn_41 (c_L_asked_8 l hst G A hAg b σ hI hJ h0 p0 p1) g0 F (by decide) rfl hl.1 rfl (Nat.le_of_ble_eq_true rfl) dL_ask_4 (by omega) (by omega) hS (fun _ h => h) (fun E ce q9 H locs hB hz hk9 hS hc1 hc2 hc3 => ?_) (fun v0 H locs hB hz hk9 hS => ?_)
  · obtain ⟨k, hT, hk0, hCB⟩ := hB
    rcases k with _ | _ | k
    · obtain rfl : "java/lang/IndexOutOfBoundsException" = E := Option.some.inj hT
      refine vx_catch X.ow [] ⟨0, 7, 8, 64⟩ [⟨0, 7, 14, 72⟩] htab (fun z h => absurd h List.not_mem_nil) rfl (by decide) (X.ts _ mn_17) (cd_at g0 (tb_2 (List.mem_of_getElem? (i := 230) (by decide +kernel)))) hc1 hc2 hc3 ?_
      refine lv_astore (lv' := [(4, .ref q9), (0, .ref b), (1, .int 8), (2, .int p0), (3, .int p1)]) X.ex X.co dL_ask_8 hl (by decide) rfl (fun ls hl => ?_)
      refine lv_sipush (v := (-2001)) X.ex X.co dL_ask_10 (by decide) ?_
      exact c_i X hS rfl rfl ⟨(by rw [lC, if_neg (by rw [hk0]; omega), hk0]; rfl), CB_0 0 hCB⟩ (by omega) (by omega) dL_ask_13
    · obtain rfl : "java/util/NoSuchElementException" = E := Option.some.inj hT
      refine vx_catch X.ow [⟨0, 7, 8, 64⟩] ⟨0, 7, 14, 72⟩ [] htab (List.forall_mem_cons.mpr ⟨Or.inr ⟨by decide, "java/lang/IndexOutOfBoundsException", X.ts _ mn_17, nc_at g0 (List.mem_of_getElem? (i := 13) rfl)⟩, (fun z h => absurd h List.not_mem_nil)⟩) rfl (by decide) (X.ts _ mn_21) (cd_at g0 (tb_4 (List.mem_of_getElem? (i := 14) (by decide +kernel)))) hc1 hc2 hc3 ?_
      refine lv_astore (lv' := [(4, .ref q9), (0, .ref b), (1, .int 8), (2, .int p0), (3, .int p1)]) X.ex X.co dL_ask_14 hl (by decide) rfl (fun ls hl => ?_)
      refine lv_sipush (v := (-2005)) X.ex X.co dL_ask_16 (by decide) ?_
      exact c_i X hS rfl rfl ⟨(by rw [lC, if_neg (by rw [hk0]; omega), hk0]; rfl), CB_0 0 hCB⟩ (by omega) (by omega) dL_ask_19
    · exact absurd hT (by simp)
  · obtain ⟨rfl, hk0, hCB⟩ := hB
    exact c_i X hS rfl rfl ⟨(by rw [lC, if_pos hk0]), CB_0 0 hCB⟩ (by omega) (by omega) dL_ask_7
set_option maxHeartbeats 4000000 in
set_option maxRecDepth 100000 in
theorem c_L_ask_9 (l : Launch) (hst : l.stackTraces = false) (G : GT) (A : Nat → Prop) (hAg : ∀ q, A q → gA G q) (b : Nat) (σ : Sg) (hI : MI σ) (hJ : MJ σ) (h0 : σ.1 0 0 = 0) (p0 p1 : Int32) : Met l yL_ask (wofW yL_ask cL_ask 5 (some .int) [(0, 7, 8, 64), (0, 7, 14, 72)]) (RM 7 2 9) (cPre [.ref b, .int 9, .int p0, .int p1] G (fun H => CB G A b σ H ∧ ∀ q, H.size ≤ q → A q)) (cQ (lB G A b [(-2001)] (fMastery σ p0 p1)) A) 2 9 A := by
  refine mk_w (by decide) (Nat.le_of_ble_eq_true rfl) ?_
  intro p e s m args below meth c X ls hl g0 F htab
  have hS : va_S A s.heap s.heap [] := va_S.rf
  have hl : lv_has ls 5 [(0, .ref b), (1, .int 9), (2, .int p0), (3, .int p1)] := hl
  show W p l e (RM 7 2 9) s m args below meth c s.heap [] 0 0 (MQ below (cQ (lB G A b [(-2001)] (fMastery σ p0 p1)) A) args s 2 9 A) (F0 m 0 ls [])
  refine lv_aload_n X.ex X.co dL_ask_0 rfl (lv_at hl 0 rfl) ?_
  refine lv_iload_n X.ex X.co dL_ask_1 rfl (lv_at hl 1 rfl) ?_
  refine lv_iload_n X.ex X.co dL_ask_2 rfl (lv_at hl 2 rfl) ?_
  refine lv_iload_n X.ex X.co dL_ask_3 rfl (lv_at hl 3 rfl) ?_
  refine w_S X ce_L_asked mn_41 (c_L_asked_9 l hst G A hAg b σ hI hJ h0 p0 p1) g0 F (by decide) rfl hl.1 rfl (Nat.le_of_ble_eq_true rfl) dL_ask_4 (by omega) (by omega) hS (fun _ h => h) (fun E ce q9 H locs hB hz hk9 hS hc1 hc2 hc3 => ?_) (fun v0 H locs hB hz hk9 hS => ?_)
  · obtain ⟨k, hT, hk0, hCB⟩ := hB
    rcases k with _ | k
    · obtain rfl : "java/lang/IndexOutOfBoundsException" = E := Option.some.inj hT
      refine vx_catch X.ow [] ⟨0, 7, 8, 64⟩ [⟨0, 7, 14, 72⟩] htab (fun z h => absurd h List.not_mem_nil) rfl (by decide) (X.ts _ mn_17) (cd_at g0 (tb_2 (List.mem_of_getElem? (i := 230) (by decide +kernel)))) hc1 hc2 hc3 ?_
      refine lv_astore (lv' := [(4, .ref q9), (0, .ref b), (1, .int 9), (2, .int p0), (3, .int p1)]) X.ex X.co dL_ask_8 hl (by decide) rfl (fun ls hl => ?_)
      refine lv_sipush (v := (-2001)) X.ex X.co dL_ask_10 (by decide) ?_
      exact c_i X hS rfl rfl ⟨(by rw [lC, if_neg (by rw [hk0]; omega), hk0]; rfl), CB_0 0 hCB⟩ (by omega) (by omega) dL_ask_13
    · exact absurd hT (by simp)
  · obtain ⟨rfl, hk0, hCB⟩ := hB
    exact c_i X hS rfl rfl ⟨(by rw [lC, if_pos hk0]), CB_0 0 hCB⟩ (by omega) (by omega) dL_ask_7
set_option maxHeartbeats 4000000 in
set_option maxRecDepth 100000 in
theorem c_L_ask_10 (l : Launch) (hst : l.stackTraces = false) (G : GT) (A : Nat → Prop) (hAg : ∀ q, A q → gA G q) (b : Nat) (σ : Sg) (hI : MI σ) (hJ : MJ σ) (h0 : σ.1 0 0 = 0) (p0 p1 : Int32) : Met l yL_ask (wofW yL_ask cL_ask 5 (some .int) [(0, 7, 8, 64), (0, 7, 14, 72)]) (RM 7 1 6) (cPre [.ref b, .int 10, .int p0, .int p1] G (fun H => CB G A b σ H ∧ ∀ q, H.size ≤ q → A q)) (cQ (lB G A b [(-2001)] (fMastery σ p0 p1)) A) 1 6 A := by
  refine mk_w (by decide) (Nat.le_of_ble_eq_true rfl) ?_
  intro p e s m args below meth c X ls hl g0 F htab
  have hS : va_S A s.heap s.heap [] := va_S.rf
  have hl : lv_has ls 5 [(0, .ref b), (1, .int 10), (2, .int p0), (3, .int p1)] := hl
  show W p l e (RM 7 1 6) s m args below meth c s.heap [] 0 0 (MQ below (cQ (lB G A b [(-2001)] (fMastery σ p0 p1)) A) args s 1 6 A) (F0 m 0 ls [])
  refine lv_aload_n X.ex X.co dL_ask_0 rfl (lv_at hl 0 rfl) ?_
  refine lv_iload_n X.ex X.co dL_ask_1 rfl (lv_at hl 1 rfl) ?_
  refine lv_iload_n X.ex X.co dL_ask_2 rfl (lv_at hl 2 rfl) ?_
  refine lv_iload_n X.ex X.co dL_ask_3 rfl (lv_at hl 3 rfl) ?_
  refine w_S X ce_L_asked mn_41 (c_L_asked_10 l hst G A hAg b σ hI hJ h0 p0 p1) g0 F (by decide) rfl hl.1 rfl (Nat.le_of_ble_eq_true rfl) dL_ask_4 (by omega) (by omega) hS (fun _ h => h) (fun E ce q9 H locs hB hz hk9 hS hc1 hc2 hc3 => ?_) (fun v0 H locs hB hz hk9 hS => ?_)
  · obtain ⟨k, hT, hk0, hCB⟩ := hB
    rcases k with _ | k
    · obtain rfl : "java/lang/IndexOutOfBoundsException" = E := Option.some.inj hT
      refine vx_catch X.ow [] ⟨0, 7, 8, 64⟩ [⟨0, 7, 14, 72⟩] htab (fun z h => absurd h List.not_mem_nil) rfl (by decide) (X.ts _ mn_17) (cd_at g0 (tb_2 (List.mem_of_getElem? (i := 230) (by decide +kernel)))) hc1 hc2 hc3 ?_
      refine lv_astore (lv' := [(4, .ref q9), (0, .ref b), (1, .int 10), (2, .int p0), (3, .int p1)]) X.ex X.co dL_ask_8 hl (by decide) rfl (fun ls hl => ?_)
      refine lv_sipush (v := (-2001)) X.ex X.co dL_ask_10 (by decide) ?_
      exact c_i X hS rfl rfl ⟨(by rw [lC, if_neg (by rw [hk0]; omega), hk0]; rfl), CB_0 0 hCB⟩ (by omega) (by omega) dL_ask_13
    · exact absurd hT (by simp)
  · obtain ⟨rfl, hk0, hCB⟩ := hB
    exact c_i X hS rfl rfl ⟨(by rw [lC, if_pos hk0]), CB_0 0 hCB⟩ (by omega) (by omega) dL_ask_7
set_option maxHeartbeats 4000000 in
set_option maxRecDepth 100000 in
theorem c_L_ask_11 (l : Launch) (hst : l.stackTraces = false) (G : GT) (A : Nat → Prop) (hAg : ∀ q, A q → gA G q) (b : Nat) (σ : Sg) (hI : MI σ) (hJ : MJ σ) (h0 : σ.1 0 0 = 0) (p0 p1 : Int32) : Met l yL_ask (wofW yL_ask cL_ask 5 (some .int) [(0, 7, 8, 64), (0, 7, 14, 72)]) (RM 6 1 6) (cPre [.ref b, .int 11, .int p0, .int p1] G (fun H => CB G A b σ H ∧ ∀ q, H.size ≤ q → A q)) (cQ (lB G A b [(-2001)] (fAppealAt σ p0)) A) 1 6 A := by
  refine mk_w (by decide) (Nat.le_of_ble_eq_true rfl) ?_
  intro p e s m args below meth c X ls hl g0 F htab
  have hS : va_S A s.heap s.heap [] := va_S.rf
  have hl : lv_has ls 5 [(0, .ref b), (1, .int 11), (2, .int p0), (3, .int p1)] := hl
  show W p l e (RM 6 1 6) s m args below meth c s.heap [] 0 0 (MQ below (cQ (lB G A b [(-2001)] (fAppealAt σ p0)) A) args s 1 6 A) (F0 m 0 ls [])
  refine lv_aload_n X.ex X.co dL_ask_0 rfl (lv_at hl 0 rfl) ?_
  refine lv_iload_n X.ex X.co dL_ask_1 rfl (lv_at hl 1 rfl) ?_
  refine lv_iload_n X.ex X.co dL_ask_2 rfl (lv_at hl 2 rfl) ?_
  refine lv_iload_n X.ex X.co dL_ask_3 rfl (lv_at hl 3 rfl) ?_
  refine w_S X ce_L_asked mn_41 (c_L_asked_11 l hst G A hAg b σ hI hJ h0 p0 p1) g0 F (by decide) rfl hl.1 rfl (Nat.le_of_ble_eq_true rfl) dL_ask_4 (by omega) (by omega) hS (fun _ h => h) (fun E ce q9 H locs hB hz hk9 hS hc1 hc2 hc3 => ?_) (fun v0 H locs hB hz hk9 hS => ?_)
  · obtain ⟨k, hT, hk0, hCB⟩ := hB
    rcases k with _ | k
    · obtain rfl : "java/lang/IndexOutOfBoundsException" = E := Option.some.inj hT
      refine vx_catch X.ow [] ⟨0, 7, 8, 64⟩ [⟨0, 7, 14, 72⟩] htab (fun z h => absurd h List.not_mem_nil) rfl (by decide) (X.ts _ mn_17) (cd_at g0 (tb_2 (List.mem_of_getElem? (i := 230) (by decide +kernel)))) hc1 hc2 hc3 ?_
      refine lv_astore (lv' := [(4, .ref q9), (0, .ref b), (1, .int 11), (2, .int p0), (3, .int p1)]) X.ex X.co dL_ask_8 hl (by decide) rfl (fun ls hl => ?_)
      refine lv_sipush (v := (-2001)) X.ex X.co dL_ask_10 (by decide) ?_
      exact c_i X hS rfl rfl ⟨(by rw [lC, if_neg (by rw [hk0]; omega), hk0]; rfl), CB_0 0 hCB⟩ (by omega) (by omega) dL_ask_13
    · exact absurd hT (by simp)
  · obtain ⟨rfl, hk0, hCB⟩ := hB
    exact c_i X hS rfl rfl ⟨(by rw [lC, if_pos hk0]), CB_0 0 hCB⟩ (by omega) (by omega) dL_ask_7
set_option maxHeartbeats 4000000 in
set_option maxRecDepth 100000 in
theorem c_L_ask_12 (l : Launch) (hst : l.stackTraces = false) (G : GT) (A : Nat → Prop) (hAg : ∀ q, A q → gA G q) (b : Nat) (σ : Sg) (hI : MI σ) (hJ : MJ σ) (h0 : σ.1 0 0 = 0) (p0 p1 : Int32) : Met l yL_ask (wofW yL_ask cL_ask 5 (some .int) [(0, 7, 8, 64), (0, 7, 14, 72)]) (RM 6 1 6) (cPre [.ref b, .int 12, .int p0, .int p1] G (fun H => CB G A b σ H ∧ ∀ q, H.size ≤ q → A q)) (cQ (lB G A b [(-2001)] (fHarmedAt σ p0)) A) 1 6 A := by
  refine mk_w (by decide) (Nat.le_of_ble_eq_true rfl) ?_
  intro p e s m args below meth c X ls hl g0 F htab
  have hS : va_S A s.heap s.heap [] := va_S.rf
  have hl : lv_has ls 5 [(0, .ref b), (1, .int 12), (2, .int p0), (3, .int p1)] := hl
  show W p l e (RM 6 1 6) s m args below meth c s.heap [] 0 0 (MQ below (cQ (lB G A b [(-2001)] (fHarmedAt σ p0)) A) args s 1 6 A) (F0 m 0 ls [])
  refine lv_aload_n X.ex X.co dL_ask_0 rfl (lv_at hl 0 rfl) ?_
  refine lv_iload_n X.ex X.co dL_ask_1 rfl (lv_at hl 1 rfl) ?_
  refine lv_iload_n X.ex X.co dL_ask_2 rfl (lv_at hl 2 rfl) ?_
  refine lv_iload_n X.ex X.co dL_ask_3 rfl (lv_at hl 3 rfl) ?_
  refine w_S X ce_L_asked mn_41 (c_L_asked_12 l hst G A hAg b σ hI hJ h0 p0 p1) g0 F (by decide) rfl hl.1 rfl (Nat.le_of_ble_eq_true rfl) dL_ask_4 (by omega) (by omega) hS (fun _ h => h) (fun E ce q9 H locs hB hz hk9 hS hc1 hc2 hc3 => ?_) (fun v0 H locs hB hz hk9 hS => ?_)
  · obtain ⟨k, hT, hk0, hCB⟩ := hB
    rcases k with _ | k
    · obtain rfl : "java/lang/IndexOutOfBoundsException" = E := Option.some.inj hT
      refine vx_catch X.ow [] ⟨0, 7, 8, 64⟩ [⟨0, 7, 14, 72⟩] htab (fun z h => absurd h List.not_mem_nil) rfl (by decide) (X.ts _ mn_17) (cd_at g0 (tb_2 (List.mem_of_getElem? (i := 230) (by decide +kernel)))) hc1 hc2 hc3 ?_
      refine lv_astore (lv' := [(4, .ref q9), (0, .ref b), (1, .int 12), (2, .int p0), (3, .int p1)]) X.ex X.co dL_ask_8 hl (by decide) rfl (fun ls hl => ?_)
      refine lv_sipush (v := (-2001)) X.ex X.co dL_ask_10 (by decide) ?_
      exact c_i X hS rfl rfl ⟨(by rw [lC, if_neg (by rw [hk0]; omega), hk0]; rfl), CB_0 0 hCB⟩ (by omega) (by omega) dL_ask_13
    · exact absurd hT (by simp)
  · obtain ⟨rfl, hk0, hCB⟩ := hB
    exact c_i X hS rfl rfl ⟨(by rw [lC, if_pos hk0]), CB_0 0 hCB⟩ (by omega) (by omega) dL_ask_7
set_option maxHeartbeats 4000000 in
set_option maxRecDepth 100000 in
theorem c_L_ask_13 (l : Launch) (hst : l.stackTraces = false) (G : GT) (A : Nat → Prop) (hAg : ∀ q, A q → gA G q) (b : Nat) (σ : Sg) (hI : MI σ) (hJ : MJ σ) (h0 : σ.1 0 0 = 0) (p0 p1 : Int32) : Met l yL_ask (wofW yL_ask cL_ask 5 (some .int) [(0, 7, 8, 64), (0, 7, 14, 72)]) (RM 6 1 6) (cPre [.ref b, .int 13, .int p0, .int p1] G (fun H => CB G A b σ H ∧ ∀ q, H.size ≤ q → A q)) (cQ (lB G A b [(-2001)] (fDoesStand σ p0)) A) 1 6 A := by
  refine mk_w (by decide) (Nat.le_of_ble_eq_true rfl) ?_
  intro p e s m args below meth c X ls hl g0 F htab
  have hS : va_S A s.heap s.heap [] := va_S.rf
  have hl : lv_has ls 5 [(0, .ref b), (1, .int 13), (2, .int p0), (3, .int p1)] := hl
  show W p l e (RM 6 1 6) s m args below meth c s.heap [] 0 0 (MQ below (cQ (lB G A b [(-2001)] (fDoesStand σ p0)) A) args s 1 6 A) (F0 m 0 ls [])
  refine lv_aload_n X.ex X.co dL_ask_0 rfl (lv_at hl 0 rfl) ?_
  refine lv_iload_n X.ex X.co dL_ask_1 rfl (lv_at hl 1 rfl) ?_
  refine lv_iload_n X.ex X.co dL_ask_2 rfl (lv_at hl 2 rfl) ?_
  refine lv_iload_n X.ex X.co dL_ask_3 rfl (lv_at hl 3 rfl) ?_
  refine w_S X ce_L_asked mn_41 (c_L_asked_13 l hst G A hAg b σ hI hJ h0 p0 p1) g0 F (by decide) rfl hl.1 rfl (Nat.le_of_ble_eq_true rfl) dL_ask_4 (by omega) (by omega) hS (fun _ h => h) (fun E ce q9 H locs hB hz hk9 hS hc1 hc2 hc3 => ?_) (fun v0 H locs hB hz hk9 hS => ?_)
  · obtain ⟨k, hT, hk0, hCB⟩ := hB
    rcases k with _ | k
    · obtain rfl : "java/lang/IndexOutOfBoundsException" = E := Option.some.inj hT
      refine vx_catch X.ow [] ⟨0, 7, 8, 64⟩ [⟨0, 7, 14, 72⟩] htab (fun z h => absurd h List.not_mem_nil) rfl (by decide) (X.ts _ mn_17) (cd_at g0 (tb_2 (List.mem_of_getElem? (i := 230) (by decide +kernel)))) hc1 hc2 hc3 ?_
      refine lv_astore (lv' := [(4, .ref q9), (0, .ref b), (1, .int 13), (2, .int p0), (3, .int p1)]) X.ex X.co dL_ask_8 hl (by decide) rfl (fun ls hl => ?_)
      refine lv_sipush (v := (-2001)) X.ex X.co dL_ask_10 (by decide) ?_
      exact c_i X hS rfl rfl ⟨(by rw [lC, if_neg (by rw [hk0]; omega), hk0]; rfl), CB_0 0 hCB⟩ (by omega) (by omega) dL_ask_13
    · exact absurd hT (by simp)
  · obtain ⟨rfl, hk0, hCB⟩ := hB
    exact c_i X hS rfl rfl ⟨(by rw [lC, if_pos hk0]), CB_0 0 hCB⟩ (by omega) (by omega) dL_ask_7
set_option maxHeartbeats 4000000 in
set_option maxRecDepth 100000 in
theorem c_L_ask_14 (l : Launch) (hst : l.stackTraces = false) (G : GT) (A : Nat → Prop) (hAg : ∀ q, A q → gA G q) (b : Nat) (σ : Sg) (hI : MI σ) (hJ : MJ σ) (h0 : σ.1 0 0 = 0) (p0 p1 : Int32) : Met l yL_ask (wofW yL_ask cL_ask 5 (some .int) [(0, 7, 8, 64), (0, 7, 14, 72)]) (RM 7 1 6) (cPre [.ref b, .int 14, .int p0, .int p1] G (fun H => CB G A b σ H ∧ ∀ q, H.size ≤ q → A q)) (cQ (lB G A b [(-2001), (-2005)] (fCertificateOf σ p0 p1)) A) 1 6 A := by
  refine mk_w (by decide) (Nat.le_of_ble_eq_true rfl) ?_
  intro p e s m args below meth c X ls hl g0 F htab
  have hS : va_S A s.heap s.heap [] := va_S.rf
  have hl : lv_has ls 5 [(0, .ref b), (1, .int 14), (2, .int p0), (3, .int p1)] := hl
  show W p l e (RM 7 1 6) s m args below meth c s.heap [] 0 0 (MQ below (cQ (lB G A b [(-2001), (-2005)] (fCertificateOf σ p0 p1)) A) args s 1 6 A) (F0 m 0 ls [])
  refine lv_aload_n X.ex X.co dL_ask_0 rfl (lv_at hl 0 rfl) ?_
  refine lv_iload_n X.ex X.co dL_ask_1 rfl (lv_at hl 1 rfl) ?_
  refine lv_iload_n X.ex X.co dL_ask_2 rfl (lv_at hl 2 rfl) ?_
  refine lv_iload_n X.ex X.co dL_ask_3 rfl (lv_at hl 3 rfl) ?_
  refine w_S X ce_L_asked mn_41 (c_L_asked_14 l hst G A hAg b σ hI hJ h0 p0 p1) g0 F (by decide) rfl hl.1 rfl (Nat.le_of_ble_eq_true rfl) dL_ask_4 (by omega) (by omega) hS (fun _ h => h) (fun E ce q9 H locs hB hz hk9 hS hc1 hc2 hc3 => ?_) (fun v0 H locs hB hz hk9 hS => ?_)
  · obtain ⟨k, hT, hk0, hCB⟩ := hB
    rcases k with _ | _ | k
    · obtain rfl : "java/lang/IndexOutOfBoundsException" = E := Option.some.inj hT
      refine vx_catch X.ow [] ⟨0, 7, 8, 64⟩ [⟨0, 7, 14, 72⟩] htab (fun z h => absurd h List.not_mem_nil) rfl (by decide) (X.ts _ mn_17) (cd_at g0 (tb_2 (List.mem_of_getElem? (i := 230) (by decide +kernel)))) hc1 hc2 hc3 ?_
      refine lv_astore (lv' := [(4, .ref q9), (0, .ref b), (1, .int 14), (2, .int p0), (3, .int p1)]) X.ex X.co dL_ask_8 hl (by decide) rfl (fun ls hl => ?_)
      refine lv_sipush (v := (-2001)) X.ex X.co dL_ask_10 (by decide) ?_
      exact c_i X hS rfl rfl ⟨(by rw [lC, if_neg (by rw [hk0]; omega), hk0]; rfl), CB_0 0 hCB⟩ (by omega) (by omega) dL_ask_13
    · obtain rfl : "java/util/NoSuchElementException" = E := Option.some.inj hT
      refine vx_catch X.ow [⟨0, 7, 8, 64⟩] ⟨0, 7, 14, 72⟩ [] htab (List.forall_mem_cons.mpr ⟨Or.inr ⟨by decide, "java/lang/IndexOutOfBoundsException", X.ts _ mn_17, nc_at g0 (List.mem_of_getElem? (i := 13) rfl)⟩, (fun z h => absurd h List.not_mem_nil)⟩) rfl (by decide) (X.ts _ mn_21) (cd_at g0 (tb_4 (List.mem_of_getElem? (i := 14) (by decide +kernel)))) hc1 hc2 hc3 ?_
      refine lv_astore (lv' := [(4, .ref q9), (0, .ref b), (1, .int 14), (2, .int p0), (3, .int p1)]) X.ex X.co dL_ask_14 hl (by decide) rfl (fun ls hl => ?_)
      refine lv_sipush (v := (-2005)) X.ex X.co dL_ask_16 (by decide) ?_
      exact c_i X hS rfl rfl ⟨(by rw [lC, if_neg (by rw [hk0]; omega), hk0]; rfl), CB_0 0 hCB⟩ (by omega) (by omega) dL_ask_19
    · exact absurd hT (by simp)
  · obtain ⟨rfl, hk0, hCB⟩ := hB
    exact c_i X hS rfl rfl ⟨(by rw [lC, if_pos hk0]), CB_0 0 hCB⟩ (by omega) (by omega) dL_ask_7
set_option maxHeartbeats 4000000 in
set_option maxRecDepth 100000 in
theorem c_L_ask_15 (l : Launch) (hst : l.stackTraces = false) (G : GT) (A : Nat → Prop) (hAg : ∀ q, A q → gA G q) (b : Nat) (σ : Sg) (hI : MI σ) (hJ : MJ σ) (h0 : σ.1 0 0 = 0) (p0 p1 : Int32) : Met l yL_ask (wofW yL_ask cL_ask 5 (some .int) [(0, 7, 8, 64), (0, 7, 14, 72)]) (RM 9 8 2200) (cPre [.ref b, .int 15, .int p0, .int p1] G (fun H => CB G A b σ H ∧ ∀ q, H.size ≤ q → A q)) (cQ (lB G A b [(-2001)] (fWriteAnswer σ p0)) A) 8 2200 A := by
  refine mk_w (by decide) (Nat.le_of_ble_eq_true rfl) ?_
  intro p e s m args below meth c X ls hl g0 F htab
  have hS : va_S A s.heap s.heap [] := va_S.rf
  have hl : lv_has ls 5 [(0, .ref b), (1, .int 15), (2, .int p0), (3, .int p1)] := hl
  show W p l e (RM 9 8 2200) s m args below meth c s.heap [] 0 0 (MQ below (cQ (lB G A b [(-2001)] (fWriteAnswer σ p0)) A) args s 8 2200 A) (F0 m 0 ls [])
  refine lv_aload_n X.ex X.co dL_ask_0 rfl (lv_at hl 0 rfl) ?_
  refine lv_iload_n X.ex X.co dL_ask_1 rfl (lv_at hl 1 rfl) ?_
  refine lv_iload_n X.ex X.co dL_ask_2 rfl (lv_at hl 2 rfl) ?_
  refine lv_iload_n X.ex X.co dL_ask_3 rfl (lv_at hl 3 rfl) ?_
  refine w_S X ce_L_asked mn_41 (c_L_asked_15 l hst G A hAg b σ hI hJ h0 p0 p1) g0 F (by decide) rfl hl.1 rfl (Nat.le_of_ble_eq_true rfl) dL_ask_4 (by omega) (by omega) hS (fun _ h => h) (fun E ce q9 H locs hB hz hk9 hS hc1 hc2 hc3 => ?_) (fun v0 H locs hB hz hk9 hS => ?_)
  · obtain ⟨k, hT, hk0, hCB⟩ := hB
    rcases k with _ | k
    · obtain rfl : "java/lang/IndexOutOfBoundsException" = E := Option.some.inj hT
      refine vx_catch X.ow [] ⟨0, 7, 8, 64⟩ [⟨0, 7, 14, 72⟩] htab (fun z h => absurd h List.not_mem_nil) rfl (by decide) (X.ts _ mn_17) (cd_at g0 (tb_2 (List.mem_of_getElem? (i := 230) (by decide +kernel)))) hc1 hc2 hc3 ?_
      refine lv_astore (lv' := [(4, .ref q9), (0, .ref b), (1, .int 15), (2, .int p0), (3, .int p1)]) X.ex X.co dL_ask_8 hl (by decide) rfl (fun ls hl => ?_)
      refine lv_sipush (v := (-2001)) X.ex X.co dL_ask_10 (by decide) ?_
      exact c_i X hS rfl rfl ⟨(by rw [lC, if_neg (by rw [hk0]; omega), hk0]; rfl), CB_0 0 hCB⟩ (by omega) (by omega) dL_ask_13
    · exact absurd hT (by simp)
  · obtain ⟨rfl, hk0, hCB⟩ := hB
    exact c_i X hS rfl rfl ⟨(by rw [lC, if_pos hk0]), CB_0 0 hCB⟩ (by omega) (by omega) dL_ask_7
