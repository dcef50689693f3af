set_option maxHeartbeats 4000000 in
set_option maxRecDepth 100000 in
theorem c_L_plain_0 (l : Launch) (hst : l.stackTraces = false) (G : GT) (A : Nat → Prop) (hAg : ∀ q, A q → gA G q) (b : Nat) (σ : Sg) (hI : MI σ) (hJ : MJ σ) (h0 : σ.1 0 0 = 0) (p0 p1 p2 p3 : Int32) : xM l yL_plain cL_plain 6 (some .int) 9 2 310 G [.ref b, .int 0, .int p0, .int p1, .int p2, .int p3] (fun H => CB G A b σ H ∧ ∀ q, H.size ≤ q → A q) (fB G A b (fAddCohort σ p0 p1)) (fX ["java/lang/IllegalArgumentException", "java/lang/IllegalStateException"] G A b (fAddCohort σ p0 p1)) A := by
  refine mk_x (by decide) (Nat.le_of_ble_eq_true rfl) ?_
  intro p e s m args below meth c X ls hl g0 F hno
  have hS : va_S A s.heap s.heap [] := va_S.rf
  obtain ⟨fsB, hfB⟩ := CB_at F.1
  have hl : lv_has ls 6 [(0, .ref b), (1, .int 0), (2, .int p0), (3, .int p1), (4, .int p2), (5, .int p3)] := hl
  show Wx p l e 9 2 310 s m args below meth c (fB G A b (fAddCohort σ p0 p1)) (fX ["java/lang/IllegalArgumentException", "java/lang/IllegalStateException"] G A b (fAddCohort σ p0 p1)) A s.heap [] 0 0 0 ls []
  refine lv_iload_n X.ex X.co dL_plain_0 rfl (lv_at hl 1 rfl) ?_
  refine lv_tableIn X.ex X.co dL_plain_1 (off := 63) (tgt := 64) (by decide) (by decide) (by decide) (by decide) ?_
  refine lv_aload_n X.ex X.co dL_plain_64 rfl (lv_at hl 0 rfl) ?_
  refine lv_iload_n X.ex X.co dL_plain_65 rfl (lv_at hl 2 rfl) ?_
  refine lv_iload_n X.ex X.co dL_plain_66 rfl (lv_at hl 3 rfl) ?_
  refine x_V X ce_X9_addCohort mn_25 (c_X9_addCohort l hst G A hAg b σ hI hJ h0 p0 p1) g0 F hfB rfl (by decide) rfl hl.1 rfl (Nat.le_of_ble_eq_true rfl) dL_plain_67 (by omega) (by omega) hS (fun _ h => h) hno (fun E H1 hB hz hq => hB) (fun v0 H locs hB hz hk9 hS => ?_)
  obtain ⟨rfl, hk0, hCB⟩ := hB
  exact vx_ret (c_i X hS rfl rfl ⟨rfl, hk0, hCB⟩ (by omega) (by omega) dL_plain_70)
set_option maxHeartbeats 4000000 in
set_option maxRecDepth 100000 in
theorem c_L_plain_1 (l : Launch) (hst : l.stackTraces = false) (G : GT) (A : Nat → Prop) (hAg : ∀ q, A q → gA G q) (b : Nat) (σ : Sg) (hI : MI σ) (hJ : MJ σ) (h0 : σ.1 0 0 = 0) (p0 p1 p2 p3 : Int32) : xM l yL_plain cL_plain 6 (some .int) 9 2 310 G [.ref b, .int 1, .int p0, .int p1, .int p2, .int p3] (fun H => CB G A b σ H ∧ ∀ q, H.size ≤ q → A q) (fB G A b (fAddStudent σ p0)) (fX ["java/lang/IndexOutOfBoundsException", "java/lang/IllegalStateException"] G A b (fAddStudent σ p0)) A := by
  refine mk_x (by decide) (Nat.le_of_ble_eq_true rfl) ?_
  intro p e s m args below meth c X ls hl g0 F hno
  have hS : va_S A s.heap s.heap [] := va_S.rf
  obtain ⟨fsB, hfB⟩ := CB_at F.1
  have hl : lv_has ls 6 [(0, .ref b), (1, .int 1), (2, .int p0), (3, .int p1), (4, .int p2), (5, .int p3)] := hl
  show Wx p l e 9 2 310 s m args below meth c (fB G A b (fAddStudent σ p0)) (fX ["java/lang/IndexOutOfBoundsException", "java/lang/IllegalStateException"] G A b (fAddStudent σ p0)) A s.heap [] 0 0 0 ls []
  refine lv_iload_n X.ex X.co dL_plain_0 rfl (lv_at hl 1 rfl) ?_
  refine lv_tableIn X.ex X.co dL_plain_1 (off := 70) (tgt := 71) (by decide) (by decide) (by decide) (by decide) ?_
  refine lv_aload_n X.ex X.co dL_plain_71 rfl (lv_at hl 0 rfl) ?_
  refine lv_iload_n X.ex X.co dL_plain_72 rfl (lv_at hl 2 rfl) ?_
  refine x_V X ce_X9_addStudent mn_26 (c_X9_addStudent l hst G A hAg b σ hI hJ h0 p0) g0 F hfB rfl (by decide) rfl hl.1 rfl (Nat.le_of_ble_eq_true rfl) dL_plain_73 (by omega) (by omega) hS (fun _ h => h) hno (fun E H1 hB hz hq => hB) (fun v0 H locs hB hz hk9 hS => ?_)
  obtain ⟨rfl, hk0, hCB⟩ := hB
  exact vx_ret (c_i X hS rfl rfl ⟨rfl, hk0, hCB⟩ (by omega) (by omega) dL_plain_76)
set_option maxHeartbeats 4000000 in
set_option maxRecDepth 100000 in
theorem c_L_plain_2 (l : Launch) (hst : l.stackTraces = false) (G : GT) (A : Nat → Prop) (hAg : ∀ q, A q → gA G q) (b : Nat) (σ : Sg) (hI : MI σ) (hJ : MJ σ) (h0 : σ.1 0 0 = 0) (p0 p1 p2 p3 : Int32) : xM l yL_plain cL_plain 6 (some .int) 9 3 320 G [.ref b, .int 2, .int p0, .int p1, .int p2, .int p3] (fun H => CB G A b σ H ∧ ∀ q, H.size ≤ q → A q) (fB G A b (fAddLesson σ p0 p1)) (fX ["java/lang/IllegalArgumentException", "java/lang/IllegalStateException"] G A b (fAddLesson σ p0 p1)) A := by
  refine mk_x (by decide) (Nat.le_of_ble_eq_true rfl) ?_
  intro p e s m args below meth c X ls hl g0 F hno
  have hS : va_S A s.heap s.heap [] := va_S.rf
  obtain ⟨fsB, hfB⟩ := CB_at F.1
  have hl : lv_has ls 6 [(0, .ref b), (1, .int 2), (2, .int p0), (3, .int p1), (4, .int p2), (5, .int p3)] := hl
  show Wx p l e 9 3 320 s m args below meth c (fB G A b (fAddLesson σ p0 p1)) (fX ["java/lang/IllegalArgumentException", "java/lang/IllegalStateException"] G A b (fAddLesson σ p0 p1)) A s.heap [] 0 0 0 ls []
  refine lv_iload_n X.ex X.co dL_plain_0 rfl (lv_at hl 1 rfl) ?_
  refine lv_tableIn X.ex X.co dL_plain_1 (off := 76) (tgt := 77) (by decide) (by decide) (by decide) (by decide) ?_
  refine lv_aload_n X.ex X.co dL_plain_77 rfl (lv_at hl 0 rfl) ?_
  refine lv_iload_n X.ex X.co dL_plain_78 rfl (lv_at hl 2 rfl) ?_
  refine lv_iload_n X.ex X.co dL_plain_79 rfl (lv_at hl 3 rfl) ?_
  refine x_V X ce_X9_addLesson mn_27 (c_X9_addLesson l hst G A hAg b σ hI hJ h0 p0 p1) g0 F hfB rfl (by decide) rfl hl.1 rfl (Nat.le_of_ble_eq_true rfl) dL_plain_80 (by omega) (by omega) hS (fun _ h => h) hno (fun E H1 hB hz hq => hB) (fun v0 H locs hB hz hk9 hS => ?_)
  obtain ⟨rfl, hk0, hCB⟩ := hB
  exact vx_ret (c_i X hS rfl rfl ⟨rfl, hk0, hCB⟩ (by omega) (by omega) dL_plain_83)
set_option maxHeartbeats 4000000 in
set_option maxRecDepth 100000 in
theorem c_L_plain_3 (l : Launch) (hst : l.stackTraces = false) (G : GT) (A : Nat → Prop) (hAg : ∀ q, A q → gA G q) (b : Nat) (σ : Sg) (hI : MI σ) (hJ : MJ σ) (h0 : σ.1 0 0 = 0) (p0 p1 p2 p3 : Int32) : xM l yL_plain cL_plain 6 (some .int) 10 7 700 G [.ref b, .int 3, .int p0, .int p1, .int p2, .int p3] (fun H => CB G A b σ H ∧ ∀ q, H.size ≤ q → A q) (fB G A b (fAddExercise σ p0 p1 p2 p3)) (fX ["java/lang/IndexOutOfBoundsException", "java/lang/IllegalArgumentException", "java/lang/IllegalStateException"] G A b (fAddExercise σ p0 p1 p2 p3)) A := by
  refine mk_x (by decide) (Nat.le_of_ble_eq_true rfl) ?_
  intro p e s m args below meth c X ls hl g0 F hno
  have hS : va_S A s.heap s.heap [] := va_S.rf
  obtain ⟨fsB, hfB⟩ := CB_at F.1
  have hl : lv_has ls 6 [(0, .ref b), (1, .int 3), (2, .int p0), (3, .int p1), (4, .int p2), (5, .int p3)] := hl
  show Wx p l e 10 7 700 s m args below meth c (fB G A b (fAddExercise σ p0 p1 p2 p3)) (fX ["java/lang/IndexOutOfBoundsException", "java/lang/IllegalArgumentException", "java/lang/IllegalStateException"] G A b (fAddExercise σ p0 p1 p2 p3)) A s.heap [] 0 0 0 ls []
  refine lv_iload_n X.ex X.co dL_plain_0 rfl (lv_at hl 1 rfl) ?_
  refine lv_tableIn X.ex X.co dL_plain_1 (off := 83) (tgt := 84) (by decide) (by decide) (by decide) (by decide) ?_
  refine lv_aload_n X.ex X.co dL_plain_84 rfl (lv_at hl 0 rfl) ?_
  refine lv_iload_n X.ex X.co dL_plain_85 rfl (lv_at hl 2 rfl) ?_
  refine lv_iload_n X.ex X.co dL_plain_86 rfl (lv_at hl 3 rfl) ?_
  refine lv_iload X.ex X.co dL_plain_87 (lv_at hl 4 rfl) ?_
  refine lv_iload X.ex X.co dL_plain_89 (lv_at hl 5 rfl) ?_
  refine x_V X ce_X9_addExercise mn_28 (c_X9_addExercise l hst G A hAg b σ hI hJ h0 p0 p1 p2 p3) g0 F hfB rfl (by decide) rfl hl.1 rfl (Nat.le_of_ble_eq_true rfl) dL_plain_91 (by omega) (by omega) hS (fun _ h => h) hno (fun E H1 hB hz hq => hB) (fun v0 H locs hB hz hk9 hS => ?_)
  obtain ⟨rfl, hk0, hCB⟩ := hB
  exact vx_ret (c_i X hS rfl rfl ⟨rfl, hk0, hCB⟩ (by omega) (by omega) dL_plain_94)
set_option maxHeartbeats 4000000 in
set_option maxRecDepth 100000 in
theorem c_L_plain_4 (l : Launch) (hst : l.stackTraces = false) (G : GT) (A : Nat → Prop) (hAg : ∀ q, A q → gA G q) (b : Nat) (σ : Sg) (hI : MI σ) (hJ : MJ σ) (h0 : σ.1 0 0 = 0) (p0 p1 p2 p3 : Int32) : xM l yL_plain cL_plain 6 (some .int) 5 1 6 G [.ref b, .int 4, .int p0, .int p1, .int p2, .int p3] (fun H => CB G A b σ H ∧ ∀ q, H.size ≤ q → A q) (fB G A b (fAddCase σ p0 p1 p2)) (fX ["java/lang/IndexOutOfBoundsException", "java/lang/IllegalArgumentException", "java/lang/IllegalStateException"] G A b (fAddCase σ p0 p1 p2)) A := by
  refine mk_x (by decide) (Nat.le_of_ble_eq_true rfl) ?_
  intro p e s m args below meth c X ls hl g0 F hno
  have hS : va_S A s.heap s.heap [] := va_S.rf
  obtain ⟨fsB, hfB⟩ := CB_at F.1
  have hl : lv_has ls 6 [(0, .ref b), (1, .int 4), (2, .int p0), (3, .int p1), (4, .int p2), (5, .int p3)] := hl
  show Wx p l e 5 1 6 s m args below meth c (fB G A b (fAddCase σ p0 p1 p2)) (fX ["java/lang/IndexOutOfBoundsException", "java/lang/IllegalArgumentException", "java/lang/IllegalStateException"] G A b (fAddCase σ p0 p1 p2)) A s.heap [] 0 0 0 ls []
  refine lv_iload_n X.ex X.co dL_plain_0 rfl (lv_at hl 1 rfl) ?_
  refine lv_tableIn X.ex X.co dL_plain_1 (off := 94) (tgt := 95) (by decide) (by decide) (by decide) (by decide) ?_
  refine lv_aload_n X.ex X.co dL_plain_95 rfl (lv_at hl 0 rfl) ?_
  refine lv_iload_n X.ex X.co dL_plain_96 rfl (lv_at hl 2 rfl) ?_
  refine lv_iload_n X.ex X.co dL_plain_97 rfl (lv_at hl 3 rfl) ?_
  refine lv_iload X.ex X.co dL_plain_98 (lv_at hl 4 rfl) ?_
  refine x_V X ce_X9_addCase mn_29 (c_X9_addCase l hst G A hAg b σ hI hJ h0 p0 p1 p2) g0 F hfB rfl (by decide) rfl hl.1 rfl (Nat.le_of_ble_eq_true rfl) dL_plain_100 (by omega) (by omega) hS (fun _ h => h) hno (fun E H1 hB hz hq => hB) (fun v0 H locs hB hz hk9 hS => ?_)
  obtain ⟨rfl, hk0, hCB⟩ := hB
  exact vx_ret (c_i X hS rfl rfl ⟨rfl, hk0, hCB⟩ (by omega) (by omega) dL_plain_103)
set_option maxHeartbeats 4000000 in
set_option maxRecDepth 100000 in
theorem c_L_plain_5 (l : Launch) (hst : l.stackTraces = false) (G : GT) (A : Nat → Prop) (hAg : ∀ q, A q → gA G q) (b : Nat) (σ : Sg) (hI : MI σ) (hJ : MJ σ) (h0 : σ.1 0 0 = 0) (p0 p1 p2 p3 : Int32) : xM l yL_plain cL_plain 6 (some .int) 9 6 640 G [.ref b, .int 5, .int p0, .int p1, .int p2, .int p3] (fun H => CB G A b σ H ∧ ∀ q, H.size ≤ q → A q) (fB G A b (fAnswer σ p0 p1 p2 p3)) (fX ["java/lang/IndexOutOfBoundsException", "java/lang/IllegalArgumentException", "java/lang/UnsupportedOperationException", "java/lang/IllegalStateException"] G A b (fAnswer σ p0 p1 p2 p3)) A := by
  refine mk_x (by decide) (Nat.le_of_ble_eq_true rfl) ?_
  intro p e s m args below meth c X ls hl g0 F hno
  have hS : va_S A s.heap s.heap [] := va_S.rf
  obtain ⟨fsB, hfB⟩ := CB_at F.1
  have hl : lv_has ls 6 [(0, .ref b), (1, .int 5), (2, .int p0), (3, .int p1), (4, .int p2), (5, .int p3)] := hl
  show Wx p l e 9 6 640 s m args below meth c (fB G A b (fAnswer σ p0 p1 p2 p3)) (fX ["java/lang/IndexOutOfBoundsException", "java/lang/IllegalArgumentException", "java/lang/UnsupportedOperationException", "java/lang/IllegalStateException"] G A b (fAnswer σ p0 p1 p2 p3)) A s.heap [] 0 0 0 ls []
  refine lv_iload_n X.ex X.co dL_plain_0 rfl (lv_at hl 1 rfl) ?_
  refine lv_tableIn X.ex X.co dL_plain_1 (off := 103) (tgt := 104) (by decide) (by decide) (by decide) (by decide) ?_
  refine lv_aload_n X.ex X.co dL_plain_104 rfl (lv_at hl 0 rfl) ?_
  refine lv_iload_n X.ex X.co dL_plain_105 rfl (lv_at hl 2 rfl) ?_
  refine lv_iload_n X.ex X.co dL_plain_106 rfl (lv_at hl 3 rfl) ?_
  refine lv_iload X.ex X.co dL_plain_107 (lv_at hl 4 rfl) ?_
  refine lv_iload X.ex X.co dL_plain_109 (lv_at hl 5 rfl) ?_
  refine x_V X ce_X9_answer mn_30 (c_X9_answer l hst G A hAg b σ hI hJ h0 p0 p1 p2 p3) g0 F hfB rfl (by decide) rfl hl.1 rfl (Nat.le_of_ble_eq_true rfl) dL_plain_111 (by omega) (by omega) hS (fun _ h => h) hno (fun E H1 hB hz hq => hB) (fun v0 H locs hB hz hk9 hS => ?_)
  obtain ⟨rfl, hk0, hCB⟩ := hB
  exact vx_ret (c_i X hS rfl rfl ⟨rfl, hk0, hCB⟩ (by omega) (by omega) dL_plain_114)
set_option maxHeartbeats 4000000 in
set_option maxRecDepth 100000 in
theorem c_L_plain_6 (l : Launch) (hst : l.stackTraces = false) (G : GT) (A : Nat → Prop) (hAg : ∀ q, A q → gA G q) (b : Nat) (σ : Sg) (hI : MI σ) (hJ : MJ σ) (h0 : σ.1 0 0 = 0) (p0 p1 p2 p3 : Int32) : xM l yL_plain cL_plain 6 (some .int) 9 1 310 G [.ref b, .int 6, .int p0, .int p1, .int p2, .int p3] (fun H => CB G A b σ H ∧ ∀ q, H.size ≤ q → A q) (fB G A b (fAppeal σ p0)) (fX ["java/lang/IndexOutOfBoundsException", "java/lang/IllegalStateException"] G A b (fAppeal σ p0)) A := by
  refine mk_x (by decide) (Nat.le_of_ble_eq_true rfl) ?_
  intro p e s m args below meth c X ls hl g0 F hno
  have hS : va_S A s.heap s.heap [] := va_S.rf
  obtain ⟨fsB, hfB⟩ := CB_at F.1
  have hl : lv_has ls 6 [(0, .ref b), (1, .int 6), (2, .int p0), (3, .int p1), (4, .int p2), (5, .int p3)] := hl
  show Wx p l e 9 1 310 s m args below meth c (fB G A b (fAppeal σ p0)) (fX ["java/lang/IndexOutOfBoundsException", "java/lang/IllegalStateException"] G A b (fAppeal σ p0)) A s.heap [] 0 0 0 ls []
  refine lv_iload_n X.ex X.co dL_plain_0 rfl (lv_at hl 1 rfl) ?_
  refine lv_tableIn X.ex X.co dL_plain_1 (off := 114) (tgt := 115) (by decide) (by decide) (by decide) (by decide) ?_
  refine lv_aload_n X.ex X.co dL_plain_115 rfl (lv_at hl 0 rfl) ?_
  refine lv_iload_n X.ex X.co dL_plain_116 rfl (lv_at hl 2 rfl) ?_
  refine x_V X ce_X9_appeal mn_31 (c_X9_appeal l hst G A hAg b σ hI hJ h0 p0) g0 F hfB rfl (by decide) rfl hl.1 rfl (Nat.le_of_ble_eq_true rfl) dL_plain_117 (by omega) (by omega) hS (fun _ h => h) hno (fun E H1 hB hz hq => hB) (fun v0 H locs hB hz hk9 hS => ?_)
  obtain ⟨rfl, hk0, hCB⟩ := hB
  exact vx_ret (c_i X hS rfl rfl ⟨rfl, hk0, hCB⟩ (by omega) (by omega) dL_plain_120)
set_option maxHeartbeats 4000000 in
set_option maxRecDepth 100000 in
theorem c_L_plain_7 (l : Launch) (hst : l.stackTraces = false) (G : GT) (A : Nat → Prop) (hAg : ∀ q, A q → gA G q) (b : Nat) (σ : Sg) (hI : MI σ) (hJ : MJ σ) (h0 : σ.1 0 0 = 0) (p0 p1 p2 p3 : Int32) : xM l yL_plain cL_plain 6 (some .int) 5 1 6 G [.ref b, .int 7, .int p0, .int p1, .int p2, .int p3] (fun H => CB G A b σ H ∧ ∀ q, H.size ≤ q → A q) (fB G A b (fWithdraw σ p0)) (fX ["java/lang/IndexOutOfBoundsException", "java/util/NoSuchElementException"] G A b (fWithdraw σ p0)) A := by
  refine mk_x (by decide) (Nat.le_of_ble_eq_true rfl) ?_
  intro p e s m args below meth c X ls hl g0 F hno
  have hS : va_S A s.heap s.heap [] := va_S.rf
  obtain ⟨fsB, hfB⟩ := CB_at F.1
  have hl : lv_has ls 6 [(0, .ref b), (1, .int 7), (2, .int p0), (3, .int p1), (4, .int p2), (5, .int p3)] := hl
  show Wx p l e 5 1 6 s m args below meth c (fB G A b (fWithdraw σ p0)) (fX ["java/lang/IndexOutOfBoundsException", "java/util/NoSuchElementException"] G A b (fWithdraw σ p0)) A s.heap [] 0 0 0 ls []
  refine lv_iload_n X.ex X.co dL_plain_0 rfl (lv_at hl 1 rfl) ?_
  refine lv_tableIn X.ex X.co dL_plain_1 (off := 120) (tgt := 121) (by decide) (by decide) (by decide) (by decide) ?_
  refine lv_aload_n X.ex X.co dL_plain_121 rfl (lv_at hl 0 rfl) ?_
  refine lv_iload_n X.ex X.co dL_plain_122 rfl (lv_at hl 2 rfl) ?_
  refine x_V X ce_X9_withdraw mn_32 (c_X9_withdraw l hst G A hAg b σ hI hJ h0 p0) g0 F hfB rfl (by decide) rfl hl.1 rfl (Nat.le_of_ble_eq_true rfl) dL_plain_123 (by omega) (by omega) hS (fun _ h => h) hno (fun E H1 hB hz hq => hB) (fun v0 H locs hB hz hk9 hS => ?_)
  obtain ⟨rfl, hk0, hCB⟩ := hB
  exact vx_ret (c_i X hS rfl rfl ⟨rfl, hk0, hCB⟩ (by omega) (by omega) dL_plain_126)
set_option maxHeartbeats 4000000 in
set_option maxRecDepth 100000 in
theorem c_L_plain_8 (l : Launch) (hst : l.stackTraces = false) (G : GT) (A : Nat → Prop) (hAg : ∀ q, A q → gA G q) (b : Nat) (σ : Sg) (hI : MI σ) (hJ : MJ σ) (h0 : σ.1 0 0 = 0) (p0 p1 p2 p3 : Int32) : xM l yL_plain cL_plain 6 (some .int) 5 1 6 G [.ref b, .int 8, .int p0, .int p1, .int p2, .int p3] (fun H => CB G A b σ H ∧ ∀ q, H.size ≤ q → A q) (fB G A b (fDecide σ p0)) (fX ["java/lang/IllegalArgumentException", "java/util/NoSuchElementException"] G A b (fDecide σ p0)) A := by
  refine mk_x (by decide) (Nat.le_of_ble_eq_true rfl) ?_
  intro p e s m args below meth c X ls hl g0 F hno
  have hS : va_S A s.heap s.heap [] := va_S.rf
  obtain ⟨fsB, hfB⟩ := CB_at F.1
  have hl : lv_has ls 6 [(0, .ref b), (1, .int 8), (2, .int p0), (3, .int p1), (4, .int p2), (5, .int p3)] := hl
  show Wx p l e 5 1 6 s m args below meth c (fB G A b (fDecide σ p0)) (fX ["java/lang/IllegalArgumentException", "java/util/NoSuchElementException"] G A b (fDecide σ p0)) A s.heap [] 0 0 0 ls []
  refine lv_iload_n X.ex X.co dL_plain_0 rfl (lv_at hl 1 rfl) ?_
  refine lv_tableIn X.ex X.co dL_plain_1 (off := 126) (tgt := 127) (by decide) (by decide) (by decide) (by decide) ?_
  refine lv_aload_n X.ex X.co dL_plain_127 rfl (lv_at hl 0 rfl) ?_
  refine lv_iload_n X.ex X.co dL_plain_128 rfl (lv_at hl 2 rfl) ?_
  refine x_V X ce_X9_decide mn_33 (c_X9_decide l hst G A hAg b σ hI hJ h0 p0) g0 F hfB rfl (by decide) rfl hl.1 rfl (Nat.le_of_ble_eq_true rfl) dL_plain_129 (by omega) (by omega) hS (fun _ h => h) hno (fun E H1 hB hz hq => hB) (fun v0 H locs hB hz hk9 hS => ?_)
  obtain ⟨rfl, hk0, hCB⟩ := hB
  exact vx_ret (c_i X hS rfl rfl ⟨rfl, hk0, hCB⟩ (by omega) (by omega) dL_plain_132)
set_option maxHeartbeats 4000000 in
set_option maxRecDepth 100000 in
theorem c_L_plain_9 (l : Launch) (hst : l.stackTraces = false) (G : GT) (A : Nat → Prop) (hAg : ∀ q, A q → gA G q) (b : Nat) (σ : Sg) (hI : MI σ) (hJ : MJ σ) (h0 : σ.1 0 0 = 0) (p0 p1 p2 p3 : Int32) : xM l yL_plain cL_plain 6 (some .int) 9 102 1220 G [.ref b, .int 9, .int p0, .int p1, .int p2, .int p3] (fun H => CB G A b σ H ∧ ∀ q, H.size ≤ q → A q) (fB G A b (fMend σ p0 p1 p2)) (fX ["java/lang/IndexOutOfBoundsException", "java/lang/IllegalArgumentException", "java/lang/IllegalStateException"] G A b (fMend σ p0 p1 p2)) A := by
  refine mk_x (by decide) (Nat.le_of_ble_eq_true rfl) ?_
  intro p e s m args below meth c X ls hl g0 F hno
  have hS : va_S A s.heap s.heap [] := va_S.rf
  obtain ⟨fsB, hfB⟩ := CB_at F.1
  have hl : lv_has ls 6 [(0, .ref b), (1, .int 9), (2, .int p0), (3, .int p1), (4, .int p2), (5, .int p3)] := hl
  show Wx p l e 9 102 1220 s m args below meth c (fB G A b (fMend σ p0 p1 p2)) (fX ["java/lang/IndexOutOfBoundsException", "java/lang/IllegalArgumentException", "java/lang/IllegalStateException"] G A b (fMend σ p0 p1 p2)) A s.heap [] 0 0 0 ls []
  refine lv_iload_n X.ex X.co dL_plain_0 rfl (lv_at hl 1 rfl) ?_
  refine lv_tableIn X.ex X.co dL_plain_1 (off := 132) (tgt := 133) (by decide) (by decide) (by decide) (by decide) ?_
  refine lv_aload_n X.ex X.co dL_plain_133 rfl (lv_at hl 0 rfl) ?_
  refine lv_iload_n X.ex X.co dL_plain_134 rfl (lv_at hl 2 rfl) ?_
  refine lv_iload_n X.ex X.co dL_plain_135 rfl (lv_at hl 3 rfl) ?_
  refine lv_iload X.ex X.co dL_plain_136 (lv_at hl 4 rfl) ?_
  refine x_V X ce_X9_mend mn_34 (c_X9_mend l hst G A hAg b σ hI hJ h0 p0 p1 p2) g0 F hfB rfl (by decide) rfl hl.1 rfl (Nat.le_of_ble_eq_true rfl) dL_plain_138 (by omega) (by omega) hS (fun _ h => h) hno (fun E H1 hB hz hq => hB) (fun v0 H locs hB hz hk9 hS => ?_)
  obtain ⟨rfl, hk0, hCB⟩ := hB
  exact vx_ret (c_i X hS rfl rfl ⟨rfl, hk0, hCB⟩ (by omega) (by omega) dL_plain_141)
set_option maxHeartbeats 4000000 in
set_option maxRecDepth 100000 in
theorem c_L_plain_10 (l : Launch) (hst : l.stackTraces = false) (G : GT) (A : Nat → Prop) (hAg : ∀ q, A q → gA G q) (b : Nat) (σ : Sg) (hI : MI σ) (hJ : MJ σ) (h0 : σ.1 0 0 = 0) (p0 p1 p2 p3 : Int32) : xM l yL_plain cL_plain 6 (some .int) 9 2 310 G [.ref b, .int 10, .int p0, .int p1, .int p2, .int p3] (fun H => CB G A b σ H ∧ ∀ q, H.size ≤ q → A q) (fB G A b (fAddCourse σ p0 p1)) (fX ["java/lang/IllegalArgumentException", "java/lang/IllegalStateException"] G A b (fAddCourse σ p0 p1)) A := by
  refine mk_x (by decide) (Nat.le_of_ble_eq_true rfl) ?_
  intro p e s m args below meth c X ls hl g0 F hno
  have hS : va_S A s.heap s.heap [] := va_S.rf
  obtain ⟨fsB, hfB⟩ := CB_at F.1
  have hl : lv_has ls 6 [(0, .ref b), (1, .int 10), (2, .int p0), (3, .int p1), (4, .int p2), (5, .int p3)] := hl
  show Wx p l e 9 2 310 s m args below meth c (fB G A b (fAddCourse σ p0 p1)) (fX ["java/lang/IllegalArgumentException", "java/lang/IllegalStateException"] G A b (fAddCourse σ p0 p1)) A s.heap [] 0 0 0 ls []
  refine lv_iload_n X.ex X.co dL_plain_0 rfl (lv_at hl 1 rfl) ?_
  refine lv_tableIn X.ex X.co dL_plain_1 (off := 141) (tgt := 142) (by decide) (by decide) (by decide) (by decide) ?_
  refine lv_aload_n X.ex X.co dL_plain_142 rfl (lv_at hl 0 rfl) ?_
  refine lv_iload_n X.ex X.co dL_plain_143 rfl (lv_at hl 2 rfl) ?_
  refine lv_iload_n X.ex X.co dL_plain_144 rfl (lv_at hl 3 rfl) ?_
  refine x_V X ce_X9_addCourse mn_35 (c_X9_addCourse l hst G A hAg b σ hI hJ h0 p0 p1) g0 F hfB rfl (by decide) rfl hl.1 rfl (Nat.le_of_ble_eq_true rfl) dL_plain_145 (by omega) (by omega) hS (fun _ h => h) hno (fun E H1 hB hz hq => hB) (fun v0 H locs hB hz hk9 hS => ?_)
  obtain ⟨rfl, hk0, hCB⟩ := hB
  exact vx_ret (c_i X hS rfl rfl ⟨rfl, hk0, hCB⟩ (by omega) (by omega) dL_plain_148)
set_option maxHeartbeats 4000000 in
set_option maxRecDepth 100000 in
theorem c_L_plain_11 (l : Launch) (hst : l.stackTraces = false) (G : GT) (A : Nat → Prop) (hAg : ∀ q, A q → gA G q) (b : Nat) (σ : Sg) (hI : MI σ) (hJ : MJ σ) (h0 : σ.1 0 0 = 0) (p0 p1 p2 p3 : Int32) : xM l yL_plain cL_plain 6 (some .int) 9 4 330 G [.ref b, .int 11, .int p0, .int p1, .int p2, .int p3] (fun H => CB G A b σ H ∧ ∀ q, H.size ≤ q → A q) (fB G A b (fIssue σ p0 p1)) (fX ["java/lang/IndexOutOfBoundsException", "java/lang/IllegalStateException", "java/lang/UnsupportedOperationException"] G A b (fIssue σ p0 p1)) A := by
  refine mk_x (by decide) (Nat.le_of_ble_eq_true rfl) ?_
  intro p e s m args below meth c X ls hl g0 F hno
  have hS : va_S A s.heap s.heap [] := va_S.rf
  obtain ⟨fsB, hfB⟩ := CB_at F.1
  have hl : lv_has ls 6 [(0, .ref b), (1, .int 11), (2, .int p0), (3, .int p1), (4, .int p2), (5, .int p3)] := hl
  show Wx p l e 9 4 330 s m args below meth c (fB G A b (fIssue σ p0 p1)) (fX ["java/lang/IndexOutOfBoundsException", "java/lang/IllegalStateException", "java/lang/UnsupportedOperationException"] G A b (fIssue σ p0 p1)) A s.heap [] 0 0 0 ls []
  refine lv_iload_n X.ex X.co dL_plain_0 rfl (lv_at hl 1 rfl) ?_
  refine lv_tableIn X.ex X.co dL_plain_1 (off := 148) (tgt := 149) (by decide) (by decide) (by decide) (by decide) ?_
  refine lv_aload_n X.ex X.co dL_plain_149 rfl (lv_at hl 0 rfl) ?_
  refine lv_iload_n X.ex X.co dL_plain_150 rfl (lv_at hl 2 rfl) ?_
  refine lv_iload_n X.ex X.co dL_plain_151 rfl (lv_at hl 3 rfl) ?_
  refine x_V X ce_X9_issue mn_36 (c_X9_issue l hst G A hAg b σ hI hJ h0 p0 p1) g0 F hfB rfl (by decide) rfl hl.1 rfl (Nat.le_of_ble_eq_true rfl) dL_plain_152 (by omega) (by omega) hS (fun _ h => h) hno (fun E H1 hB hz hq => hB) (fun v0 H locs hB hz hk9 hS => ?_)
  obtain ⟨rfl, hk0, hCB⟩ := hB
  exact vx_ret (c_i X hS rfl rfl ⟨rfl, hk0, hCB⟩ (by omega) (by omega) dL_plain_155)
set_option maxHeartbeats 4000000 in
set_option maxRecDepth 100000 in
theorem c_L_plain_12 (l : Launch) (hst : l.stackTraces = false) (G : GT) (A : Nat → Prop) (hAg : ∀ q, A q → gA G q) (b : Nat) (σ : Sg) (hI : MI σ) (hJ : MJ σ) (h0 : σ.1 0 0 = 0) (p0 p1 p2 p3 : Int32) : xM l yL_plain cL_plain 6 (some .int) 4 1 6 G [.ref b, .int 12, .int p0, .int p1, .int p2, .int p3] (fun H => CB G A b σ H ∧ ∀ q, H.size ≤ q → A q) (fB G A b (fPass σ p0)) (fX ["java/lang/IllegalArgumentException", "java/lang/IllegalStateException"] G A b (fPass σ p0)) A := by
  refine mk_x (by decide) (Nat.le_of_ble_eq_true rfl) ?_
  intro p e s m args below meth c X ls hl g0 F hno
  have hS : va_S A s.heap s.heap [] := va_S.rf
  obtain ⟨fsB, hfB⟩ := CB_at F.1
  have hl : lv_has ls 6 [(0, .ref b), (1, .int 12), (2, .int p0), (3, .int p1), (4, .int p2), (5, .int p3)] := hl
  show Wx p l e 4 1 6 s m args below meth c (fB G A b (fPass σ p0)) (fX ["java/lang/IllegalArgumentException", "java/lang/IllegalStateException"] G A b (fPass σ p0)) A s.heap [] 0 0 0 ls []
  refine lv_iload_n X.ex X.co dL_plain_0 rfl (lv_at hl 1 rfl) ?_
  refine lv_tableOut X.ex X.co dL_plain_1 (tgt := 156) (by decide) (by decide) ?_
  refine lv_aload_n X.ex X.co dL_plain_156 rfl (lv_at hl 0 rfl) ?_
  refine lv_iload_n X.ex X.co dL_plain_157 rfl (lv_at hl 2 rfl) ?_
  refine x_V X ce_X9_pass mn_37 (c_X9_pass l hst G A hAg b σ hI hJ h0 p0) g0 F hfB rfl (by decide) rfl hl.1 rfl (Nat.le_of_ble_eq_true rfl) dL_plain_158 (by omega) (by omega) hS (fun _ h => h) hno (fun E H1 hB hz hq => hB) (fun v0 H locs hB hz hk9 hS => ?_)
  obtain ⟨rfl, hk0, hCB⟩ := hB
  exact vx_ret (c_i X hS rfl rfl ⟨rfl, hk0, hCB⟩ (by omega) (by omega) dL_plain_161)
