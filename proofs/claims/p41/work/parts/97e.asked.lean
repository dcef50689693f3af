set_option maxHeartbeats 4000000 in
set_option maxRecDepth 100000 in
theorem c_L_asked_0 (l : Launch) (hst : l.stackTraces = false) (G : GT) (A : Nat → Prop) (hAg : ∀ q, A q → gA G q) (b : Nat) (σ : Sg) (hI : MI σ) (hJ : MJ σ) (h0 : σ.1 0 0 = 0) (p0 p1 : Int32) : xM l yL_asked cL_asked 4 (some .int) 5 1 6 G [.ref b, .int 0, .int p0, .int p1] (fun H => CB G A b σ H ∧ ∀ q, H.size ≤ q → A q) (fB G A b (fVersionOf σ p0)) (fX ["java/lang/IndexOutOfBoundsException"] G A b (fVersionOf σ p0)) A := by
  refine mk_x (by decide) (Nat.le_of_ble_eq_true rfl) ?_
  intro p e s m args below meth c X ls hl g0 F hno
  have hS : va_S A s.heap s.heap [] := va_S.rf
  obtain ⟨fsB, hfB⟩ := CB_at F.1
  have hl : lv_has ls 4 [(0, .ref b), (1, .int 0), (2, .int p0), (3, .int p1)] := hl
  show Wx p l e 5 1 6 s m args below meth c (fB G A b (fVersionOf σ p0)) (fX ["java/lang/IndexOutOfBoundsException"] G A b (fVersionOf σ p0)) A s.heap [] 0 0 0 ls []
  refine lv_iload_n X.ex X.co dL_asked_0 rfl (lv_at hl 1 rfl) ?_
  refine lv_tableIn X.ex X.co dL_asked_1 (off := 79) (tgt := 80) (by decide) (by decide) (by decide) (by decide) ?_
  refine lv_aload_n X.ex X.co dL_asked_80 rfl (lv_at hl 0 rfl) ?_
  refine lv_iload_n X.ex X.co dL_asked_81 rfl (lv_at hl 2 rfl) ?_
  refine x_V X ce_X9_versionOf mn_44 (c_X9_versionOf l hst G A hAg b σ hI hJ h0 p0) g0 F hfB rfl (by decide) rfl hl.1 rfl (Nat.le_of_ble_eq_true rfl) dL_asked_82 (by omega) (by omega) hS (fun _ h => h) hno (fun E H1 hB hz hq => hB) (fun v0 H locs hB hz hk9 hS => ?_)
  obtain ⟨rfl, hk0, hCB⟩ := hB
  exact vx_ret (c_i X hS rfl rfl ⟨rfl, hk0, hCB⟩ (by omega) (by omega) dL_asked_85)
set_option maxHeartbeats 4000000 in
set_option maxRecDepth 100000 in
theorem c_L_asked_1 (l : Launch) (hst : l.stackTraces = false) (G : GT) (A : Nat → Prop) (hAg : ∀ q, A q → gA G q) (b : Nat) (σ : Sg) (hI : MI σ) (hJ : MJ σ) (h0 : σ.1 0 0 = 0) (p0 p1 : Int32) : xM l yL_asked cL_asked 4 (some .int) 9 1 6 G [.ref b, .int 1, .int p0, .int p1] (fun H => CB G A b σ H ∧ ∀ q, H.size ≤ q → A q) (fB G A b (fOpenLessons σ p0)) (fX ["java/lang/IndexOutOfBoundsException"] G A b (fOpenLessons σ p0)) A := by
  refine mk_x (by decide) (Nat.le_of_ble_eq_true rfl) ?_
  intro p e s m args below meth c X ls hl g0 F hno
  have hS : va_S A s.heap s.heap [] := va_S.rf
  obtain ⟨fsB, hfB⟩ := CB_at F.1
  have hl : lv_has ls 4 [(0, .ref b), (1, .int 1), (2, .int p0), (3, .int p1)] := hl
  show Wx p l e 9 1 6 s m args below meth c (fB G A b (fOpenLessons σ p0)) (fX ["java/lang/IndexOutOfBoundsException"] G A b (fOpenLessons σ p0)) A s.heap [] 0 0 0 ls []
  refine lv_iload_n X.ex X.co dL_asked_0 rfl (lv_at hl 1 rfl) ?_
  refine lv_tableIn X.ex X.co dL_asked_1 (off := 85) (tgt := 86) (by decide) (by decide) (by decide) (by decide) ?_
  refine lv_aload_n X.ex X.co dL_asked_86 rfl (lv_at hl 0 rfl) ?_
  refine lv_iload_n X.ex X.co dL_asked_87 rfl (lv_at hl 2 rfl) ?_
  refine x_V X ce_X9_openLessons mn_45 (c_X9_openLessons l hst G A hAg b σ hI hJ h0 p0) g0 F hfB rfl (by decide) rfl hl.1 rfl (Nat.le_of_ble_eq_true rfl) dL_asked_88 (by omega) (by omega) hS (fun _ h => h) hno (fun E H1 hB hz hq => hB) (fun v0 H locs hB hz hk9 hS => ?_)
  obtain ⟨rfl, hk0, hCB⟩ := hB
  exact vx_ret (c_i X hS rfl rfl ⟨rfl, hk0, hCB⟩ (by omega) (by omega) dL_asked_91)
set_option maxHeartbeats 4000000 in
set_option maxRecDepth 100000 in
theorem c_L_asked_2 (l : Launch) (hst : l.stackTraces = false) (G : GT) (A : Nat → Prop) (hAg : ∀ q, A q → gA G q) (b : Nat) (σ : Sg) (hI : MI σ) (hJ : MJ σ) (h0 : σ.1 0 0 = 0) (p0 p1 : Int32) : xM l yL_asked cL_asked 4 (some .int) 9 1 6 G [.ref b, .int 2, .int p0, .int p1] (fun H => CB G A b σ H ∧ ∀ q, H.size ≤ q → A q) (fB G A b (fReason σ p0 p1)) (fX ["java/lang/IndexOutOfBoundsException"] G A b (fReason σ p0 p1)) A := by
  refine mk_x (by decide) (Nat.le_of_ble_eq_true rfl) ?_
  intro p e s m args below meth c X ls hl g0 F hno
  have hS : va_S A s.heap s.heap [] := va_S.rf
  obtain ⟨fsB, hfB⟩ := CB_at F.1
  have hl : lv_has ls 4 [(0, .ref b), (1, .int 2), (2, .int p0), (3, .int p1)] := hl
  show Wx p l e 9 1 6 s m args below meth c (fB G A b (fReason σ p0 p1)) (fX ["java/lang/IndexOutOfBoundsException"] G A b (fReason σ p0 p1)) A s.heap [] 0 0 0 ls []
  refine lv_iload_n X.ex X.co dL_asked_0 rfl (lv_at hl 1 rfl) ?_
  refine lv_tableIn X.ex X.co dL_asked_1 (off := 91) (tgt := 92) (by decide) (by decide) (by decide) (by decide) ?_
  refine lv_aload_n X.ex X.co dL_asked_92 rfl (lv_at hl 0 rfl) ?_
  refine lv_iload_n X.ex X.co dL_asked_93 rfl (lv_at hl 2 rfl) ?_
  refine lv_iload_n X.ex X.co dL_asked_94 rfl (lv_at hl 3 rfl) ?_
  refine x_V X ce_X9_reason mn_46 (c_X9_reason l hst G A hAg b σ hI hJ h0 p0 p1) g0 F hfB rfl (by decide) rfl hl.1 rfl (Nat.le_of_ble_eq_true rfl) dL_asked_95 (by omega) (by omega) hS (fun _ h => h) hno (fun E H1 hB hz hq => hB) (fun v0 H locs hB hz hk9 hS => ?_)
  obtain ⟨rfl, hk0, hCB⟩ := hB
  exact vx_ret (c_i X hS rfl rfl ⟨rfl, hk0, hCB⟩ (by omega) (by omega) dL_asked_98)
set_option maxHeartbeats 4000000 in
set_option maxRecDepth 100000 in
theorem c_L_asked_3 (l : Launch) (hst : l.stackTraces = false) (G : GT) (A : Nat → Prop) (hAg : ∀ q, A q → gA G q) (b : Nat) (σ : Sg) (hI : MI σ) (hJ : MJ σ) (h0 : σ.1 0 0 = 0) (p0 p1 : Int32) : xM l yL_asked cL_asked 4 (some .int) 5 1 6 G [.ref b, .int 3, .int p0, .int p1] (fun H => CB G A b σ H ∧ ∀ q, H.size ≤ q → A q) (fB G A b (fGradeOf σ p0)) (fX ["java/lang/IndexOutOfBoundsException"] G A b (fGradeOf σ p0)) A := by
  refine mk_x (by decide) (Nat.le_of_ble_eq_true rfl) ?_
  intro p e s m args below meth c X ls hl g0 F hno
  have hS : va_S A s.heap s.heap [] := va_S.rf
  obtain ⟨fsB, hfB⟩ := CB_at F.1
  have hl : lv_has ls 4 [(0, .ref b), (1, .int 3), (2, .int p0), (3, .int p1)] := hl
  show Wx p l e 5 1 6 s m args below meth c (fB G A b (fGradeOf σ p0)) (fX ["java/lang/IndexOutOfBoundsException"] G A b (fGradeOf σ p0)) A s.heap [] 0 0 0 ls []
  refine lv_iload_n X.ex X.co dL_asked_0 rfl (lv_at hl 1 rfl) ?_
  refine lv_tableIn X.ex X.co dL_asked_1 (off := 98) (tgt := 99) (by decide) (by decide) (by decide) (by decide) ?_
  refine lv_aload_n X.ex X.co dL_asked_99 rfl (lv_at hl 0 rfl) ?_
  refine lv_iload_n X.ex X.co dL_asked_100 rfl (lv_at hl 2 rfl) ?_
  refine x_V X ce_X9_gradeOf mn_47 (c_X9_gradeOf l hst G A hAg b σ hI hJ h0 p0) g0 F hfB rfl (by decide) rfl hl.1 rfl (Nat.le_of_ble_eq_true rfl) dL_asked_101 (by omega) (by omega) hS (fun _ h => h) hno (fun E H1 hB hz hq => hB) (fun v0 H locs hB hz hk9 hS => ?_)
  obtain ⟨rfl, hk0, hCB⟩ := hB
  exact vx_ret (c_i X hS rfl rfl ⟨rfl, hk0, hCB⟩ (by omega) (by omega) dL_asked_104)
set_option maxHeartbeats 4000000 in
set_option maxRecDepth 100000 in
theorem c_L_asked_4 (l : Launch) (hst : l.stackTraces = false) (G : GT) (A : Nat → Prop) (hAg : ∀ q, A q → gA G q) (b : Nat) (σ : Sg) (hI : MI σ) (hJ : MJ σ) (h0 : σ.1 0 0 = 0) (p0 p1 : Int32) : xM l yL_asked cL_asked 4 (some .int) 5 1 6 G [.ref b, .int 4, .int p0, .int p1] (fun H => CB G A b σ H ∧ ∀ q, H.size ≤ q → A q) (fB G A b (fGradeOf σ p0)) (fX ["java/lang/IndexOutOfBoundsException"] G A b (fGradeOf σ p0)) A := by
  refine mk_x (by decide) (Nat.le_of_ble_eq_true rfl) ?_
  intro p e s m args below meth c X ls hl g0 F hno
  have hS : va_S A s.heap s.heap [] := va_S.rf
  obtain ⟨fsB, hfB⟩ := CB_at F.1
  have hl : lv_has ls 4 [(0, .ref b), (1, .int 4), (2, .int p0), (3, .int p1)] := hl
  show Wx p l e 5 1 6 s m args below meth c (fB G A b (fGradeOf σ p0)) (fX ["java/lang/IndexOutOfBoundsException"] G A b (fGradeOf σ p0)) A s.heap [] 0 0 0 ls []
  refine lv_iload_n X.ex X.co dL_asked_0 rfl (lv_at hl 1 rfl) ?_
  refine lv_tableIn X.ex X.co dL_asked_1 (off := 104) (tgt := 105) (by decide) (by decide) (by decide) (by decide) ?_
  refine lv_aload_n X.ex X.co dL_asked_105 rfl (lv_at hl 0 rfl) ?_
  refine lv_iload_n X.ex X.co dL_asked_106 rfl (lv_at hl 2 rfl) ?_
  refine x_V X ce_X9_gradeAnew mn_48 (c_X9_gradeAnew l hst G A hAg b σ hI hJ h0 p0) g0 F hfB rfl (by decide) rfl hl.1 rfl (Nat.le_of_ble_eq_true rfl) dL_asked_107 (by omega) (by omega) hS (fun _ h => h) hno (fun E H1 hB hz hq => hB) (fun v0 H locs hB hz hk9 hS => ?_)
  obtain ⟨rfl, hk0, hCB⟩ := hB
  exact vx_ret (c_i X hS rfl rfl ⟨rfl, hk0, hCB⟩ (by omega) (by omega) dL_asked_110)
set_option maxHeartbeats 4000000 in
set_option maxRecDepth 100000 in
theorem c_L_asked_5 (l : Launch) (hst : l.stackTraces = false) (G : GT) (A : Nat → Prop) (hAg : ∀ q, A q → gA G q) (b : Nat) (σ : Sg) (hI : MI σ) (hJ : MJ σ) (h0 : σ.1 0 0 = 0) (p0 p1 : Int32) : xM l yL_asked cL_asked 4 (some .int) 5 1 6 G [.ref b, .int 5, .int p0, .int p1] (fun H => CB G A b σ H ∧ ∀ q, H.size ≤ q → A q) (fB G A b (fCreditOf σ p0 p1)) (fX ["java/lang/IndexOutOfBoundsException", "java/util/NoSuchElementException"] G A b (fCreditOf σ p0 p1)) A := by
  refine mk_x (by decide) (Nat.le_of_ble_eq_true rfl) ?_
  intro p e s m args below meth c X ls hl g0 F hno
  have hS : va_S A s.heap s.heap [] := va_S.rf
  obtain ⟨fsB, hfB⟩ := CB_at F.1
  have hl : lv_has ls 4 [(0, .ref b), (1, .int 5), (2, .int p0), (3, .int p1)] := hl
  show Wx p l e 5 1 6 s m args below meth c (fB G A b (fCreditOf σ p0 p1)) (fX ["java/lang/IndexOutOfBoundsException", "java/util/NoSuchElementException"] G A b (fCreditOf σ p0 p1)) A s.heap [] 0 0 0 ls []
  refine lv_iload_n X.ex X.co dL_asked_0 rfl (lv_at hl 1 rfl) ?_
  refine lv_tableIn X.ex X.co dL_asked_1 (off := 110) (tgt := 111) (by decide) (by decide) (by decide) (by decide) ?_
  refine lv_aload_n X.ex X.co dL_asked_111 rfl (lv_at hl 0 rfl) ?_
  refine lv_iload_n X.ex X.co dL_asked_112 rfl (lv_at hl 2 rfl) ?_
  refine lv_iload_n X.ex X.co dL_asked_113 rfl (lv_at hl 3 rfl) ?_
  refine x_V X ce_X9_creditOf mn_49 (c_X9_creditOf l hst G A hAg b σ hI hJ h0 p0 p1) g0 F hfB rfl (by decide) rfl hl.1 rfl (Nat.le_of_ble_eq_true rfl) dL_asked_114 (by omega) (by omega) hS (fun _ h => h) hno (fun E H1 hB hz hq => hB) (fun v0 H locs hB hz hk9 hS => ?_)
  obtain ⟨rfl, hk0, hCB⟩ := hB
  exact vx_ret (c_i X hS rfl rfl ⟨rfl, hk0, hCB⟩ (by omega) (by omega) dL_asked_117)
set_option maxHeartbeats 4000000 in
set_option maxRecDepth 100000 in
theorem c_L_asked_6 (l : Launch) (hst : l.stackTraces = false) (G : GT) (A : Nat → Prop) (hAg : ∀ q, A q → gA G q) (b : Nat) (σ : Sg) (hI : MI σ) (hJ : MJ σ) (h0 : σ.1 0 0 = 0) (p0 p1 : Int32) : xM l yL_asked cL_asked 4 (some .int) 5 1 6 G [.ref b, .int 6, .int p0, .int p1] (fun H => CB G A b σ H ∧ ∀ q, H.size ≤ q → A q) (fB G A b (fStudentOf σ p0)) (fX ["java/lang/IndexOutOfBoundsException"] G A b (fStudentOf σ p0)) A := by
  refine mk_x (by decide) (Nat.le_of_ble_eq_true rfl) ?_
  intro p e s m args below meth c X ls hl g0 F hno
  have hS : va_S A s.heap s.heap [] := va_S.rf
  obtain ⟨fsB, hfB⟩ := CB_at F.1
  have hl : lv_has ls 4 [(0, .ref b), (1, .int 6), (2, .int p0), (3, .int p1)] := hl
  show Wx p l e 5 1 6 s m args below meth c (fB G A b (fStudentOf σ p0)) (fX ["java/lang/IndexOutOfBoundsException"] G A b (fStudentOf σ p0)) A s.heap [] 0 0 0 ls []
  refine lv_iload_n X.ex X.co dL_asked_0 rfl (lv_at hl 1 rfl) ?_
  refine lv_tableIn X.ex X.co dL_asked_1 (off := 117) (tgt := 118) (by decide) (by decide) (by decide) (by decide) ?_
  refine lv_aload_n X.ex X.co dL_asked_118 rfl (lv_at hl 0 rfl) ?_
  refine lv_iload_n X.ex X.co dL_asked_119 rfl (lv_at hl 2 rfl) ?_
  refine x_V X ce_X9_studentOf mn_50 (c_X9_studentOf l hst G A hAg b σ hI hJ h0 p0) g0 F hfB rfl (by decide) rfl hl.1 rfl (Nat.le_of_ble_eq_true rfl) dL_asked_120 (by omega) (by omega) hS (fun _ h => h) hno (fun E H1 hB hz hq => hB) (fun v0 H locs hB hz hk9 hS => ?_)
  obtain ⟨rfl, hk0, hCB⟩ := hB
  exact vx_ret (c_i X hS rfl rfl ⟨rfl, hk0, hCB⟩ (by omega) (by omega) dL_asked_123)
set_option maxHeartbeats 4000000 in
set_option maxRecDepth 100000 in
theorem c_L_asked_7 (l : Launch) (hst : l.stackTraces = false) (G : GT) (A : Nat → Prop) (hAg : ∀ q, A q → gA G q) (b : Nat) (σ : Sg) (hI : MI σ) (hJ : MJ σ) (h0 : σ.1 0 0 = 0) (p0 p1 : Int32) : xM l yL_asked cL_asked 4 (some .int) 5 1 6 G [.ref b, .int 7, .int p0, .int p1] (fun H => CB G A b σ H ∧ ∀ q, H.size ≤ q → A q) (fB G A b (fDayOf σ p0)) (fX ["java/lang/IndexOutOfBoundsException"] G A b (fDayOf σ p0)) A := by
  refine mk_x (by decide) (Nat.le_of_ble_eq_true rfl) ?_
  intro p e s m args below meth c X ls hl g0 F hno
  have hS : va_S A s.heap s.heap [] := va_S.rf
  obtain ⟨fsB, hfB⟩ := CB_at F.1
  have hl : lv_has ls 4 [(0, .ref b), (1, .int 7), (2, .int p0), (3, .int p1)] := hl
  show Wx p l e 5 1 6 s m args below meth c (fB G A b (fDayOf σ p0)) (fX ["java/lang/IndexOutOfBoundsException"] G A b (fDayOf σ p0)) A s.heap [] 0 0 0 ls []
  refine lv_iload_n X.ex X.co dL_asked_0 rfl (lv_at hl 1 rfl) ?_
  refine lv_tableIn X.ex X.co dL_asked_1 (off := 123) (tgt := 124) (by decide) (by decide) (by decide) (by decide) ?_
  refine lv_aload_n X.ex X.co dL_asked_124 rfl (lv_at hl 0 rfl) ?_
  refine lv_iload_n X.ex X.co dL_asked_125 rfl (lv_at hl 2 rfl) ?_
  refine x_V X ce_X9_dayOf mn_51 (c_X9_dayOf l hst G A hAg b σ hI hJ h0 p0) g0 F hfB rfl (by decide) rfl hl.1 rfl (Nat.le_of_ble_eq_true rfl) dL_asked_126 (by omega) (by omega) hS (fun _ h => h) hno (fun E H1 hB hz hq => hB) (fun v0 H locs hB hz hk9 hS => ?_)
  obtain ⟨rfl, hk0, hCB⟩ := hB
  exact vx_ret (c_i X hS rfl rfl ⟨rfl, hk0, hCB⟩ (by omega) (by omega) dL_asked_129)
set_option maxHeartbeats 4000000 in
set_option maxRecDepth 100000 in
theorem c_L_asked_8 (l : Launch) (hst : l.stackTraces = false) (G : GT) (A : Nat → Prop) (hAg : ∀ q, A q → gA G q) (b : Nat) (σ : Sg) (hI : MI σ) (hJ : MJ σ) (h0 : σ.1 0 0 = 0) (p0 p1 : Int32) : xM l yL_asked cL_asked 4 (some .int) 6 2 9 G [.ref b, .int 8, .int p0, .int p1] (fun H => CB G A b σ H ∧ ∀ q, H.size ≤ q → A q) (fB G A b (fBestAnswer σ p0 p1)) (fX ["java/lang/IndexOutOfBoundsException", "java/util/NoSuchElementException"] G A b (fBestAnswer σ p0 p1)) A := by
  refine mk_x (by decide) (Nat.le_of_ble_eq_true rfl) ?_
  intro p e s m args below meth c X ls hl g0 F hno
  have hS : va_S A s.heap s.heap [] := va_S.rf
  obtain ⟨fsB, hfB⟩ := CB_at F.1
  have hl : lv_has ls 4 [(0, .ref b), (1, .int 8), (2, .int p0), (3, .int p1)] := hl
  show Wx p l e 6 2 9 s m args below meth c (fB G A b (fBestAnswer σ p0 p1)) (fX ["java/lang/IndexOutOfBoundsException", "java/util/NoSuchElementException"] G A b (fBestAnswer σ p0 p1)) A s.heap [] 0 0 0 ls []
  refine lv_iload_n X.ex X.co dL_asked_0 rfl (lv_at hl 1 rfl) ?_
  refine lv_tableIn X.ex X.co dL_asked_1 (off := 129) (tgt := 130) (by decide) (by decide) (by decide) (by decide) ?_
  refine lv_aload_n X.ex X.co dL_asked_130 rfl (lv_at hl 0 rfl) ?_
  refine lv_iload_n X.ex X.co dL_asked_131 rfl (lv_at hl 2 rfl) ?_
  refine lv_iload_n X.ex X.co dL_asked_132 rfl (lv_at hl 3 rfl) ?_
  refine x_V X ce_X9_bestAnswer mn_52 (c_X9_bestAnswer l hst G A hAg b σ hI hJ h0 p0 p1) g0 F hfB rfl (by decide) rfl hl.1 rfl (Nat.le_of_ble_eq_true rfl) dL_asked_133 (by omega) (by omega) hS (fun _ h => h) hno (fun E H1 hB hz hq => hB) (fun v0 H locs hB hz hk9 hS => ?_)
  obtain ⟨rfl, hk0, hCB⟩ := hB
  exact vx_ret (c_i X hS rfl rfl ⟨rfl, hk0, hCB⟩ (by omega) (by omega) dL_asked_136)
set_option maxHeartbeats 4000000 in
set_option maxRecDepth 100000 in
theorem c_L_asked_9 (l : Launch) (hst : l.stackTraces = false) (G : GT) (A : Nat → Prop) (hAg : ∀ q, A q → gA G q) (b : Nat) (σ : Sg) (hI : MI σ) (hJ : MJ σ) (h0 : σ.1 0 0 = 0) (p0 p1 : Int32) : xM l yL_asked cL_asked 4 (some .int) 6 2 9 G [.ref b, .int 9, .int p0, .int p1] (fun H => CB G A b σ H ∧ ∀ q, H.size ≤ q → A q) (fB G A b (fMastery σ p0 p1)) (fX ["java/lang/IndexOutOfBoundsException"] G A b (fMastery σ p0 p1)) A := by
  refine mk_x (by decide) (Nat.le_of_ble_eq_true rfl) ?_
  intro p e s m args below meth c X ls hl g0 F hno
  have hS : va_S A s.heap s.heap [] := va_S.rf
  obtain ⟨fsB, hfB⟩ := CB_at F.1
  have hl : lv_has ls 4 [(0, .ref b), (1, .int 9), (2, .int p0), (3, .int p1)] := hl
  show Wx p l e 6 2 9 s m args below meth c (fB G A b (fMastery σ p0 p1)) (fX ["java/lang/IndexOutOfBoundsException"] G A b (fMastery σ p0 p1)) A s.heap [] 0 0 0 ls []
  refine lv_iload_n X.ex X.co dL_asked_0 rfl (lv_at hl 1 rfl) ?_
  refine lv_tableIn X.ex X.co dL_asked_1 (off := 136) (tgt := 137) (by decide) (by decide) (by decide) (by decide) ?_
  refine lv_aload_n X.ex X.co dL_asked_137 rfl (lv_at hl 0 rfl) ?_
  refine lv_iload_n X.ex X.co dL_asked_138 rfl (lv_at hl 2 rfl) ?_
  refine lv_iload_n X.ex X.co dL_asked_139 rfl (lv_at hl 3 rfl) ?_
  refine x_V X ce_X9_mastery mn_53 (c_X9_mastery l hst G A hAg b σ hI hJ h0 p0 p1) g0 F hfB rfl (by decide) rfl hl.1 rfl (Nat.le_of_ble_eq_true rfl) dL_asked_140 (by omega) (by omega) hS (fun _ h => h) hno (fun E H1 hB hz hq => hB) (fun v0 H locs hB hz hk9 hS => ?_)
  obtain ⟨rfl, hk0, hCB⟩ := hB
  exact vx_ret (c_i X hS rfl rfl ⟨rfl, hk0, hCB⟩ (by omega) (by omega) dL_asked_143)
set_option maxHeartbeats 4000000 in
set_option maxRecDepth 100000 in
theorem c_L_asked_10 (l : Launch) (hst : l.stackTraces = false) (G : GT) (A : Nat → Prop) (hAg : ∀ q, A q → gA G q) (b : Nat) (σ : Sg) (hI : MI σ) (hJ : MJ σ) (h0 : σ.1 0 0 = 0) (p0 p1 : Int32) : xM l yL_asked cL_asked 4 (some .int) 6 1 6 G [.ref b, .int 10, .int p0, .int p1] (fun H => CB G A b σ H ∧ ∀ q, H.size ≤ q → A q) (fB G A b (fMastery σ p0 p1)) (fX ["java/lang/IndexOutOfBoundsException"] G A b (fMastery σ p0 p1)) A := by
  refine mk_x (by decide) (Nat.le_of_ble_eq_true rfl) ?_
  intro p e s m args below meth c X ls hl g0 F hno
  have hS : va_S A s.heap s.heap [] := va_S.rf
  obtain ⟨fsB, hfB⟩ := CB_at F.1
  have hl : lv_has ls 4 [(0, .ref b), (1, .int 10), (2, .int p0), (3, .int p1)] := hl
  show Wx p l e 6 1 6 s m args below meth c (fB G A b (fMastery σ p0 p1)) (fX ["java/lang/IndexOutOfBoundsException"] G A b (fMastery σ p0 p1)) A s.heap [] 0 0 0 ls []
  refine lv_iload_n X.ex X.co dL_asked_0 rfl (lv_at hl 1 rfl) ?_
  refine lv_tableIn X.ex X.co dL_asked_1 (off := 143) (tgt := 144) (by decide) (by decide) (by decide) (by decide) ?_
  refine lv_aload_n X.ex X.co dL_asked_144 rfl (lv_at hl 0 rfl) ?_
  refine lv_iload_n X.ex X.co dL_asked_145 rfl (lv_at hl 2 rfl) ?_
  refine lv_iload_n X.ex X.co dL_asked_146 rfl (lv_at hl 3 rfl) ?_
  refine x_V X ce_X9_masteryAnew mn_54 (c_X9_masteryAnew l hst G A hAg b σ hI hJ h0 p0 p1) g0 F hfB rfl (by decide) rfl hl.1 rfl (Nat.le_of_ble_eq_true rfl) dL_asked_147 (by omega) (by omega) hS (fun _ h => h) hno (fun E H1 hB hz hq => hB) (fun v0 H locs hB hz hk9 hS => ?_)
  obtain ⟨rfl, hk0, hCB⟩ := hB
  exact vx_ret (c_i X hS rfl rfl ⟨rfl, hk0, hCB⟩ (by omega) (by omega) dL_asked_150)
set_option maxHeartbeats 4000000 in
set_option maxRecDepth 100000 in
theorem c_L_asked_11 (l : Launch) (hst : l.stackTraces = false) (G : GT) (A : Nat → Prop) (hAg : ∀ q, A q → gA G q) (b : Nat) (σ : Sg) (hI : MI σ) (hJ : MJ σ) (h0 : σ.1 0 0 = 0) (p0 p1 : Int32) : xM l yL_asked cL_asked 4 (some .int) 5 1 6 G [.ref b, .int 11, .int p0, .int p1] (fun H => CB G A b σ H ∧ ∀ q, H.size ≤ q → A q) (fB G A b (fAppealAt σ p0)) (fX ["java/lang/IndexOutOfBoundsException"] G A b (fAppealAt σ p0)) A := by
  refine mk_x (by decide) (Nat.le_of_ble_eq_true rfl) ?_
  intro p e s m args below meth c X ls hl g0 F hno
  have hS : va_S A s.heap s.heap [] := va_S.rf
  obtain ⟨fsB, hfB⟩ := CB_at F.1
  have hl : lv_has ls 4 [(0, .ref b), (1, .int 11), (2, .int p0), (3, .int p1)] := hl
  show Wx p l e 5 1 6 s m args below meth c (fB G A b (fAppealAt σ p0)) (fX ["java/lang/IndexOutOfBoundsException"] G A b (fAppealAt σ p0)) A s.heap [] 0 0 0 ls []
  refine lv_iload_n X.ex X.co dL_asked_0 rfl (lv_at hl 1 rfl) ?_
  refine lv_tableIn X.ex X.co dL_asked_1 (off := 150) (tgt := 151) (by decide) (by decide) (by decide) (by decide) ?_
  refine lv_aload_n X.ex X.co dL_asked_151 rfl (lv_at hl 0 rfl) ?_
  refine lv_iload_n X.ex X.co dL_asked_152 rfl (lv_at hl 2 rfl) ?_
  refine x_V X ce_X9_appealAt mn_55 (c_X9_appealAt l hst G A hAg b σ hI hJ h0 p0) g0 F hfB rfl (by decide) rfl hl.1 rfl (Nat.le_of_ble_eq_true rfl) dL_asked_153 (by omega) (by omega) hS (fun _ h => h) hno (fun E H1 hB hz hq => hB) (fun v0 H locs hB hz hk9 hS => ?_)
  obtain ⟨rfl, hk0, hCB⟩ := hB
  exact vx_ret (c_i X hS rfl rfl ⟨rfl, hk0, hCB⟩ (by omega) (by omega) dL_asked_156)
set_option maxHeartbeats 4000000 in
set_option maxRecDepth 100000 in
theorem c_L_asked_12 (l : Launch) (hst : l.stackTraces = false) (G : GT) (A : Nat → Prop) (hAg : ∀ q, A q → gA G q) (b : Nat) (σ : Sg) (hI : MI σ) (hJ : MJ σ) (h0 : σ.1 0 0 = 0) (p0 p1 : Int32) : xM l yL_asked cL_asked 4 (some .int) 5 1 6 G [.ref b, .int 12, .int p0, .int p1] (fun H => CB G A b σ H ∧ ∀ q, H.size ≤ q → A q) (fB G A b (fHarmedAt σ p0)) (fX ["java/lang/IndexOutOfBoundsException"] G A b (fHarmedAt σ p0)) A := by
  refine mk_x (by decide) (Nat.le_of_ble_eq_true rfl) ?_
  intro p e s m args below meth c X ls hl g0 F hno
  have hS : va_S A s.heap s.heap [] := va_S.rf
  obtain ⟨fsB, hfB⟩ := CB_at F.1
  have hl : lv_has ls 4 [(0, .ref b), (1, .int 12), (2, .int p0), (3, .int p1)] := hl
  show Wx p l e 5 1 6 s m args below meth c (fB G A b (fHarmedAt σ p0)) (fX ["java/lang/IndexOutOfBoundsException"] G A b (fHarmedAt σ p0)) A s.heap [] 0 0 0 ls []
  refine lv_iload_n X.ex X.co dL_asked_0 rfl (lv_at hl 1 rfl) ?_
  refine lv_tableIn X.ex X.co dL_asked_1 (off := 156) (tgt := 157) (by decide) (by decide) (by decide) (by decide) ?_
  refine lv_aload_n X.ex X.co dL_asked_157 rfl (lv_at hl 0 rfl) ?_
  refine lv_iload_n X.ex X.co dL_asked_158 rfl (lv_at hl 2 rfl) ?_
  refine x_V X ce_X9_harmedAt mn_56 (c_X9_harmedAt l hst G A hAg b σ hI hJ h0 p0) g0 F hfB rfl (by decide) rfl hl.1 rfl (Nat.le_of_ble_eq_true rfl) dL_asked_159 (by omega) (by omega) hS (fun _ h => h) hno (fun E H1 hB hz hq => hB) (fun v0 H locs hB hz hk9 hS => ?_)
  obtain ⟨rfl, hk0, hCB⟩ := hB
  exact vx_ret (c_i X hS rfl rfl ⟨rfl, hk0, hCB⟩ (by omega) (by omega) dL_asked_162)
set_option maxHeartbeats 4000000 in
set_option maxRecDepth 100000 in
theorem c_L_asked_13 (l : Launch) (hst : l.stackTraces = false) (G : GT) (A : Nat → Prop) (hAg : ∀ q, A q → gA G q) (b : Nat) (σ : Sg) (hI : MI σ) (hJ : MJ σ) (h0 : σ.1 0 0 = 0) (p0 p1 : Int32) : xM l yL_asked cL_asked 4 (some .int) 5 1 6 G [.ref b, .int 13, .int p0, .int p1] (fun H => CB G A b σ H ∧ ∀ q, H.size ≤ q → A q) (fB G A b (fDoesStand σ p0)) (fX ["java/lang/IndexOutOfBoundsException"] G A b (fDoesStand σ p0)) A := by
  refine mk_x (by decide) (Nat.le_of_ble_eq_true rfl) ?_
  intro p e s m args below meth c X ls hl g0 F hno
  have hS : va_S A s.heap s.heap [] := va_S.rf
  obtain ⟨fsB, hfB⟩ := CB_at F.1
  have hl : lv_has ls 4 [(0, .ref b), (1, .int 13), (2, .int p0), (3, .int p1)] := hl
  show Wx p l e 5 1 6 s m args below meth c (fB G A b (fDoesStand σ p0)) (fX ["java/lang/IndexOutOfBoundsException"] G A b (fDoesStand σ p0)) A s.heap [] 0 0 0 ls []
  refine lv_iload_n X.ex X.co dL_asked_0 rfl (lv_at hl 1 rfl) ?_
  refine lv_tableIn X.ex X.co dL_asked_1 (off := 162) (tgt := 163) (by decide) (by decide) (by decide) (by decide) ?_
  refine lv_aload_n X.ex X.co dL_asked_163 rfl (lv_at hl 0 rfl) ?_
  refine lv_iload_n X.ex X.co dL_asked_164 rfl (lv_at hl 2 rfl) ?_
  refine x_V X ce_X9_doesStand mn_57 (c_X9_doesStand l hst G A hAg b σ hI hJ h0 p0) g0 F hfB rfl (by decide) rfl hl.1 rfl (Nat.le_of_ble_eq_true rfl) dL_asked_165 (by omega) (by omega) hS (fun _ h => h) hno (fun E H1 hB hz hq => hB) (fun v0 H locs hB hz hk9 hS => ?_)
  obtain ⟨rfl, hk0, hCB⟩ := hB
  refine q_rS X ce_L_told mn_58 (c_L_told l G _ (ds_01 σ p0)) (g0.step hS hAg) trivial (by decide) rfl hl.1 rfl (Nat.le_of_ble_eq_true rfl) dL_asked_168 (by omega) (by omega) ?_
  exact vx_ret (c_i X hS rfl rfl ⟨rfl, hk0, hCB⟩ (by omega) (by omega) dL_asked_171)
set_option maxHeartbeats 4000000 in
set_option maxRecDepth 100000 in
theorem c_L_asked_14 (l : Launch) (hst : l.stackTraces = false) (G : GT) (A : Nat → Prop) (hAg : ∀ q, A q → gA G q) (b : Nat) (σ : Sg) (hI : MI σ) (hJ : MJ σ) (h0 : σ.1 0 0 = 0) (p0 p1 : Int32) : xM l yL_asked cL_asked 4 (some .int) 6 1 6 G [.ref b, .int 14, .int p0, .int p1] (fun H => CB G A b σ H ∧ ∀ q, H.size ≤ q → A q) (fB G A b (fCertificateOf σ p0 p1)) (fX ["java/lang/IndexOutOfBoundsException", "java/util/NoSuchElementException"] G A b (fCertificateOf σ p0 p1)) A := by
  refine mk_x (by decide) (Nat.le_of_ble_eq_true rfl) ?_
  intro p e s m args below meth c X ls hl g0 F hno
  have hS : va_S A s.heap s.heap [] := va_S.rf
  obtain ⟨fsB, hfB⟩ := CB_at F.1
  have hl : lv_has ls 4 [(0, .ref b), (1, .int 14), (2, .int p0), (3, .int p1)] := hl
  show Wx p l e 6 1 6 s m args below meth c (fB G A b (fCertificateOf σ p0 p1)) (fX ["java/lang/IndexOutOfBoundsException", "java/util/NoSuchElementException"] G A b (fCertificateOf σ p0 p1)) A s.heap [] 0 0 0 ls []
  refine lv_iload_n X.ex X.co dL_asked_0 rfl (lv_at hl 1 rfl) ?_
  refine lv_tableIn X.ex X.co dL_asked_1 (off := 171) (tgt := 172) (by decide) (by decide) (by decide) (by decide) ?_
  refine lv_aload_n X.ex X.co dL_asked_172 rfl (lv_at hl 0 rfl) ?_
  refine lv_iload_n X.ex X.co dL_asked_173 rfl (lv_at hl 2 rfl) ?_
  refine lv_iload_n X.ex X.co dL_asked_174 rfl (lv_at hl 3 rfl) ?_
  refine x_V X ce_X9_certificateOf mn_61 (c_X9_certificateOf l hst G A hAg b σ hI hJ h0 p0 p1) g0 F hfB rfl (by decide) rfl hl.1 rfl (Nat.le_of_ble_eq_true rfl) dL_asked_175 (by omega) (by omega) hS (fun _ h => h) hno (fun E H1 hB hz hq => hB) (fun v0 H locs hB hz hk9 hS => ?_)
  obtain ⟨rfl, hk0, hCB⟩ := hB
  exact vx_ret (c_i X hS rfl rfl ⟨rfl, hk0, hCB⟩ (by omega) (by omega) dL_asked_178)
set_option maxHeartbeats 4000000 in
set_option maxRecDepth 100000 in
theorem c_L_asked_15 (l : Launch) (hst : l.stackTraces = false) (G : GT) (A : Nat → Prop) (hAg : ∀ q, A q → gA G q) (b : Nat) (σ : Sg) (hI : MI σ) (hJ : MJ σ) (h0 : σ.1 0 0 = 0) (p0 p1 : Int32) : xM l yL_asked cL_asked 4 (some .int) 8 8 2200 G [.ref b, .int 15, .int p0, .int p1] (fun H => CB G A b σ H ∧ ∀ q, H.size ≤ q → A q) (fB G A b (fWriteAnswer σ p0)) (fX ["java/lang/IndexOutOfBoundsException"] G A b (fWriteAnswer σ p0)) A := by
  refine mk_x (by decide) (Nat.le_of_ble_eq_true rfl) ?_
  intro p e s m args below meth c X ls hl g0 F hno
  have hS : va_S A s.heap s.heap [] := va_S.rf
  obtain ⟨fsB, hfB⟩ := CB_at F.1
  have hl : lv_has ls 4 [(0, .ref b), (1, .int 15), (2, .int p0), (3, .int p1)] := hl
  show Wx p l e 8 8 2200 s m args below meth c (fB G A b (fWriteAnswer σ p0)) (fX ["java/lang/IndexOutOfBoundsException"] G A b (fWriteAnswer σ p0)) A s.heap [] 0 0 0 ls []
  refine lv_iload_n X.ex X.co dL_asked_0 rfl (lv_at hl 1 rfl) ?_
  refine lv_tableIn X.ex X.co dL_asked_1 (off := 178) (tgt := 179) (by decide) (by decide) (by decide) (by decide) ?_
  refine lv_aload_n X.ex X.co dL_asked_179 rfl (lv_at hl 0 rfl) ?_
  refine lv_iload_n X.ex X.co dL_asked_180 rfl (lv_at hl 2 rfl) ?_
  refine x_V X ce_X9_writeAnswer mn_62 (c_X9_writeAnswer l hst G A hAg b σ hI hJ h0 p0) g0 F hfB rfl (by decide) rfl hl.1 rfl (Nat.le_of_ble_eq_true rfl) dL_asked_181 (by omega) (by omega) hS (fun _ h => h) hno (fun E H1 hB hz hq => hB) (fun v0 H locs hB hz hk9 hS => ?_)
  obtain ⟨rfl, hk0, hCB⟩ := hB
  exact vx_ret (c_i X hS rfl rfl ⟨rfl, hk0, hCB⟩ (by omega) (by omega) dL_asked_184)
