/-! ===== numbers with points: no NaN is made ===== -/
theorem fp_n64 {r : UInt64} (h : FP.Core.dIsNaN r = false) : vf_n64 r := by
  have h1 : ¬ 9218868437227405312 < r.toNat % 2 ^ 63 := fun z => by
    have := (FP.Core.isNaN_bits r).mpr z
    rw [h] at this
    cases this
  unfold vf_n64
  rw [UInt64.le_iff_toNat_le, UInt64.toNat_and]
  have e : (0x7fffffffffffffff : UInt64).toNat = 2 ^ 63 - 1 := by decide
  have e2 : (0x7ff0000000000000 : UInt64).toNat = 9218868437227405312 := by decide
  rw [e, e2, Nat.and_two_pow_sub_one_eq_mod]
  omega
theorem fp_n32 {r : UInt32} (h : FP.Core.fIsNaN r = false) : vf_n32 r := by
  have h1 : ¬ 2139095040 < r.toNat % 2 ^ 31 := fun z => by
    have := (FP.Core.isNaN_bits32 r).mpr z
    rw [h] at this
    cases this
  unfold vf_n32
  rw [UInt32.le_iff_toNat_le, UInt32.toNat_and]
  have e : (0x7fffffff : UInt32).toNat = 2 ^ 31 - 1 := by decide
  have e2 : (0x7f800000 : UInt32).toNat = 2139095040 := by decide
  rw [e, e2, Nat.and_two_pow_sub_one_eq_mod]
  omega
theorem fp_dout (a : Int32) {n : Int32} (hn : n ≠ 0) : FP.Core.dIsNaN (FP.ddiv (FP.i2d a) (FP.i2d n)) = false := by
  refine FP.Core.ddiv_out ?_ (FP.Core.i2d_fin n) ?_
  · have h := (FP.Core.fin_bits _).mp (FP.Core.i2d_fin a)
    cases hc : FP.Core.dIsNaN (FP.i2d a) with
    | false => rfl
    | true =>
      have := (FP.Core.isNaN_bits _).mp hc
      have h2 : (FP.i2d a).toNat % 2 ^ 63 < 9218868437227405312 := h
      omega
  · intro z
    exact FP.Core.i2d_ne_zero hn ((FP.Core.zero_bits2 _).mp z)
theorem fp_fout (a : Int32) {n : Int32} (hn : n ≠ 0) : FP.Core.fIsNaN (FP.fdiv (FP.i2f a) (FP.i2f n)) = false := by
  refine FP.Core.fdiv_out ?_ (FP.Core.i2f_fin n) ?_
  · have h := (FP.Core.fin_bits32 _).mp (FP.Core.i2f_fin a)
    cases hc : FP.Core.fIsNaN (FP.i2f a) with
    | false => rfl
    | true =>
      have := (FP.Core.isNaN_bits32 _).mp hc
      have h2 : (FP.i2f a).toNat % 2 ^ 31 < 2139095040 := h
      omega
  · intro z
    exact FP.Core.i2f_ne_zero hn ((FP.Core.zero_bits232 _).mp z)
theorem fp_mean (a : Int32) {n : Int32} (hn : n ≠ 0) : vf_n64 (FP.ddiv (FP.i2d a) (FP.i2d n)) := fp_n64 (fp_dout a hn)
theorem fp_share (a : Int32) {n : Int32} (hn : n ≠ 0) : vf_n32 (FP.fdiv (FP.i2f a) (FP.i2f n)) := fp_n32 (fp_fout a hn)
section FPENDS
variable {p : Program} {l : Launch} {e : Env} {s : State} {m : MethodId} {args : Array Value} {below : List Frame} {meth : Method} {c : Code} {H : Heap} {locs : List Loc} {cells slots : Nat}
variable {cc : ByteArray} {pc nL : Nat} {ls : Array Slot} {own : String} {ret : Option FieldType} {A : Nat → Prop}
theorem c_d (X : CF p s m args meth c cc nL own ret) {R : Room} {mc ms : Nat} {B : Option Value → Heap → Prop} {v : UInt64} (hS : va_S A s.heap H locs) (hr : ret = some .double) (hB : B (some (.double v)) H) (h1 : cells ≤ mc) (h2 : slots ≤ ms) (hdg : decode cc pc = .ok (.dreturn, 1)) : W p l e R s m args below meth c H locs cells slots (MQ below (cQ B A) args s mc ms A) (F0 m pc ls [.double v]) :=
  W.widen h1 h2 (W.dret X.ex X.co (X.rt.trans hr) (fun t ht _ => ⟨_, rfl, by rw [ht]; exact hB, by rw [va_F, ht]; exact ⟨hS.1, hS.2.1⟩⟩) hS.2.2 hdg X.lk)
theorem c_f (X : CF p s m args meth c cc nL own ret) {R : Room} {mc ms : Nat} {B : Option Value → Heap → Prop} {v : UInt32} (hS : va_S A s.heap H locs) (hr : ret = some .float) (hB : B (some (.float v)) H) (h1 : cells ≤ mc) (h2 : slots ≤ ms) (hdg : decode cc pc = .ok (.freturn, 1)) : W p l e R s m args below meth c H locs cells slots (MQ below (cQ B A) args s mc ms A) (F0 m pc ls [.float v]) :=
  W.widen h1 h2 (W.fret X.ex X.co (X.rt.trans hr) (fun t ht _ => ⟨_, rfl, by rw [ht]; exact hB, by rw [va_F, ht]; exact ⟨hS.1, hS.2.1⟩⟩) hS.2.2 hdg X.lk)
end FPENDS
def fMeanGrade (σ : Sg) : UInt64 × Sg := if nAn σ = 0 then (FP.dconst0, sN σ 0 0 1) else (FP.ddiv (FP.i2d (graSum σ (nAn σ))) (FP.i2d (nI (nAn σ))), σ)
def fStandingShare (σ : Sg) : UInt32 × Sg := if nCe σ = 0 then (FP.fconst0, sN σ 0 0 1) else (FP.fdiv (FP.i2f (nI (nCe σ) - nI (revS σ (nCe σ)))) (FP.i2f (nI (nCe σ))), σ)
set_option maxHeartbeats 4000000 in
set_option maxRecDepth 100000 in
theorem c_X10_meanGrade (l : Launch) (G : GT) (mad : I2 → Nat) (A : Nat → Prop) (hAg : ∀ q, A q → gA G q) (τ σ : Sg) (hσ : σ = sN τ 0 0 0) (hI : MI σ) : cM l yX10_meanGrade cX10_meanGrade 3 ((Option.some FieldType.double)) 2 0 0 G [.ref (mad (0, 0))] (mw G mad A τ) (eB (some (.double (fMeanGrade σ).1)) (mw G mad A (fMeanGrade σ).2)) A := by
  refine mk_m (by decide) (Nat.le_of_ble_eq_true rfl) ?_
  intro p e s m args below meth c X ls hl g0 F hnm
  have hK := g0.1
  have hS : va_S A s.heap s.heap [] := va_S.rf
  have hI0 := hI.1
  obtain ⟨b1, b2, b3, b4, b5, b6, b7⟩ := hI0.1
  obtain ⟨b8, b9, b10⟩ := hI.2.1
  have hapb := hI.apb
  have h0 : σ.1 0 0 = 0 := by rw [hσ]; simp [sN]
  have hl : lv_has ls 3 [(0, .ref (mad (0, 0)))] := hl
  show Wc p l e 2 0 0 s m args below meth c (eB (some (.double (fMeanGrade σ).1)) (mw G mad A (fMeanGrade σ).2)) A s.heap [] 0 0 0 ls []
  refine lv_aload_n X.ex X.co dX10_meanGrade_0 rfl (lv_at hl 0 rfl) ?_
  refine lv_iconst (v := 0) X.ex X.co dX10_meanGrade_1 (by decide) ?_
  refine m_putN X hK F hS 0 (by decide) rfl rfl (v := 0) m_1351 rfl rfl (by decide) dX10_meanGrade_2 (fun H locs F hS => ?_)
  rw [← hσ] at F
  clear hσ
  refine lv_iconst (v := 0) X.ex X.co dX10_meanGrade_5 (by decide) ?_
  refine lv_istore_n (lv' := [(1, .int 0), (0, .ref (mad (0, 0)))]) X.ex X.co dX10_meanGrade_6 rfl hl (by decide) rfl (fun ls hl => ?_)
  refine lv_iconst (v := 0) X.ex X.co dX10_meanGrade_7 (by decide) ?_
  refine lv_istore_n (lv' := [(2, .int 0), (1, .int 0), (0, .ref (mad (0, 0)))]) X.ex X.co dX10_meanGrade_8 rfl hl (by decide) rfl (fun ls hl => ?_)
  have loop_2 : ∀ (fu_1 i : Nat), i ≤ nAn σ → nAn σ < i + fu_1 → ∀ ls : Array Slot, lv_has ls 3 [(2, .int (nI i)), (1, .int (graSum σ i)), (0, .ref (mad (0, 0)))] → Wc p l e 2 0 0 s m args below meth c (eB (some (.double (fMeanGrade σ).1)) (mw G mad A (fMeanGrade σ).2)) A H locs 0 0 9 ls [] := by
    intro fu_1
    induction fu_1 with
    | zero => intro i h_4 h_5; exact absurd h_5 (by omega)
    | succ fu_1 ih_3 =>
      intro i h_4 h_5 ls hl
      refine lv_iload_n X.ex X.co dX10_meanGrade_9 rfl (lv_at hl 0 rfl) ?_
      refine lv_aload_n X.ex X.co dX10_meanGrade_10 rfl (lv_at hl 2 rfl) ?_
      refine m_getN X hK F 19 (by decide) rfl rfl (x := nAn σ) rfl m_1370 rfl dX10_meanGrade_11 ?_
      refine n_cmp_ge X (x := i) (y := nAn σ) (tgt := 31) (by omega) (by omega) dX10_meanGrade_14 (by decide) (fun c_6 => ?_) (fun c_6 => ?_)
      · have hq_7 : i = nAn σ := by omega
        rw [hq_7] at hl
        refine lv_aload_n X.ex X.co dX10_meanGrade_31 rfl (lv_at hl 2 rfl) ?_
        refine lv_aload_n X.ex X.co dX10_meanGrade_32 rfl (lv_at hl 2 rfl) ?_
        refine m_getN X hK F 19 (by decide) rfl rfl (x := nAn σ) rfl m_1370 rfl dX10_meanGrade_33 ?_
        refine n_if_ne X (x := nAn σ) (tgt := 43) (by omega) dX10_meanGrade_36 (by decide) (fun c_8 => ?_) (fun c_8 => ?_)
        · refine lv_iconst (v := 0) X.ex X.co dX10_meanGrade_43 (by decide) ?_
          refine lv_iconst (v := 1) X.ex X.co dX10_meanGrade_44 (by decide) ?_
          refine q_eV X ce_X10_fails m_1497 (c_X10_fails l G mad A hAg σ h0 false 1 (by decide) (by decide)) (g0.step hS hAg) F (mo F) rfl (by decide) rfl hl.1 rfl (Nat.le_of_ble_eq_true rfl) dX10_meanGrade_45 (by omega) (by omega) hS (fun _ h => h) (fun H locs F hz hk hS => ?_)
          have F : mw G mad A σ H := F
          refine lv_if_eq (tgt := 55) X.ex X.co dX10_meanGrade_48 (by decide) (fun c_9 => ?_) (fun c_9 => ?_)
          · have hne : ¬ nAn σ = 0 := by omega
            refine lv_iload_n X.ex X.co dX10_meanGrade_55 rfl (lv_at hl 1 rfl) ?_
            refine lv_i2d X.ex X.co dX10_meanGrade_56 ?_
            refine lv_aload_n X.ex X.co dX10_meanGrade_57 rfl (lv_at hl 2 rfl) ?_
            refine m_getN X hK F 19 (by decide) rfl rfl (x := nAn σ) rfl m_1370 rfl dX10_meanGrade_58 ?_
            refine lv_i2d X.ex X.co dX10_meanGrade_61 ?_
            refine lv_ddiv X.ex X.co dX10_meanGrade_62 (fp_mean _ (nI_nz (by omega) (by omega))) ?_
            exact c_d X hS rfl (by have q : fMeanGrade σ = ((FP.ddiv (FP.i2d (graSum σ (nAn σ))) (FP.i2d (nI (nAn σ)))), σ) := (by simp only [fMeanGrade]; simp [err, *]); unfold eB; rw [q]; exact ⟨rfl, F⟩) (by omega) (by omega) dX10_meanGrade_63
          · exact absurd (by decide) c_9
        · refine lv_iconst (v := 1) X.ex X.co dX10_meanGrade_39 (by decide) ?_
          refine lv_goto (tgt := 44) X.ex X.co dX10_meanGrade_40 (by decide) ?_
          refine lv_iconst (v := 1) X.ex X.co dX10_meanGrade_44 (by decide) ?_
          refine q_eV X ce_X10_fails m_1497 (c_X10_fails l G mad A hAg σ h0 true 1 (by decide) (by decide)) (g0.step hS hAg) F (mo F) rfl (by decide) rfl hl.1 rfl (Nat.le_of_ble_eq_true rfl) dX10_meanGrade_45 (by omega) (by omega) hS (fun _ h => h) (fun H locs F hz hk hS => ?_)
          have F : mw G mad A (sN σ 0 0 1) H := F
          refine lv_if_eq (tgt := 55) X.ex X.co dX10_meanGrade_48 (by decide) (fun c_10 => ?_) (fun c_10 => ?_)
          · exact absurd c_10 (by decide)
          · refine lv_dconst0 X.ex X.co dX10_meanGrade_51 ?_
            refine lv_goto (tgt := 63) X.ex X.co dX10_meanGrade_52 (by decide) ?_
            exact c_d X hS rfl (by have q : fMeanGrade σ = (FP.dconst0, (sN σ 0 0 1)) := (by simp only [fMeanGrade]; simp [err, *]); unfold eB; rw [q]; exact ⟨rfl, F⟩) (by omega) (by omega) dX10_meanGrade_63
      · refine lv_iload_n X.ex X.co dX10_meanGrade_17 rfl (lv_at hl 1 rfl) ?_
        refine lv_aload_n X.ex X.co dX10_meanGrade_18 rfl (lv_at hl 2 rfl) ?_
        refine lv_iload_n X.ex X.co dX10_meanGrade_19 rfl (lv_at hl 0 rfl) ?_
        refine q_rV X ce_X10_grade m_1564 (c_X10_grade l G mad A σ hI0 i (by omega)) (g0.step hS hAg) F (mo F) rfl (by decide) rfl hl.1 rfl (Nat.le_of_ble_eq_true rfl) dX10_meanGrade_20 (by omega) (by omega) ?_
        refine lv_iadd X.ex X.co dX10_meanGrade_23 ?_
        refine lv_istore_n (lv' := [(1, .int ((graSum σ i) + (grade σ i))), (2, .int (nI i)), (0, .ref (mad (0, 0)))]) X.ex X.co dX10_meanGrade_24 rfl hl (by decide) rfl (fun ls hl => ?_)
        refine lv_iinc (v := nI (i + 1)) (lv' := [(2, .int (nI (i + 1))), (1, .int ((graSum σ i) + (grade σ i))), (0, .ref (mad (0, 0)))]) X.ex X.co dX10_meanGrade_25 hl (k := 1) rfl (n_inc _) (by decide) rfl (fun ls hl => ?_)
        refine lv_goto (tgt := 9) X.ex X.co dX10_meanGrade_28 (by decide) ?_
        have q_11 : (graSum σ (i + 1)) = ((graSum σ i) + (grade σ i)) := by first | rfl | simp [graSum, *]
        exact ih_3 (i + 1) (by omega) (by omega) ls (lv_sub hl [0, 1, 2] (by first | rfl | (rw [q_11] <;> rfl)))
  exact loop_2 (nAn σ + 1) 0 (by omega) (by omega) ls (lv_sub hl [0, 1, 2] rfl)
set_option maxHeartbeats 4000000 in
set_option maxRecDepth 100000 in
theorem c_X10_standingShare (l : Launch) (G : GT) (mad : I2 → Nat) (A : Nat → Prop) (hAg : ∀ q, A q → gA G q) (τ σ : Sg) (hσ : σ = sN τ 0 0 0) (hI : MI σ) : cM l yX10_standingShare cX10_standingShare 1 ((Option.some FieldType.float)) 1 0 0 G [.ref (mad (0, 0))] (mw G mad A τ) (eB (some (.float (fStandingShare σ).1)) (mw G mad A (fStandingShare σ).2)) A := by
  refine mk_m (by decide) (Nat.le_of_ble_eq_true rfl) ?_
  intro p e s m args below meth c X ls hl g0 F hnm
  have hK := g0.1
  have hS : va_S A s.heap s.heap [] := va_S.rf
  have hI0 := hI.1
  obtain ⟨b1, b2, b3, b4, b5, b6, b7⟩ := hI0.1
  obtain ⟨b8, b9, b10⟩ := hI.2.1
  have hapb := hI.apb
  have h0 : σ.1 0 0 = 0 := by rw [hσ]; simp [sN]
  have hl : lv_has ls 1 [(0, .ref (mad (0, 0)))] := hl
  show Wc p l e 1 0 0 s m args below meth c (eB (some (.float (fStandingShare σ).1)) (mw G mad A (fStandingShare σ).2)) A s.heap [] 0 0 0 ls []
  refine lv_aload_n X.ex X.co dX10_standingShare_0 rfl (lv_at hl 0 rfl) ?_
  refine lv_iconst (v := 0) X.ex X.co dX10_standingShare_1 (by decide) ?_
  refine m_putN X hK F hS 0 (by decide) rfl rfl (v := 0) m_1351 rfl rfl (by decide) dX10_standingShare_2 (fun H locs F hS => ?_)
  rw [← hσ] at F
  clear hσ
  refine lv_aload_n X.ex X.co dX10_standingShare_5 rfl (lv_at hl 0 rfl) ?_
  refine lv_aload_n X.ex X.co dX10_standingShare_6 rfl (lv_at hl 0 rfl) ?_
  refine m_getN X hK F 35 (by decide) rfl rfl (x := nCe σ) rfl m_1386 rfl dX10_standingShare_7 ?_
  refine n_if_ne X (x := nCe σ) (tgt := 17) (by omega) dX10_standingShare_10 (by decide) (fun c_1 => ?_) (fun c_1 => ?_)
  · refine lv_iconst (v := 0) X.ex X.co dX10_standingShare_17 (by decide) ?_
    refine lv_iconst (v := 1) X.ex X.co dX10_standingShare_18 (by decide) ?_
    refine q_eV X ce_X10_fails m_1497 (c_X10_fails l G mad A hAg σ h0 false 1 (by decide) (by decide)) (g0.step hS hAg) F (mo F) rfl (by decide) rfl hl.1 rfl (Nat.le_of_ble_eq_true rfl) dX10_standingShare_19 (by omega) (by omega) hS (fun _ h => h) (fun H locs F hz hk hS => ?_)
    have F : mw G mad A σ H := F
    refine lv_if_eq (tgt := 29) X.ex X.co dX10_standingShare_22 (by decide) (fun c_2 => ?_) (fun c_2 => ?_)
    · have hne : ¬ nCe σ = 0 := by omega
      refine lv_aload_n X.ex X.co dX10_standingShare_29 rfl (lv_at hl 0 rfl) ?_
      refine m_getN X hK F 35 (by decide) rfl rfl (x := nCe σ) rfl m_1386 rfl dX10_standingShare_30 ?_
      refine lv_aload_n X.ex X.co dX10_standingShare_33 rfl (lv_at hl 0 rfl) ?_
      refine q_rV X ce_X10_revokedNow m_1698 (c_X10_revokedNow l G mad A σ hI0) (g0.step hS hAg) F (mo F) rfl (by decide) rfl hl.1 rfl (Nat.le_of_ble_eq_true rfl) dX10_standingShare_34 (by omega) (by omega) ?_
      refine lv_isub X.ex X.co dX10_standingShare_37 ?_
      refine lv_i2f X.ex X.co dX10_standingShare_38 ?_
      refine lv_aload_n X.ex X.co dX10_standingShare_39 rfl (lv_at hl 0 rfl) ?_
      refine m_getN X hK F 35 (by decide) rfl rfl (x := nCe σ) rfl m_1386 rfl dX10_standingShare_40 ?_
      refine lv_i2f X.ex X.co dX10_standingShare_43 ?_
      refine lv_fdiv X.ex X.co dX10_standingShare_44 (fp_share _ (nI_nz (by omega) (by omega))) ?_
      exact c_f X hS rfl (by have q : fStandingShare σ = ((FP.fdiv (FP.i2f (nI (nCe σ) - nI (revS σ (nCe σ)))) (FP.i2f (nI (nCe σ)))), σ) := (by simp only [fStandingShare]; simp [err, *]); unfold eB; rw [q]; exact ⟨rfl, F⟩) (by omega) (by omega) dX10_standingShare_45
    · exact absurd (by decide) c_2
  · refine lv_iconst (v := 1) X.ex X.co dX10_standingShare_13 (by decide) ?_
    refine lv_goto (tgt := 18) X.ex X.co dX10_standingShare_14 (by decide) ?_
    refine lv_iconst (v := 1) X.ex X.co dX10_standingShare_18 (by decide) ?_
    refine q_eV X ce_X10_fails m_1497 (c_X10_fails l G mad A hAg σ h0 true 1 (by decide) (by decide)) (g0.step hS hAg) F (mo F) rfl (by decide) rfl hl.1 rfl (Nat.le_of_ble_eq_true rfl) dX10_standingShare_19 (by omega) (by omega) hS (fun _ h => h) (fun H locs F hz hk hS => ?_)
    have F : mw G mad A (sN σ 0 0 1) H := F
    refine lv_if_eq (tgt := 29) X.ex X.co dX10_standingShare_22 (by decide) (fun c_3 => ?_) (fun c_3 => ?_)
    · exact absurd c_3 (by decide)
    · refine lv_fconst0 X.ex X.co dX10_standingShare_25 ?_
      refine lv_goto (tgt := 45) X.ex X.co dX10_standingShare_26 (by decide) ?_
      exact c_f X hS rfl (by have q : fStandingShare σ = (FP.fconst0, (sN σ 0 0 1)) := (by simp only [fStandingShare]; simp [err, *]); unfold eB; rw [q]; exact ⟨rfl, F⟩) (by omega) (by omega) dX10_standingShare_45
