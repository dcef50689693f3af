/-! ===== numbers with points: no NaN is made ===== -/
theorem fp_n64 {r : UInt64} (h : FP.Core.dIsNaN r = false) : vf_n64 r := by
  have h1 : ¬ 9218868437227405312 < r.toNat % 2 ^ 63 := fun z => by
    have := (FP.Core.isNaN_bits r).mpr z
    rw [h] at this
    cases this
  unfold vf_n64
  rw [UInt64.le_iff_toNat_le, UInt64.toNat_and]
  have e : (0x7fffffffffffffff : UInt64).toNat = 2 ^ 63 - 1 := by decide
  have e2 : (0x7ff0000000000000 : UInt64).toNat = 9218868437227405312 := by decide
  rw [e, e2, Nat.and_two_pow_sub_one_eq_mod]
  omega
theorem fp_n32 {r : UInt32} (h : FP.Core.fIsNaN r = false) : vf_n32 r := by
  have h1 : ¬ 2139095040 < r.toNat % 2 ^ 31 := fun z => by
    have := (FP.Core.isNaN_bits32 r).mpr z
    rw [h] at this
    cases this
  unfold vf_n32
  rw [UInt32.le_iff_toNat_le, UInt32.toNat_and]
  have e : (0x7fffffff : UInt32).toNat = 2 ^ 31 - 1 := by decide
  have e2 : (0x7f800000 : UInt32).toNat = 2139095040 := by decide
  rw [e, e2, Nat.and_two_pow_sub_one_eq_mod]
  omega
theorem fp_dout (a : Int32) {n : Int32} (hn : n ≠ 0) : FP.Core.dIsNaN (FP.ddiv (FP.i2d a) (FP.i2d n)) = false := by
  refine FP.Core.ddiv_out ?_ (FP.Core.i2d_fin n) ?_
  · have h := (FP.Core.fin_bits _).mp (FP.Core.i2d_fin a)
    cases hc : FP.Core.dIsNaN (FP.i2d a) with
    | false => rfl
    | true =>
      have := (FP.Core.isNaN_bits _).mp hc
      have h2 : (FP.i2d a).toNat % 2 ^ 63 < 9218868437227405312 := h
      omega
  · intro z
    exact FP.Core.i2d_ne_zero hn ((FP.Core.zero_bits2 _).mp z)
theorem fp_fout (a : Int32) {n : Int32} (hn : n ≠ 0) : FP.Core.fIsNaN (FP.fdiv (FP.i2f a) (FP.i2f n)) = false := by
  refine FP.Core.fdiv_out ?_ (FP.Core.i2f_fin n) ?_
  · have h := (FP.Core.fin_bits32 _).mp (FP.Core.i2f_fin a)
    cases hc : FP.Core.fIsNaN (FP.i2f a) with
    | false => rfl
    | true =>
      have := (FP.Core.isNaN_bits32 _).mp hc
      have h2 : (FP.i2f a).toNat % 2 ^ 31 < 2139095040 := h
      omega
  · intro z
    exact FP.Core.i2f_ne_zero hn ((FP.Core.zero_bits232 _).mp z)
theorem fp_mean (a : Int32) {n : Int32} (hn : n ≠ 0) : vf_n64 (FP.ddiv (FP.i2d a) (FP.i2d n)) := fp_n64 (fp_dout a hn)
theorem fp_share (a : Int32) {n : Int32} (hn : n ≠ 0) : vf_n32 (FP.fdiv (FP.i2f a) (FP.i2f n)) := fp_n32 (fp_fout a hn)
section FPENDS
variable {p : Program} {l : Launch} {e : Env} {s : State} {m : MethodId} {args : Array Value} {below : List Frame} {meth : Method} {c : Code} {H : Heap} {locs : List Loc} {cells slots : Nat}
variable {cc : ByteArray} {pc nL : Nat} {ls : Array Slot} {own : String} {ret : Option FieldType} {A : Nat → Prop}
theorem c_d (X : CF p s m args meth c cc nL own ret) {R : Room} {mc ms : Nat} {B : Option Value → Heap → Prop} {v : UInt64} (hS : va_S A s.heap H locs) (hr : ret = some .double) (hB : B (some (.double v)) H) (h1 : cells ≤ mc) (h2 : slots ≤ ms) (hdg : decode cc pc = .ok (.dreturn, 1)) : W p l e R s m args below meth c H locs cells slots (MQ below (cQ B A) args s mc ms A) (F0 m pc ls [.double v]) :=
  W.widen h1 h2 (W.dret X.ex X.co (X.rt.trans hr) (fun t ht _ => ⟨_, rfl, by rw [ht]; exact hB, by rw [va_F, ht]; exact ⟨hS.1, hS.2.1⟩⟩) hS.2.2 hdg X.lk)
theorem c_f (X : CF p s m args meth c cc nL own ret) {R : Room} {mc ms : Nat} {B : Option Value → Heap → Prop} {v : UInt32} (hS : va_S A s.heap H locs) (hr : ret = some .float) (hB : B (some (.float v)) H) (h1 : cells ≤ mc) (h2 : slots ≤ ms) (hdg : decode cc pc = .ok (.freturn, 1)) : W p l e R s m args below meth c H locs cells slots (MQ below (cQ B A) args s mc ms A) (F0 m pc ls [.float v]) :=
  W.widen h1 h2 (W.fret X.ex X.co (X.rt.trans hr) (fun t ht _ => ⟨_, rfl, by rw [ht]; exact hB, by rw [va_F, ht]; exact ⟨hS.1, hS.2.1⟩⟩) hS.2.2 hdg X.lk)
end FPENDS
def fMeanGrade (σ : Sg) : UInt64 × Sg := if nAn σ = 0 then (FP.dconst0, sN σ 0 0 1) else (FP.ddiv (FP.i2d (graSum σ (nAn σ))) (FP.i2d (nI (nAn σ))), σ)
def fStandingShare (σ : Sg) : UInt32 × Sg := if nCe σ = 0 then (FP.fconst0, sN σ 0 0 1) else (FP.fdiv (FP.i2f (nI (nCe σ) - nI (revS σ (nCe σ)))) (FP.i2f (nI (nCe σ))), σ)
