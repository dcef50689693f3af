theorem mg_n {σ : Sg} (hI : MI σ) (h : (fMeanGrade σ).2.1 0 0 = 0) : FP.Core.dIsNaN (fMeanGrade σ).1 = false := by
  unfold fMeanGrade at h ⊢
  split
  · rename_i h1
    rw [if_pos h1] at h
    exact absurd (show (1 : Nat) = 0 from h) (by decide)
  · rename_i h1
    have hb := hI.1.1
    exact fp_dout _ (nI_nz (Nat.pos_of_ne_zero h1) (by omega))
theorem ss_d {σ : Sg} (hI : MI σ) (h : (fStandingShare σ).2.1 0 0 = 0) : FP.Core.dIsNaN (FP.f2d (fStandingShare σ).1) = false := by
  unfold fStandingShare at h ⊢
  split
  · rename_i h1
    rw [if_pos h1] at h
    exact absurd (show (1 : Nat) = 0 from h) (by decide)
  · rename_i h1
    have hb := hI.1.1
    have h0 : ¬ nI (nCe σ) = 0 := nI_nz (Nat.pos_of_ne_zero h1) (by omega)
    have h2 := fp_fout (nI (nCe σ) - nI (revS σ (nCe σ))) h0
    show FP.Core.dIsNaN (FP.f2d (FP.fdiv (FP.i2f (nI (nCe σ) - nI (revS σ (nCe σ)))) (FP.i2f (nI (nCe σ))))) = false
    unfold FP.f2d
    rw [if_neg (by rw [h2]; decide)]
    exact FP.Core.f2d_out h2
theorem w_dcmp {p : Program} {l : Launch} {e : Env} {R : Room} {s : State} {m : MethodId} {args : Array Value} {below : List Frame} {meth : Method} {c : Code} {H : Heap} {locs : List Loc} {cells slots : Nat} {Q : State → Prop} {cc : ByteArray} {pc nL : Nat} {ls : Array Slot} {rest : List Value} {own : String} {ret : Option FieldType} (X : CF p s m args meth c cc nL own ret) {x : UInt64} {op : CmpOp} (hx : FP.Core.dIsNaN x = false) (hdg : decode cc pc = .ok (.dcmp op, 1))
    (k : W p l e R s m args below meth c H locs cells slots Q (F0 m (pc + 1) ls (.int 0 :: rest))) : W p l e R s m args below meth c H locs cells slots Q (F0 m pc ls (.double x :: .double x :: rest)) := by
  refine lv_dcmp X.ex X.co hdg ?_
  have h1 : FP.dcmp x x = some .eq := FP.Core.dcmp_refl hx
  rw [h1]
  exact k
