/-! ===== the reference is made ===== -/
def xfl (ad : I2 → Nat) (ks : List Nat) : List Value := (List.range 44).map (fun k => if mIsA k then (if k ∈ ks then .ref (ad (1, k)) else .null) else .int 0)
def xEn (G : GT) (ad : I2 → Nat) (ks : List Nat) : I2 → va_E := fun i => if i.1 = 0 then .inr (15, xfl ad ks) else .inl (G.2.1 (mKd i.2), mLen i.2, .inl (fun _ => 0))
def xw (G : GT) (ad : I2 → Nat) (A : Nat → Prop) (ks : List Nat) (H : Heap) : Prop := fw G.1 (fun i => i = (0, 0) ∨ (i.1 = 1 ∧ i.2 ∈ ks)) ad (xEn G ad ks) A H
theorem xfl_set {ad : I2 → Nat} {ks : List Nat} {k q : Nat} (hk : k < 44) (hs : mIsA k = true) : (xfl ad ks).set k (.ref q) = xfl (iup ad (1, k) q) (k :: ks) := by
  apply List.ext_getElem?
  intro j
  by_cases hj : j = k
  · subst hj
    rw [List.getElem?_set_self (by simpa [xfl] using hk), xfl, List.getElem?_map, List.getElem?_range hk]
    simp [hs, iup_s]
  · rw [List.getElem?_set_ne (Ne.symm hj)]
    by_cases hl : j < 44
    · rw [xfl, xfl, List.getElem?_map, List.getElem?_map, List.getElem?_range hl]
      simp [hj, iup_i]
    · rw [List.getElem?_eq_none (by simpa [xfl] using hl), List.getElem?_eq_none (by simpa [xfl] using hl)]
section MINIT
variable {p : Program} {l : Launch} {e : Env} {R : Room} {s : State} {m : MethodId} {args : Array Value} {below : List Frame} {meth : Method} {c : Code} {H : Heap} {locs : List Loc} {cells slots : Nat} {Q : State → Prop}
variable {cc : ByteArray} {pc nL : Nat} {ls : Array Slot} {rest : List Value} {ret : Option FieldType} {G : GT} {A : Nat → Prop} {H0 : Heap} {ad : I2 → Nat} {ks : List Nat}
theorem x_step (X : CF p s m args meth c cc nL RX10 ret) (hin : meth.name = "<init>") (hK : KK G s) (F : xw G ad A ks H) (hS : va_S A H0 H locs) (hA : ∀ q, H0.size ≤ q → A q) (k : Nat) (hk : k < 44) (hs : mIsA k = true) (hn : k ∉ ks) {atype : ArrayType} {ty : FieldType} (t : Nat) (hkd : mKd k = t) (ht : (tyK G.2.1)[t]? = some (G.2.1 t, ty)) (hty : newarray.typeOf atype = ty) (hprim : ∀ C, ty ≠ .object C) (harr : Cond.arrayClass (newarray.typeOf atype) ∈ AW)
    (ha : ∀ cA : ClassId, vp_cell cA (mLen k, .inl (fun _ => 0)) = arrV cA (mLen k) (fun _ => defaultValue ty)) (hb4 : componentBytes ty ≤ 8) (hcells : cells + 1 ≤ R.cells) (hslots : slots + mLen k ≤ R.slots) (hdg : decode cc pc = .ok (.newarray atype, 2)) {index : Nat} (hlink : Cond.fieldLink RX10 index RX10 (TX10 k).2.1 (TX10 k).2.2.1 ∈ AW) (hr : (TX10 k).1 = RX10) (hfin : (TX10 k).2.2.2 = true) {ty1 : FieldType} (hd : parseFieldDescriptor (TX10 k).2.2.1 = some ty1) (hnr : ∀ q, narrow ty1 (.ref q) = .ref q) (hfit : ∀ q, fits ty1 (.ref q) = true) (hdg2 : decode cc (pc + 2) = .ok (.putfield index, 3))
    (kk : ∀ (q : Nat) (H1 : Heap) (locs1 : List Loc), xw G (iup ad (1, k) q) A (k :: ks) H1 → va_S A H0 H1 locs1 → W p l e R s m args below meth c H1 locs1 (cells + 1) (slots + mLen k) Q (F0 m (pc + 2 + 3) ls rest)) : W p l e R s m args below meth c H locs cells slots Q (F0 m pc ls (.int (nI (mLen k)) :: .ref (ad (0, 0)) :: rest)) := by
  have hL := mLen_le k
  refine f_newa X hK F hS hA (1, k) (fun z => ?_) t ht hty hprim harr ha (nI_pos (by omega)) (nI_clamp (by omega)) (Nat.le_trans (Nat.mul_le_mul hL hb4) (by decide)) hcells hslots hdg fun q H1 h1 h2 => ?_
  · rcases z with z | z
    · exact absurd (congrArg Prod.fst z) (Nat.succ_ne_zero 0)
    · exact hn z.2
  have hne : ((0, 0) : I2) ≠ (1, k) := fun z => absurd (congrArg Prod.fst z).symm (Nat.succ_ne_zero 0)
  refine f_putF X hin hK h1 h2 (i := (0, 0)) (Or.inl (Or.inl rfl)) (iup_n _ _ hne) (ci := 15) (fs := xfl ad ks) ((iup_n _ _ hne).trans rfl) okX10 rfl k hk hlink (fun _ h => by rw [← hr]; exact h) hfin hr hd (hnr q) (hfit q) (by simpa [xfl] using hk) hdg2 fun H2 locs2 h3 h4 => ?_
  refine kk q H2 locs2 (fw.sub h3 fun i hi => ?_) h4
  rcases hi with rfl | ⟨hi1, hi2⟩
  · refine ⟨Or.inl (Or.inl rfl), rfl, ?_⟩
    rw [iup_s]
    show (Sum.inr (15, xfl (iup ad (1, k) q) (k :: ks)) : va_E) = _
    rw [← xfl_set hk hs]
  · obtain ⟨i1, i2⟩ := i
    cases hi1
    by_cases hj : i2 = k
    · subst hj
      refine ⟨Or.inr rfl, rfl, ?_⟩
      rw [iup_k _ _ (by decide), iup_s, ← hkd]
      rfl
    · refine ⟨Or.inl (Or.inr ⟨rfl, (List.mem_cons.mp hi2).resolve_left hj⟩), rfl, ?_⟩
      rw [iup_k _ _ (by decide), iup_i _ _ hj]
      rfl
theorem x_obj (X : CF p s m args meth c cc nL RX10 ret) (hls : ls.size = nL) {idx a : Nat} (hlink : Cond.methodLink RX10 idx objectInit ∈ AW) (hinst : Cond.instanceMethod objectInit ∈ AW) (hcode : Cond.code objectInit ⟨#[0xb1]⟩ 1 none ∈ AW) (hd : decode cc pc = .ok (.invokespecial idx, 3)) (hframes : 1 ≤ R.frames) (hlocals : (rest.map fun v => v.category).sum + 12 ≤ R.locals)
    (kk : W p l e R s m args below meth c H locs cells slots Q (F0 m (pc + 3) ls rest)) : W p l e R s m args below meth c H locs cells slots Q (F0 m pc ls (.ref a :: rest)) :=
  W.objInit X.ex X.co X.ow (X.ts _ hlink) (X.ts _ hinst) (X.ts _ hcode) rfl (hls.trans X.ml.symm) rfl hd hframes (by show 2 * 0 + _ + 12 ≤ _; omega) kk
end MINIT
def sg0 : Sg := (fun _ _ => 0, fun _ _ => 0)
theorem x_mw {G : GT} {ad : I2 → Nat} {A : Nat → Prop} {ks : List Nat} {H : Heap} (F : xw G ad A ks H) (h : ∀ k, k < 44 → mIsA k = true → k ∈ ks) : mw G ad A sg0 H := by
  refine fw.sub F fun i hi => ?_
  rcases hi with rfl | ⟨h1, h2, h3⟩
  · refine ⟨Or.inl rfl, rfl, ?_⟩
    show (Sum.inr (15, mFields ad sg0) : va_E) = Sum.inr (15, xfl ad ks)
    congr 2
    refine List.map_congr_left fun k hk => ?_
    have hk' := List.mem_range.mp hk
    unfold mFld
    by_cases hA : mIsA k = true
    · rw [if_pos hA, if_pos hA, if_pos (h k hk' hA)]
    · rw [if_neg hA, if_neg hA]
      unfold mSc
      split <;> rfl
  · obtain ⟨i1, i2⟩ := i
    cases h1
    refine ⟨Or.inr ⟨rfl, h i2 h2 h3⟩, rfl, ?_⟩
    show (Sum.inl (G.2.1 (mKd i2), mLen i2, .inl (mRow sg0 i2)) : va_E) = Sum.inl (G.2.1 (mKd i2), mLen i2, .inl (fun _ => 0))
    congr 4
    unfold mRow
    split <;> rfl
theorem ce_X10_init : ceI yX10_init cX10_init 1 0 := ⟨m_1348, rfl, m_9, m_1349, ⟨by decide, by decide, by decide +kernel⟩, by decide⟩
set_option maxHeartbeats 8000000 in
set_option maxRecDepth 100000 in
theorem c_X10_init (l : Launch) (G : GT) (ad : I2 → Nat) (A : Nat → Prop) (hAg : ∀ q, A q → gA G q) : cM l yX10_init cX10_init 1 none 0 33 1492 G [.ref (ad (0, 0))] (fun H => xw G ad A [] H ∧ ∀ q, H.size ≤ q → A q) (fun r H => r = none ∧ ∃ mad : I2 → Nat, mad (0, 0) = ad (0, 0) ∧ mw G mad A sg0 H) A := by
  refine mk_m (by decide) (Nat.le_of_ble_eq_true rfl) ?_
  intro p e s m args below meth c X ls hl g0 F hnm
  have hK := g0.1
  obtain ⟨F, hA⟩ := F
  have hS : va_S A s.heap s.heap [] := va_S.rf
  have hl : lv_has ls 1 [(0, .ref (ad (0, 0)))] := hl
  show W p l e (RM 0 33 1492) s m args below meth c s.heap [] 0 0 (MQ below (cQ _ A) args s 33 1492 A) (F0 m 0 ls [])
  refine lv_aload_n X.ex X.co dX10_init_0 rfl (lv_at hl 0 rfl) ?_
  refine x_obj X hl.1 m_1350 m_45 m_46 dX10_init_1 (Nat.le_of_ble_eq_true rfl) (Nat.le_of_ble_eq_true rfl) ?_
  refine lv_aload_n X.ex X.co dX10_init_4 rfl (lv_at hl 0 rfl) ?_
  refine lv_iconst (v := nI (mLen 3)) X.ex X.co dX10_init_5 (by decide) ?_
  refine x_step (atype := ArrayType.int) X hnm hK F hS hA 3 (by decide) rfl (by decide) 0 rfl rfl rfl (fun _ => by intro z; cases z) m_618 (fun _ => rfl) (by decide) (Nat.le_of_ble_eq_true rfl) (Nat.le_of_ble_eq_true rfl) dX10_init_6 m_1354 rfl rfl rfl (fun _ => rfl) (fun _ => rfl) dX10_init_8 ?_
  intro a1 H locs F hS
  refine lv_aload_n X.ex X.co dX10_init_11 rfl (lv_at hl 0 rfl) ?_
  refine lv_iconst (v := nI (mLen 4)) X.ex X.co dX10_init_12 (by decide) ?_
  refine x_step (atype := ArrayType.int) X hnm hK F hS hA 4 (by decide) rfl (by decide) 0 rfl rfl rfl (fun _ => by intro z; cases z) m_618 (fun _ => rfl) (by decide) (Nat.le_of_ble_eq_true rfl) (Nat.le_of_ble_eq_true rfl) dX10_init_13 m_1355 rfl rfl rfl (fun _ => rfl) (fun _ => rfl) dX10_init_15 ?_
  intro a2 H locs F hS
  refine lv_aload_n X.ex X.co dX10_init_18 rfl (lv_at hl 0 rfl) ?_
  refine lv_bipush (v := nI (mLen 6)) X.ex X.co dX10_init_19 (by decide) ?_
  refine x_step (atype := ArrayType.int) X hnm hK F hS hA 6 (by decide) rfl (by decide) 0 rfl rfl rfl (fun _ => by intro z; cases z) m_618 (fun _ => rfl) (by decide) (Nat.le_of_ble_eq_true rfl) (Nat.le_of_ble_eq_true rfl) dX10_init_21 m_1357 rfl rfl rfl (fun _ => rfl) (fun _ => rfl) dX10_init_23 ?_
  intro a3 H locs F hS
  refine lv_aload_n X.ex X.co dX10_init_26 rfl (lv_at hl 0 rfl) ?_
  refine lv_bipush (v := nI (mLen 8)) X.ex X.co dX10_init_27 (by decide) ?_
  refine x_step (atype := ArrayType.int) X hnm hK F hS hA 8 (by decide) rfl (by decide) 0 rfl rfl rfl (fun _ => by intro z; cases z) m_618 (fun _ => rfl) (by decide) (Nat.le_of_ble_eq_true rfl) (Nat.le_of_ble_eq_true rfl) dX10_init_29 m_1359 rfl rfl rfl (fun _ => rfl) (fun _ => rfl) dX10_init_31 ?_
  intro a4 H locs F hS
  refine lv_aload_n X.ex X.co dX10_init_34 rfl (lv_at hl 0 rfl) ?_
  refine lv_bipush (v := nI (mLen 9)) X.ex X.co dX10_init_35 (by decide) ?_
  refine x_step (atype := ArrayType.int) X hnm hK F hS hA 9 (by decide) rfl (by decide) 0 rfl rfl rfl (fun _ => by intro z; cases z) m_618 (fun _ => rfl) (by decide) (Nat.le_of_ble_eq_true rfl) (Nat.le_of_ble_eq_true rfl) dX10_init_37 m_1360 rfl rfl rfl (fun _ => rfl) (fun _ => rfl) dX10_init_39 ?_
  intro a5 H locs F hS
  refine lv_aload_n X.ex X.co dX10_init_42 rfl (lv_at hl 0 rfl) ?_
  refine lv_bipush (v := nI (mLen 10)) X.ex X.co dX10_init_43 (by decide) ?_
  refine x_step (atype := ArrayType.int) X hnm hK F hS hA 10 (by decide) rfl (by decide) 0 rfl rfl rfl (fun _ => by intro z; cases z) m_618 (fun _ => rfl) (by decide) (Nat.le_of_ble_eq_true rfl) (Nat.le_of_ble_eq_true rfl) dX10_init_45 m_1361 rfl rfl rfl (fun _ => rfl) (fun _ => rfl) dX10_init_47 ?_
  intro a6 H locs F hS
  refine lv_aload_n X.ex X.co dX10_init_50 rfl (lv_at hl 0 rfl) ?_
  refine lv_bipush (v := nI (mLen 12)) X.ex X.co dX10_init_51 (by decide) ?_
  refine x_step (atype := ArrayType.int) X hnm hK F hS hA 12 (by decide) rfl (by decide) 0 rfl rfl rfl (fun _ => by intro z; cases z) m_618 (fun _ => rfl) (by decide) (Nat.le_of_ble_eq_true rfl) (Nat.le_of_ble_eq_true rfl) dX10_init_53 m_1363 rfl rfl rfl (fun _ => rfl) (fun _ => rfl) dX10_init_55 ?_
  intro a7 H locs F hS
  refine lv_aload_n X.ex X.co dX10_init_58 rfl (lv_at hl 0 rfl) ?_
  refine lv_bipush (v := nI (mLen 13)) X.ex X.co dX10_init_59 (by decide) ?_
  refine x_step (atype := ArrayType.int) X hnm hK F hS hA 13 (by decide) rfl (by decide) 0 rfl rfl rfl (fun _ => by intro z; cases z) m_618 (fun _ => rfl) (by decide) (Nat.le_of_ble_eq_true rfl) (Nat.le_of_ble_eq_true rfl) dX10_init_61 m_1364 rfl rfl rfl (fun _ => rfl) (fun _ => rfl) dX10_init_63 ?_
  intro a8 H locs F hS
  refine lv_aload_n X.ex X.co dX10_init_66 rfl (lv_at hl 0 rfl) ?_
  refine lv_bipush (v := nI (mLen 14)) X.ex X.co dX10_init_67 (by decide) ?_
  refine x_step (atype := ArrayType.int) X hnm hK F hS hA 14 (by decide) rfl (by decide) 0 rfl rfl rfl (fun _ => by intro z; cases z) m_618 (fun _ => rfl) (by decide) (Nat.le_of_ble_eq_true rfl) (Nat.le_of_ble_eq_true rfl) dX10_init_69 m_1365 rfl rfl rfl (fun _ => rfl) (fun _ => rfl) dX10_init_71 ?_
  intro a9 H locs F hS
  refine lv_aload_n X.ex X.co dX10_init_74 rfl (lv_at hl 0 rfl) ?_
  refine lv_bipush (v := nI (mLen 15)) X.ex X.co dX10_init_75 (by decide) ?_
  refine x_step (atype := ArrayType.int) X hnm hK F hS hA 15 (by decide) rfl (by decide) 0 rfl rfl rfl (fun _ => by intro z; cases z) m_618 (fun _ => rfl) (by decide) (Nat.le_of_ble_eq_true rfl) (Nat.le_of_ble_eq_true rfl) dX10_init_77 m_1366 rfl rfl rfl (fun _ => rfl) (fun _ => rfl) dX10_init_79 ?_
  intro a10 H locs F hS
  refine lv_aload_n X.ex X.co dX10_init_82 rfl (lv_at hl 0 rfl) ?_
  refine lv_bipush (v := nI (mLen 16)) X.ex X.co dX10_init_83 (by decide) ?_
  refine x_step (atype := ArrayType.int) X hnm hK F hS hA 16 (by decide) rfl (by decide) 0 rfl rfl rfl (fun _ => by intro z; cases z) m_618 (fun _ => rfl) (by decide) (Nat.le_of_ble_eq_true rfl) (Nat.le_of_ble_eq_true rfl) dX10_init_85 m_1367 rfl rfl rfl (fun _ => rfl) (fun _ => rfl) dX10_init_87 ?_
  intro a11 H locs F hS
  refine lv_aload_n X.ex X.co dX10_init_90 rfl (lv_at hl 0 rfl) ?_
  refine lv_bipush (v := nI (mLen 17)) X.ex X.co dX10_init_91 (by decide) ?_
  refine x_step (atype := ArrayType.int) X hnm hK F hS hA 17 (by decide) rfl (by decide) 0 rfl rfl rfl (fun _ => by intro z; cases z) m_618 (fun _ => rfl) (by decide) (Nat.le_of_ble_eq_true rfl) (Nat.le_of_ble_eq_true rfl) dX10_init_93 m_1368 rfl rfl rfl (fun _ => rfl) (fun _ => rfl) dX10_init_95 ?_
  intro a12 H locs F hS
  refine lv_aload_n X.ex X.co dX10_init_98 rfl (lv_at hl 0 rfl) ?_
  refine lv_bipush (v := nI (mLen 18)) X.ex X.co dX10_init_99 (by decide) ?_
  refine x_step (atype := ArrayType.int) X hnm hK F hS hA 18 (by decide) rfl (by decide) 0 rfl rfl rfl (fun _ => by intro z; cases z) m_618 (fun _ => rfl) (by decide) (Nat.le_of_ble_eq_true rfl) (Nat.le_of_ble_eq_true rfl) dX10_init_101 m_1369 rfl rfl rfl (fun _ => rfl) (fun _ => rfl) dX10_init_103 ?_
  intro a13 H locs F hS
  refine lv_aload_n X.ex X.co dX10_init_106 rfl (lv_at hl 0 rfl) ?_
  refine lv_bipush (v := nI (mLen 20)) X.ex X.co dX10_init_107 (by decide) ?_
  refine x_step (atype := ArrayType.int) X hnm hK F hS hA 20 (by decide) rfl (by decide) 0 rfl rfl rfl (fun _ => by intro z; cases z) m_618 (fun _ => rfl) (by decide) (Nat.le_of_ble_eq_true rfl) (Nat.le_of_ble_eq_true rfl) dX10_init_109 m_1371 rfl rfl rfl (fun _ => rfl) (fun _ => rfl) dX10_init_111 ?_
  intro a14 H locs F hS
  refine lv_aload_n X.ex X.co dX10_init_114 rfl (lv_at hl 0 rfl) ?_
  refine lv_bipush (v := nI (mLen 21)) X.ex X.co dX10_init_115 (by decide) ?_
  refine x_step (atype := ArrayType.int) X hnm hK F hS hA 21 (by decide) rfl (by decide) 0 rfl rfl rfl (fun _ => by intro z; cases z) m_618 (fun _ => rfl) (by decide) (Nat.le_of_ble_eq_true rfl) (Nat.le_of_ble_eq_true rfl) dX10_init_117 m_1372 rfl rfl rfl (fun _ => rfl) (fun _ => rfl) dX10_init_119 ?_
  intro a15 H locs F hS
  refine lv_aload_n X.ex X.co dX10_init_122 rfl (lv_at hl 0 rfl) ?_
  refine lv_bipush (v := nI (mLen 22)) X.ex X.co dX10_init_123 (by decide) ?_
  refine x_step (atype := ArrayType.int) X hnm hK F hS hA 22 (by decide) rfl (by decide) 0 rfl rfl rfl (fun _ => by intro z; cases z) m_618 (fun _ => rfl) (by decide) (Nat.le_of_ble_eq_true rfl) (Nat.le_of_ble_eq_true rfl) dX10_init_125 m_1373 rfl rfl rfl (fun _ => rfl) (fun _ => rfl) dX10_init_127 ?_
  intro a16 H locs F hS
  refine lv_aload_n X.ex X.co dX10_init_130 rfl (lv_at hl 0 rfl) ?_
  refine lv_bipush (v := nI (mLen 23)) X.ex X.co dX10_init_131 (by decide) ?_
  refine x_step (atype := ArrayType.int) X hnm hK F hS hA 23 (by decide) rfl (by decide) 0 rfl rfl rfl (fun _ => by intro z; cases z) m_618 (fun _ => rfl) (by decide) (Nat.le_of_ble_eq_true rfl) (Nat.le_of_ble_eq_true rfl) dX10_init_133 m_1374 rfl rfl rfl (fun _ => rfl) (fun _ => rfl) dX10_init_135 ?_
  intro a17 H locs F hS
  refine lv_aload_n X.ex X.co dX10_init_138 rfl (lv_at hl 0 rfl) ?_
  refine lv_bipush (v := nI (mLen 24)) X.ex X.co dX10_init_139 (by decide) ?_
  refine x_step (atype := ArrayType.int) X hnm hK F hS hA 24 (by decide) rfl (by decide) 0 rfl rfl rfl (fun _ => by intro z; cases z) m_618 (fun _ => rfl) (by decide) (Nat.le_of_ble_eq_true rfl) (Nat.le_of_ble_eq_true rfl) dX10_init_141 m_1375 rfl rfl rfl (fun _ => rfl) (fun _ => rfl) dX10_init_143 ?_
  intro a18 H locs F hS
  refine lv_aload_n X.ex X.co dX10_init_146 rfl (lv_at hl 0 rfl) ?_
  refine lv_bipush (v := nI (mLen 25)) X.ex X.co dX10_init_147 (by decide) ?_
  refine x_step (atype := ArrayType.int) X hnm hK F hS hA 25 (by decide) rfl (by decide) 0 rfl rfl rfl (fun _ => by intro z; cases z) m_618 (fun _ => rfl) (by decide) (Nat.le_of_ble_eq_true rfl) (Nat.le_of_ble_eq_true rfl) dX10_init_149 m_1376 rfl rfl rfl (fun _ => rfl) (fun _ => rfl) dX10_init_151 ?_
  intro a19 H locs F hS
  refine lv_aload_n X.ex X.co dX10_init_154 rfl (lv_at hl 0 rfl) ?_
  refine lv_bipush (v := nI (mLen 26)) X.ex X.co dX10_init_155 (by decide) ?_
  refine x_step (atype := ArrayType.boolean) X hnm hK F hS hA 26 (by decide) rfl (by decide) 1 rfl rfl rfl (fun _ => by intro z; cases z) m_1484 (fun _ => rfl) (by decide) (Nat.le_of_ble_eq_true rfl) (Nat.le_of_ble_eq_true rfl) dX10_init_157 m_1377 rfl rfl rfl (fun _ => rfl) (fun _ => rfl) dX10_init_159 ?_
  intro a20 H locs F hS
  refine lv_aload_n X.ex X.co dX10_init_162 rfl (lv_at hl 0 rfl) ?_
  refine lv_bipush (v := nI (mLen 28)) X.ex X.co dX10_init_163 (by decide) ?_
  refine x_step (atype := ArrayType.int) X hnm hK F hS hA 28 (by decide) rfl (by decide) 0 rfl rfl rfl (fun _ => by intro z; cases z) m_618 (fun _ => rfl) (by decide) (Nat.le_of_ble_eq_true rfl) (Nat.le_of_ble_eq_true rfl) dX10_init_165 m_1379 rfl rfl rfl (fun _ => rfl) (fun _ => rfl) dX10_init_167 ?_
  intro a21 H locs F hS
  refine lv_aload_n X.ex X.co dX10_init_170 rfl (lv_at hl 0 rfl) ?_
  refine lv_bipush (v := nI (mLen 30)) X.ex X.co dX10_init_171 (by decide) ?_
  refine x_step (atype := ArrayType.int) X hnm hK F hS hA 30 (by decide) rfl (by decide) 0 rfl rfl rfl (fun _ => by intro z; cases z) m_618 (fun _ => rfl) (by decide) (Nat.le_of_ble_eq_true rfl) (Nat.le_of_ble_eq_true rfl) dX10_init_173 m_1381 rfl rfl rfl (fun _ => rfl) (fun _ => rfl) dX10_init_175 ?_
  intro a22 H locs F hS
  refine lv_aload_n X.ex X.co dX10_init_178 rfl (lv_at hl 0 rfl) ?_
  refine lv_bipush (v := nI (mLen 31)) X.ex X.co dX10_init_179 (by decide) ?_
  refine x_step (atype := ArrayType.int) X hnm hK F hS hA 31 (by decide) rfl (by decide) 0 rfl rfl rfl (fun _ => by intro z; cases z) m_618 (fun _ => rfl) (by decide) (Nat.le_of_ble_eq_true rfl) (Nat.le_of_ble_eq_true rfl) dX10_init_181 m_1382 rfl rfl rfl (fun _ => rfl) (fun _ => rfl) dX10_init_183 ?_
  intro a23 H locs F hS
  refine lv_aload_n X.ex X.co dX10_init_186 rfl (lv_at hl 0 rfl) ?_
  refine lv_iconst (v := nI (mLen 33)) X.ex X.co dX10_init_187 (by decide) ?_
  refine x_step (atype := ArrayType.int) X hnm hK F hS hA 33 (by decide) rfl (by decide) 0 rfl rfl rfl (fun _ => by intro z; cases z) m_618 (fun _ => rfl) (by decide) (Nat.le_of_ble_eq_true rfl) (Nat.le_of_ble_eq_true rfl) dX10_init_188 m_1384 rfl rfl rfl (fun _ => rfl) (fun _ => rfl) dX10_init_190 ?_
  intro a24 H locs F hS
  refine lv_aload_n X.ex X.co dX10_init_193 rfl (lv_at hl 0 rfl) ?_
  refine lv_iconst (v := nI (mLen 34)) X.ex X.co dX10_init_194 (by decide) ?_
  refine x_step (atype := ArrayType.int) X hnm hK F hS hA 34 (by decide) rfl (by decide) 0 rfl rfl rfl (fun _ => by intro z; cases z) m_618 (fun _ => rfl) (by decide) (Nat.le_of_ble_eq_true rfl) (Nat.le_of_ble_eq_true rfl) dX10_init_195 m_1385 rfl rfl rfl (fun _ => rfl) (fun _ => rfl) dX10_init_197 ?_
  intro a25 H locs F hS
  refine lv_aload_n X.ex X.co dX10_init_200 rfl (lv_at hl 0 rfl) ?_
  refine lv_bipush (v := nI (mLen 36)) X.ex X.co dX10_init_201 (by decide) ?_
  refine x_step (atype := ArrayType.int) X hnm hK F hS hA 36 (by decide) rfl (by decide) 0 rfl rfl rfl (fun _ => by intro z; cases z) m_618 (fun _ => rfl) (by decide) (Nat.le_of_ble_eq_true rfl) (Nat.le_of_ble_eq_true rfl) dX10_init_203 m_1387 rfl rfl rfl (fun _ => rfl) (fun _ => rfl) dX10_init_205 ?_
  intro a26 H locs F hS
  refine lv_aload_n X.ex X.co dX10_init_208 rfl (lv_at hl 0 rfl) ?_
  refine lv_bipush (v := nI (mLen 37)) X.ex X.co dX10_init_209 (by decide) ?_
  refine x_step (atype := ArrayType.int) X hnm hK F hS hA 37 (by decide) rfl (by decide) 0 rfl rfl rfl (fun _ => by intro z; cases z) m_618 (fun _ => rfl) (by decide) (Nat.le_of_ble_eq_true rfl) (Nat.le_of_ble_eq_true rfl) dX10_init_211 m_1388 rfl rfl rfl (fun _ => rfl) (fun _ => rfl) dX10_init_213 ?_
  intro a27 H locs F hS
  refine lv_aload_n X.ex X.co dX10_init_216 rfl (lv_at hl 0 rfl) ?_
  refine lv_bipush (v := nI (mLen 38)) X.ex X.co dX10_init_217 (by decide) ?_
  refine x_step (atype := ArrayType.int) X hnm hK F hS hA 38 (by decide) rfl (by decide) 0 rfl rfl rfl (fun _ => by intro z; cases z) m_618 (fun _ => rfl) (by decide) (Nat.le_of_ble_eq_true rfl) (Nat.le_of_ble_eq_true rfl) dX10_init_219 m_1389 rfl rfl rfl (fun _ => rfl) (fun _ => rfl) dX10_init_221 ?_
  intro a28 H locs F hS
  refine lv_aload_n X.ex X.co dX10_init_224 rfl (lv_at hl 0 rfl) ?_
  refine lv_bipush (v := nI (mLen 39)) X.ex X.co dX10_init_225 (by decide) ?_
  refine x_step (atype := ArrayType.int) X hnm hK F hS hA 39 (by decide) rfl (by decide) 0 rfl rfl rfl (fun _ => by intro z; cases z) m_618 (fun _ => rfl) (by decide) (Nat.le_of_ble_eq_true rfl) (Nat.le_of_ble_eq_true rfl) dX10_init_227 m_1390 rfl rfl rfl (fun _ => rfl) (fun _ => rfl) dX10_init_229 ?_
  intro a29 H locs F hS
  refine lv_aload_n X.ex X.co dX10_init_232 rfl (lv_at hl 0 rfl) ?_
  refine lv_bipush (v := nI (mLen 40)) X.ex X.co dX10_init_233 (by decide) ?_
  refine x_step (atype := ArrayType.int) X hnm hK F hS hA 40 (by decide) rfl (by decide) 0 rfl rfl rfl (fun _ => by intro z; cases z) m_618 (fun _ => rfl) (by decide) (Nat.le_of_ble_eq_true rfl) (Nat.le_of_ble_eq_true rfl) dX10_init_235 m_1391 rfl rfl rfl (fun _ => rfl) (fun _ => rfl) dX10_init_237 ?_
  intro a30 H locs F hS
  refine lv_aload_n X.ex X.co dX10_init_240 rfl (lv_at hl 0 rfl) ?_
  refine lv_bipush (v := nI (mLen 41)) X.ex X.co dX10_init_241 (by decide) ?_
  refine x_step (atype := ArrayType.boolean) X hnm hK F hS hA 41 (by decide) rfl (by decide) 1 rfl rfl rfl (fun _ => by intro z; cases z) m_1484 (fun _ => rfl) (by decide) (Nat.le_of_ble_eq_true rfl) (Nat.le_of_ble_eq_true rfl) dX10_init_243 m_1392 rfl rfl rfl (fun _ => rfl) (fun _ => rfl) dX10_init_245 ?_
  intro a31 H locs F hS
  refine lv_aload_n X.ex X.co dX10_init_248 rfl (lv_at hl 0 rfl) ?_
  refine lv_bipush (v := nI (mLen 42)) X.ex X.co dX10_init_249 (by decide) ?_
  refine x_step (atype := ArrayType.char) X hnm hK F hS hA 42 (by decide) rfl (by decide) 2 rfl rfl rfl (fun _ => by intro z; cases z) m_1485 (fun _ => rfl) (by decide) (Nat.le_of_ble_eq_true rfl) (Nat.le_of_ble_eq_true rfl) dX10_init_251 m_1393 rfl rfl rfl (fun _ => rfl) (fun _ => rfl) dX10_init_253 ?_
  intro a32 H locs F hS
  refine c_v X hS rfl ⟨rfl, _, ?_, x_mw F (by decide)⟩ (Nat.le_of_ble_eq_true rfl) (Nat.le_of_ble_eq_true rfl) dX10_init_256
  simp [iup]
