set_option maxHeartbeats 4000000 in
set_option maxRecDepth 100000 in
theorem c_X9_appealAtV (l : Launch) (hst : l.stackTraces = false) (G : GT) (A : Nat → Prop) (hAg : ∀ q, A q → gA G q) (b : Nat) (σ : Sg) (hI : MI σ) (hJ : MJ σ) (h0 : σ.1 0 0 = 0) (j_qa : Nat) (hj_qa : j_qa < nAp σ) : xM l yX9_appealAt cX9_appealAt 2 ((Option.some FieldType.int)) 4 0 0 G [.ref b, .int (nI j_qa)] (fun H => CB G A b σ H ∧ ∀ q, H.size ≤ q → A q) (fB G A b (fAppealAt σ (nI j_qa))) (fX ["java/lang/IndexOutOfBoundsException"] G A b (fAppealAt σ (nI j_qa))) A := by
  refine mk_x (by decide) (Nat.le_of_ble_eq_true rfl) ?_
  intro p e s m args below meth c X ls hl g0 F hno
  obtain ⟨⟨g, ad, hb0, ⟨hC, hgr, hwt, hsb⟩, F⟩, hfr⟩ := F
  subst hb0
  have hI0 := hI.1
  obtain ⟨b1, b2, b3, b4, b5, b6, b7⟩ := hI0.1
  obtain ⟨b8, b9, b10⟩ := hI.2.1
  have hone := hJ.2.2.2.2.2
  have hK := g0.1
  have hS : va_S A s.heap s.heap [] := va_S.rf
  have hl : lv_has ls 2 [(0, .ref (ad (0, 0))), (1, .int (nI j_qa))] := hl
  show Wx p l e 4 0 0 s m args below meth c (fB G A (ad (0, 0)) (fAppealAt σ (nI j_qa))) (fX ["java/lang/IndexOutOfBoundsException"] G A (ad (0, 0)) (fAppealAt σ (nI j_qa))) A s.heap [] 0 0 0 ls []
  have ok_qa : okP (nI j_qa) (nAp σ) = true := (okP_ix (by omega)).mpr ⟨j_qa, hj_qa, rfl⟩
  have ex_qa := ix_nI (j := j_qa) (by omega)
  refine lv_iload_n X.ex X.co dX9_appealAt_0 rfl (lv_at hl 1 rfl) ?_
  refine n_if_lt X (x := j_qa) (tgt := 15) (by omega) dX9_appealAt_1 (by decide) (fun c_4 => ?_) (fun c_4 => ?_)
  · exact c_4.elim
  · refine lv_iload_n X.ex X.co dX9_appealAt_4 rfl (lv_at hl 1 rfl) ?_
    refine lv_aload_n X.ex X.co dX9_appealAt_5 rfl (lv_at hl 0 rfl) ?_
    refine f_get X hK (cw_be F) okX9 rfl 7 (by decide) m_113 (fun _ h => h) (v := .ref (ad (1, 7))) rfl dX9_appealAt_6 ?_
    refine q_rV X ce_Jx4a65c_size_8abf5 m_144 (c_Jx4a65c_size_8abf5 l G (ad (1, 7)) (g.2.1 (7)) (lrow G g ad (7)) (nAp σ)) (g0.step hS hAg) (cw_lsn F (k := 7) (n := nAp σ) (Or.inl (by omega)) rng_len) (cw_lsn F (k := 7) (n := nAp σ) (Or.inl (by omega)) rng_len) rfl (by decide) rfl hl.1 rfl (Nat.le_of_ble_eq_true rfl) dX9_appealAt_9 (by omega) (by omega) ?_
    refine n_cmp_lt X (x := j_qa) (y := nAp σ) (tgt := 25) (by omega) (by omega) dX9_appealAt_12 (by decide) (fun c_5 => ?_) (fun c_5 => ?_)
    · refine lv_aload_n X.ex X.co dX9_appealAt_25 rfl (lv_at hl 0 rfl) ?_
      refine f_get X hK (cw_be F) okX9 rfl 7 (by decide) m_113 (fun _ h => h) (v := .ref (ad (1, 7))) rfl dX9_appealAt_26 ?_
      refine lv_iload_n X.ex X.co dX9_appealAt_29 rfl (lv_at hl 1 rfl) ?_
      have ha_6 := hI.ap (i := j_qa) (by omega)
      refine q_rV X ce_Jx4a65c_get_915e3 m_164 (c_getR l G (ad (1, 7)) (g.2.1 (7)) (lrow G g ad (7)) (nAp σ) (g.1 (7)) (cont (lstN σ (7)) ad) j_qa (by omega) (cl_n hC (Or.inl (by omega)) rng_len) (cl_q hC (Or.inl (by omega))) (cont_get (j := (7, app σ j_qa)) (app_get (show j_qa < nAp σ by omega)))) (g0.step hS hAg) (cw_get F hC (k := 7) (x := j_qa) (n := nAp σ) (Or.inl (by omega)) rng_len (by omega)) (cw_get F hC (k := 7) (x := j_qa) (n := nAp σ) (Or.inl (by omega)) rng_len (by omega)).1 rfl (by decide) rfl hl.1 rfl (Nat.le_of_ble_eq_true rfl) dX9_appealAt_30 (by omega) (by omega) ?_
      refine f_castS X hK (cw_an F (i := app σ j_qa) (by omega)) rfl m_187 dX9_appealAt_33 ?_
      refine f_get X hK (cw_an F (i := app σ j_qa) (by omega)) okX0 rfl 0 (by decide) m_714 (fun _ h => h) (v := .int (nI (app σ j_qa))) rfl dX9_appealAt_36 ?_
      exact vx_ret (c_i X hS rfl rfl (by have q : (fAppealAt σ (nI j_qa)) = (nI (app σ j_qa), σ) := (by simp only [fAppealAt]; simp [ok_qa, ex_qa]); rw [q]; exact ⟨rfl, h0, ⟨g, ad, rfl, ⟨hC, hgr, hwt, hsb⟩, F⟩⟩) (by omega) (by omega) dX9_appealAt_39)
    · exact absurd hj_qa (by omega)
set_option maxHeartbeats 4000000 in
set_option maxRecDepth 100000 in
theorem c_L_askedV (l : Launch) (hst : l.stackTraces = false) (G : GT) (A : Nat → Prop) (hAg : ∀ q, A q → gA G q) (b : Nat) (σ : Sg) (hI : MI σ) (hJ : MJ σ) (h0 : σ.1 0 0 = 0) (j : Nat) (hj : j < nAp σ) (p1 : Int32) : xM l yL_asked cL_asked 4 (some .int) 5 0 0 G [.ref b, .int 11, .int (nI j), .int p1] (fun H => CB G A b σ H ∧ ∀ q, H.size ≤ q → A q) (fB G A b (fAppealAt σ (nI j))) (fX ["java/lang/IndexOutOfBoundsException"] G A b (fAppealAt σ (nI j))) A := by
  refine mk_x (by decide) (Nat.le_of_ble_eq_true rfl) ?_
  intro p e s m args below meth c X ls hl g0 F hno
  have hS : va_S A s.heap s.heap [] := va_S.rf
  obtain ⟨fsB, hfB⟩ := CB_at F.1
  have hl : lv_has ls 4 [(0, .ref b), (1, .int 11), (2, .int (nI j)), (3, .int p1)] := hl
  show Wx p l e 5 0 0 s m args below meth c (fB G A b (fAppealAt σ (nI j))) (fX ["java/lang/IndexOutOfBoundsException"] G A b (fAppealAt σ (nI j))) A s.heap [] 0 0 0 ls []
  refine lv_iload_n X.ex X.co dL_asked_0 rfl (lv_at hl 1 rfl) ?_
  refine lv_tableIn X.ex X.co dL_asked_1 (off := 150) (tgt := 151) (by decide) (by decide) (by decide) (by decide) ?_
  refine lv_aload_n X.ex X.co dL_asked_151 rfl (lv_at hl 0 rfl) ?_
  refine lv_iload_n X.ex X.co dL_asked_152 rfl (lv_at hl 2 rfl) ?_
  refine x_V X ce_X9_appealAt mn_55 (c_X9_appealAtV l hst G A hAg b σ hI hJ h0 j hj) g0 F hfB rfl (by decide) rfl hl.1 rfl (Nat.le_of_ble_eq_true rfl) dL_asked_153 (by omega) (by omega) hS (fun _ h => h) hno (fun E H1 hB hz hq => hB) (fun v0 H locs hB hz hk9 hS => ?_)
  obtain ⟨rfl, hk0, hCB⟩ := hB
  exact vx_ret (c_i X hS rfl rfl ⟨rfl, hk0, hCB⟩ (by omega) (by omega) dL_asked_156)
set_option maxHeartbeats 4000000 in
set_option maxRecDepth 100000 in
theorem c_L_askV (l : Launch) (hst : l.stackTraces = false) (G : GT) (A : Nat → Prop) (hAg : ∀ q, A q → gA G q) (b : Nat) (σ : Sg) (hI : MI σ) (hJ : MJ σ) (h0 : σ.1 0 0 = 0) (j : Nat) (hj : j < nAp σ) (p1 : Int32) : Met l yL_ask (wofW yL_ask cL_ask 5 (some .int) [(0, 7, 8, 64), (0, 7, 14, 72)]) (RM 6 0 0) (cPre [.ref b, .int 11, .int (nI j), .int p1] G (fun H => CB G A b σ H ∧ ∀ q, H.size ≤ q → A q)) (cQ (lB G A b [(-2001)] (fAppealAt σ (nI j))) A) 0 0 A := by
  refine mk_w (by decide) (Nat.le_of_ble_eq_true rfl) ?_
  intro p e s m args below meth c X ls hl g0 F htab
  have hS : va_S A s.heap s.heap [] := va_S.rf
  have hl : lv_has ls 5 [(0, .ref b), (1, .int 11), (2, .int (nI j)), (3, .int p1)] := hl
  show W p l e (RM 6 0 0) s m args below meth c s.heap [] 0 0 (MQ below (cQ (lB G A b [(-2001)] (fAppealAt σ (nI j))) A) args s 0 0 A) (F0 m 0 ls [])
  refine lv_aload_n X.ex X.co dL_ask_0 rfl (lv_at hl 0 rfl) ?_
  refine lv_iload_n X.ex X.co dL_ask_1 rfl (lv_at hl 1 rfl) ?_
  refine lv_iload_n X.ex X.co dL_ask_2 rfl (lv_at hl 2 rfl) ?_
  refine lv_iload_n X.ex X.co dL_ask_3 rfl (lv_at hl 3 rfl) ?_
  refine w_S X ce_L_asked mn_41 (c_L_askedV l hst G A hAg b σ hI hJ h0 j hj p1) g0 F (by decide) rfl hl.1 rfl (Nat.le_of_ble_eq_true rfl) dL_ask_4 (by omega) (by omega) hS (fun _ h => h) (fun E ce q9 H locs hB hz hk9 hS hc1 hc2 hc3 => ?_) (fun v0 H locs hB hz hk9 hS => ?_)
  · obtain ⟨k, hT, hk0, hCB⟩ := hB
    rcases k with _ | k
    · obtain rfl : "java/lang/IndexOutOfBoundsException" = E := Option.some.inj hT
      refine vx_catch X.ow [] ⟨0, 7, 8, 64⟩ [⟨0, 7, 14, 72⟩] htab (fun z h => absurd h List.not_mem_nil) rfl (by decide) (X.ts _ mn_17) (cd_at g0 (tb_2 (List.mem_of_getElem? (i := 230) (by decide +kernel)))) hc1 hc2 hc3 ?_
      refine lv_astore (lv' := [(4, .ref q9), (0, .ref b), (1, .int 11), (2, .int (nI j)), (3, .int p1)]) X.ex X.co dL_ask_8 hl (by decide) rfl (fun ls hl => ?_)
      refine lv_sipush (v := (-2001)) X.ex X.co dL_ask_10 (by decide) ?_
      exact c_i X hS rfl rfl ⟨(by rw [lC, if_neg (by rw [hk0]; omega), hk0]; rfl), CB_0 0 hCB⟩ (by omega) (by omega) dL_ask_13
    · exact absurd hT (by simp)
  · obtain ⟨rfl, hk0, hCB⟩ := hB
    exact c_i X hS rfl rfl ⟨(by rw [lC, if_pos hk0]), CB_0 0 hCB⟩ (by omega) (by omega) dL_ask_7
/-! ===== arrays that the law makes ===== -/
section NEWA
variable {p : Program} {l : Launch} {e : Env} {R : Room} {s : State} {m : MethodId} {args : Array Value} {below : List Frame} {meth : Method} {c : Code} {H H0 : Heap} {locs : List Loc} {cells slots : Nat} {Q : State → Prop}
variable {cc : ByteArray} {pc nL : Nat} {ls : Array Slot} {rest st0 : List Value} {own : String} {ret : Option FieldType} {G : GT} {A : Nat → Prop}
theorem k_newi (X : CF p s m args meth c cc nL own ret) (hK : KK G s) (hS : va_S A H0 H locs) {n : Int32} {N' : Nat} (hn : ¬ n < 0) (hN : n.toNatClampNeg = N') (hbytes : N' * 4 ≤ 536870912) (hcells : cells + 1 ≤ R.cells) (hslots : slots + N' ≤ R.slots) (hdg : decode cc pc = .ok (.newarray .int, 2))
    (kk : ∀ (q : Nat) (H1 : Heap), q = H.size → va_at G.1 vwCl (q, .inl (G.2.1 0, N', .inl (fun _ => 0))) H1 → H1.size = H.size + 1 → (∀ x : Nat, x < H.size → H1[x]? = H[x]?) → va_S A H0 H1 locs → W p l e R s m args below meth c H1 locs (cells + 1) (slots + N') Q (F0 m (pc + 2) ls (.ref q :: rest))) : W p l e R s m args below meth c H locs cells slots Q (F0 m pc ls (.int n :: rest)) := by
  refine va_newaK (atype := .int) X.ex X.co (X.ts _ m_618) rfl hdg rfl hn hN hbytes hcells hslots rfl fun H1 cA e1 z1 o1 hAr hNm => ?_
  have hcA : cA = G.2.1 0 := Option.some.inj (hNm.symm.trans (hK.2 0 _ rfl).2)
  subst hcA
  exact kk H.size H1 rfl e1 z1 o1 ⟨Nat.le_trans hS.1 (by omega), fun x h1 h2 => (o1 x (Nat.lt_of_lt_of_le h1 hS.1)).trans (hS.2.1 x h1 h2), hS.2.2⟩
theorem k_newz (X : CF p s m args meth c cc nL own ret) (hK : KK G s) (hS : va_S A H0 H locs) {n : Int32} {N' : Nat} (hn : ¬ n < 0) (hN : n.toNatClampNeg = N') (hbytes : N' * 1 ≤ 536870912) (hcells : cells + 1 ≤ R.cells) (hslots : slots + N' ≤ R.slots) (hdg : decode cc pc = .ok (.newarray .boolean, 2))
    (kk : ∀ (q : Nat) (H1 : Heap), q = H.size → va_at G.1 vwCl (q, .inl (G.2.1 1, N', .inl (fun _ => 0))) H1 → H1.size = H.size + 1 → (∀ x : Nat, x < H.size → H1[x]? = H[x]?) → va_S A H0 H1 locs → W p l e R s m args below meth c H1 locs (cells + 1) (slots + N') Q (F0 m (pc + 2) ls (.ref q :: rest))) : W p l e R s m args below meth c H locs cells slots Q (F0 m pc ls (.int n :: rest)) := by
  refine va_newaK (atype := .boolean) X.ex X.co (X.ts _ m_1484) rfl hdg rfl hn hN hbytes hcells hslots rfl fun H1 cA e1 z1 o1 hAr hNm => ?_
  have hcA : cA = G.2.1 1 := Option.some.inj (hNm.symm.trans (hK.2 1 _ rfl).2)
  subst hcA
  exact kk H.size H1 rfl e1 z1 o1 ⟨Nat.le_trans hS.1 (by omega), fun x h1 h2 => (o1 x (Nat.lt_of_lt_of_le h1 hS.1)).trans (hS.2.1 x h1 h2), hS.2.2⟩
end NEWA
theorem fw.one {D : va_G} {q : Nat} {e : va_E} {H : Heap} (h : va_at D vwCl (q, e) H) : fw D (fun j => j = (0, 0)) (fun _ => q) (fun _ => e) (fun x => x = q) H := by
  refine ⟨[(0, 0)], by simp, fun i => by simp, P1 h, fun i j x y hi hj _ => ?_, fun k x hk => ?_⟩
  · have h1 : i < 1 := (List.getElem?_eq_some_iff.mp hi).1
    have h2 : j < 1 := (List.getElem?_eq_some_iff.mp hj).1
    omega
  · have h1 : k < 1 := (List.getElem?_eq_some_iff.mp hk).1
    rw [show k = 0 by omega] at hk
    cases hk
    rfl
/-- an array of the law's own, at q0 -/
def BW (G : GT) (q0 n : Nat) (f : Nat → Int32) (H : Heap) : Prop := fw G.1 (fun j => j = (0, 0)) (fun _ => q0) (fun _ => .inl (G.2.1 0, n, .inl f)) (fun q => q = q0) H
theorem BW.at {G : GT} {q0 n : Nat} {f : Nat → Int32} {H : Heap} (h : BW G q0 n f H) : va_at G.1 vwCl (q0, .inl (G.2.1 0, n, .inl f)) H := fw.at h (i := (0, 0)) rfl
theorem BW.kept {G : GT} {A : Nat → Prop} {q0 n : Nat} {f : Nat → Int32} {H H1 : Heap} (h : BW G q0 n f H) (hq : ¬ A q0) (hk : ∀ q : Nat, q < H.size → ¬ A q → H1[q]? = H[q]?) : BW G q0 n f H1 := fw.kept h fun j hj => hk _ (fw.lt h hj) hq
theorem CB.wd {G : GT} {A B : Nat → Prop} {b : Nat} {σ : Sg} {H : Heap} (h : CB G A b σ H) (hB : ∀ q, A q → q < H.size → B q) : CB G B b σ H := by
  obtain ⟨g, ad, h1, h2, F⟩ := h
  exact ⟨g, ad, h1, h2, fw.narrow F fun i hi => hB _ (fw.in F hi) (fw.lt F hi)⟩
section KB
variable {p : Program} {l : Launch} {e : Env} {R : Room} {hR rc rs : Nat} {s : State} {m : MethodId} {args : Array Value} {below : List Frame} {meth : Method} {c : Code} {H H0 : Heap} {locs : List Loc} {cells slots : Nat} {Q : State → Prop}
variable {cc : ByteArray} {pc nL : Nat} {ls : Array Slot} {rest st0 : List Value} {own : String} {ret : Option FieldType} {G : GT} {A A2 AO : Nat → Prop}
variable {q0 n b d : Nat} {f : Nat → Int32} {σ : Sg} {oad : I2 → Nat} {mf wf : Nat → Int32}
theorem k_bl (X : CF p s m args meth c cc nL own ret) (hK : KK G s) (hB : BW G q0 n f H) (j : Nat) (hj : j < n) (hn : n < 2 ^ 31) {v : Int32} (hv : f j = v) (hdg : decode cc pc = .ok (.iaload, 1))
    (kk : W p l e R s m args below meth c H locs cells slots Q (F0 m (pc + 1) ls (.int v :: rest))) : W p l e R s m args below meth c H locs cells slots Q (F0 m pc ls (.int (nI j) :: .ref q0 :: rest)) := by
  refine f_iald X hK hB.at (x := nI j) (vp_in_nI hj (by omega)) hdg ?_
  rw [nI_clamp (show j < 2 ^ 31 by omega), hv]
  exact kk
theorem k_bs (X : CF p s m args meth c cc nL own ret) (hK : KK G s) (W0 : LW G A AO b d σ oad mf wf H) (hB : BW G q0 n f H) (hq : ¬ A q0) (hqO : ¬ AO q0) (hS : va_S A2 H0 H locs) (hA : A2 q0) (j : Nat) (hj : j < n) (hn : n < 2 ^ 31) {v : Int32} (hdg : decode cc pc = .ok (.iastore, 1))
    (kk : ∀ (H1 : Heap) (locs1 : List Loc), LW G A AO b d σ oad mf wf H1 → BW G q0 n (upd f j v) H1 → va_S A2 H0 H1 locs1 → W p l e R s m args below meth c H1 locs1 cells slots Q (F0 m (pc + 1) ls rest)) : W p l e R s m args below meth c H locs cells slots Q (F0 m pc ls (.int v :: .int (nI j) :: .ref q0 :: rest)) := by
  refine k_ist X hK hB hS (fun q z => by rw [z]; exact hA) (i := (0, 0)) rfl rfl rfl (vp_in_nI hj (by omega)) hdg fun H1 locs1 F oq hz hS => ?_
  rw [nI_clamp (show j < 2 ^ 31 by omega)] at F
  obtain ⟨hL, hCB, hfr, hO⟩ := W0
  refine kk H1 locs1 ⟨hL, hCB.kept fun q h1 _ => oq q (fun z => hq (by rw [← z]; exact h1)), fun q h => hfr q (Nat.le_trans hz h), fw.kept hO fun j hj => oq _ (fun z => hqO (by rw [← z]; exact fw.in hO hj))⟩ ?_ hS
  exact fw.sub F fun j9 hj9 => ⟨hj9, rfl, by rw [hj9, iup_s]⟩
end KB
