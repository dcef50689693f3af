theorem ce_J8_newLength_cabcc : ceS yJ8_newLength_cabcc cJ8_newLength_cabcc 4 ((Option.some FieldType.int)) 3 := ⟨m_394, m_16, m_395, ⟨by decide, by decide, by decide +kernel⟩, by decide⟩
theorem ce_J7_copyOf_6403c : ceS yJ7_copyOf_6403c cJ7_copyOf_6403c 4 ((Option.some (FieldType.array (FieldType.object "java/lang/Object")))) 3 := ⟨m_431, m_18, m_432, ⟨by decide, by decide, by decide +kernel⟩, by decide⟩
theorem ce_J7_copyOf_1904c : ceS yJ7_copyOf_1904c cJ7_copyOf_1904c 2 ((Option.some (FieldType.array (FieldType.object "java/lang/Object")))) 2 := ⟨m_402, m_18, m_403, ⟨by decide, by decide, by decide +kernel⟩, by decide⟩
theorem ce_Jx4a65c_grow_92f84 : ceV yJx4a65c_grow_92f84 cJx4a65c_grow_92f84 4 ((Option.some (FieldType.array (FieldType.object "java/lang/Object")))) 1 := ⟨m_391, mp_7, m_4, m_392, ⟨by decide, by decide, by decide +kernel⟩, by decide⟩
theorem ce_Jx4a65c_grow_d5877 : ceV yJx4a65c_grow_d5877 cJx4a65c_grow_d5877 1 ((Option.some (FieldType.array (FieldType.object "java/lang/Object")))) 0 := ⟨m_387, mp_6, m_4, m_388, ⟨by decide, by decide, by decide +kernel⟩, by decide⟩
theorem ce_Jx4a65c_add_72be8 : ceV yJx4a65c_add_72be8 cJx4a65c_add_72be8 4 ((Option.none : Option FieldType)) 3 := ⟨m_383, mp_5, m_4, m_384, ⟨by decide, by decide, by decide +kernel⟩, by decide⟩
theorem ce_Jx4a65c_add_9ea2d : ceV yJx4a65c_add_9ea2d cJx4a65c_add_9ea2d 2 ((Option.some FieldType.boolean)) 1 := ⟨m_378, m_379, m_4, m_380, ⟨by decide, by decide, by decide +kernel⟩, by decide⟩
set_option maxHeartbeats 4000000 in
set_option maxRecDepth 100000 in
theorem c_J8_newLength_cabcc (l : Launch) (G : GT) (x y z M : Nat) (hM : M = if y < z then z else y) (h0 : 0 < M) (hb : x + M ≤ 1073741824) (hy : y < 2 ^ 31) (hz : z < 2 ^ 31) : rM l yJ8_newLength_cabcc cJ8_newLength_cabcc 4 ((Option.some FieldType.int)) 1 G [.int (nI x), .int (nI y), .int (nI z)] (fun _ => True) (some (.int (nI (x + M)))) := by
  refine mk_m (by decide) (Nat.le_of_ble_eq_true rfl) ?_
  intro p e s m args below meth c X ls hl g0 F hnm
  have hK := g0.1
  have hl : lv_has ls 4 [(0, .int (nI x)), (1, .int (nI y)), (2, .int (nI z))] := hl
  show Wr p l e 1 s m args below meth c (some (.int (nI (x + M)))) 0 ls []
  refine lv_iload_n X.ex X.co dJ8_newLength_cabcc_0 rfl (lv_at hl 0 rfl) ?_
  refine lv_iload_n X.ex X.co dJ8_newLength_cabcc_1 rfl (lv_at hl 1 rfl) ?_
  refine lv_iload_n X.ex X.co dJ8_newLength_cabcc_2 rfl (lv_at hl 2 rfl) ?_
  refine f_max X hl.1 m_396 (Nat.le_of_ble_eq_true rfl) (Nat.le_of_ble_eq_true rfl) (by show _ ≤ 0; omega) (by show _ ≤ 0; omega) dJ8_newLength_cabcc_3 ?_
  refine top_eq (y := nI M) (by rw [hM]; by_cases hc : y < z; exact (if_pos (nI_lt hc hz)).trans (by rw [if_pos hc]); exact (if_neg (nI_nlt (by omega) hy)).trans (by rw [if_neg hc])) ?_
  refine n_add X (x := x) (y := M) dJ8_newLength_cabcc_6 ?_
  refine lv_istore_n (lv' := [(3, .int (nI (x + M))), (0, .int (nI x)), (1, .int (nI y)), (2, .int (nI z))]) X.ex X.co dJ8_newLength_cabcc_7 rfl hl (by decide) rfl (fun ls hl => ?_)
  refine lv_iconst (v := 0) X.ex X.co dJ8_newLength_cabcc_8 (by decide) ?_
  refine lv_iload_n X.ex X.co dJ8_newLength_cabcc_9 rfl (lv_at hl 0 rfl) ?_
  refine n_cmp_ge X (x := 0) (y := x + M) (tgt := 21) (by omega) (by omega) dJ8_newLength_cabcc_10 (by decide) (fun c_1 => ?_) (fun c_1 => ?_)
  · exact absurd c_1 (by omega)
  · refine lv_iload_n X.ex X.co dJ8_newLength_cabcc_13 rfl (lv_at hl 0 rfl) ?_
    refine lv_ldc (v := 2147483639) X.ex X.co X.ow (X.ts _ m_397) dJ8_newLength_cabcc_14 ?_
    refine n_cmp_gt X (x := x + M) (y := 2147483639) (tgt := 21) (by omega) (by omega) dJ8_newLength_cabcc_16 (by decide) (fun c_2 => ?_) (fun c_2 => ?_)
    · exact absurd c_2 (by omega)
    · refine lv_iload_n X.ex X.co dJ8_newLength_cabcc_19 rfl (lv_at hl 0 rfl) ?_
      exact r_i X rfl rfl rfl dJ8_newLength_cabcc_20
set_option maxHeartbeats 4000000 in
set_option maxRecDepth 100000 in
theorem c_J7_copyOf_6403c (l : Launch) (G : GT) (A : Nat → Prop) (hAg : ∀ q, A q → gA G q) (lv : I2 → Prop) (ad : I2 → Nat) (en : I2 → va_E) (k t : I2) (hkt : k ≠ t) (hk : lv k) (ht : ¬ lv t) (d q w : Nat) (f : Nat → Option Nat) (hak : ad k = d) (hek : en k = LA G q f) (hqw : q ≤ w) (hw : w ≤ 1000) (hf : okF lv ad en f q) : cM l yJ7_copyOf_6403c cJ7_copyOf_6403c 4 ((Option.some (FieldType.array (FieldType.object "java/lang/Object")))) 1 1 w G [.ref d, .int (nI w), .ref (G.2.2 4)] (fun H => fw G.1 lv ad en A H ∧ ∀ q, H.size ≤ q → A q) (fun r H => ∃ q2, r = some (.ref q2) ∧ fw G.1 (fun j => lv j ∨ j = t) (iup ad t q2) (iup en t (LA G w (va_cpy f (fun _ => none) 0 0 q))) A H) A := by
  refine mk_m (by decide) (Nat.le_of_ble_eq_true rfl) ?_
  intro p e s m args below meth c X ls hl g0 F hnm
  have hK := g0.1
  have hS : va_S A s.heap s.heap [] := va_S.rf
  obtain ⟨F, hfr⟩ := F
  have hl : lv_has ls 4 [(0, .ref d), (1, .int (nI w)), (2, .ref (G.2.2 4))] := hl
  show W p l e (RM 1 1 w) s m args below meth c s.heap [] 0 0 (MQ below (cQ (fun r H => ∃ q2, r = some (.ref q2) ∧ fw G.1 (fun j => lv j ∨ j = t) (iup ad t q2) (iup en t (LA G w (va_cpy f (fun _ => none) 0 0 q))) A H) A) args s 1 w A) (F0 m 0 ls [])
  refine lv_aload_n X.ex X.co dJ7_copyOf_6403c_0 rfl (lv_at hl 2 rfl) ?_
  refine va_ldcM X.ex X.co X.ow (X.ts _ m_433) g0.2.1.2.2.2.1 dJ7_copyOf_6403c_1 ?_
  refine lv_acmp_ne (rx := (some (G.2.2 4))) (ry := (some (G.2.2 4))) (tgt := 13) X.ex X.co dJ7_copyOf_6403c_3 (by decide) (fun c_1 => ?_) (fun c_1 => ?_)
  · exact absurd rfl c_1
  · refine lv_iload_n X.ex X.co dJ7_copyOf_6403c_6 rfl (lv_at hl 1 rfl) ?_
    refine f_newq X hK g0.2.1.1 F hS hfr t ht m_435 (N' := w) (nI_pos (by omega)) (nI_clamp (by omega)) (by omega) (by show 0 + 1 ≤ 1; omega) (by show 0 + w ≤ w; omega) dJ7_copyOf_6403c_7 (fun q_2 H F hS => ?_)
    refine lv_goto (tgt := 24) X.ex X.co dJ7_copyOf_6403c_10 (by decide) ?_
    refine lv_astore_n (lv' := [(3, .ref q_2), (0, .ref d), (1, .int (nI w)), (2, .ref (G.2.2 4))]) X.ex X.co dJ7_copyOf_6403c_24 rfl hl (by decide) rfl (fun ls hl => ?_)
    refine lv_aload_n X.ex X.co dJ7_copyOf_6403c_25 rfl (lv_at hl 1 rfl) ?_
    refine lv_iconst (v := 0) X.ex X.co dJ7_copyOf_6403c_26 (by decide) ?_
    refine lv_aload_n X.ex X.co dJ7_copyOf_6403c_27 rfl (lv_at hl 0 rfl) ?_
    refine lv_iconst (v := 0) X.ex X.co dJ7_copyOf_6403c_28 (by decide) ?_
    refine lv_aload_n X.ex X.co dJ7_copyOf_6403c_29 rfl (lv_at hl 1 rfl) ?_
    have at_3 := fw.get F (Or.inl hk) ((iup_n _ _ hkt).trans hak) ((iup_n _ _ hkt).trans hek)
    refine f_alen X hK 4 at_3 rfl (v := nI q) rfl dJ7_copyOf_6403c_30 ?_
    refine lv_iload_n X.ex X.co dJ7_copyOf_6403c_31 rfl (lv_at hl 2 rfl) ?_
    refine f_min X hl.1 m_436 (Nat.le_of_ble_eq_true rfl) (Nat.le_of_ble_eq_true rfl) (by show _ ≤ 1; omega) (by show _ ≤ w; omega) dJ7_copyOf_6403c_32 ?_
    refine top_eq (y := nI q) (if_neg (nI_nlt hqw (by omega))) ?_
    refine f_copyM X hK g0.2.1 F hS (Or.inl hk) ((iup_n _ _ hkt).trans hak) ((iup_n _ _ hkt).trans hek) (Or.inr rfl) (iup_s _ _ _) (iup_s _ _ _) hl.1 m_437 0 0 q (by omega) (by omega) (by omega) (by omega) (fun x hx y hy => by obtain ⟨e1, ci, vs, r, h1, h2, h3, h4, h5⟩ := hf x hx y hy; have hne : e1 ≠ t := (fun z => ht (z ▸ h1)); exact ⟨e1, ci, vs, r, Or.inl h1, (iup_n _ _ hne).trans h2, (iup_n _ _ hne).trans h3, h4, h5⟩) (Nat.le_of_ble_eq_true rfl) (Nat.le_of_ble_eq_true rfl) dJ7_copyOf_6403c_35 (fun H locs F hS => ?_)
    rw [iup_iup] at F
    have F : fw G.1 (fun j => lv j ∨ j = t) (iup ad t q_2) (iup en t (.inl (G.2.1 4, w, .inr (.inr (.inr (.inr (va_cpy f (fun _ => none) 0 0 q))))))) A H := F
    refine lv_aload_n X.ex X.co dJ7_copyOf_6403c_38 rfl (lv_at hl 0 rfl) ?_
    exact c_a X hS rfl (by first | exact Or.inl ⟨_, rfl⟩ | exact Or.inr ⟨_, rfl⟩) (Or.inr ⟨_, rfl⟩) ⟨_, rfl, F⟩ (by first | omega | decide) (by first | omega | decide) dJ7_copyOf_6403c_39
