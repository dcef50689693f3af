theorem ce_J7_copyOf_9075b : ceS yJ7_copyOf_9075b cJ7_copyOf_9075b 3 ((Option.some (FieldType.array FieldType.byte))) 2 := ⟨m_947, m_18, m_948, ⟨by decide, by decide, by decide +kernel⟩, by decide⟩
set_option maxHeartbeats 4000000 in
set_option maxRecDepth 100000 in
theorem c_J7_copyOf_9075b (l : Launch) (G : GT) (A : Nat → Prop) (hAg : ∀ q, A q → gA G q) (lv : I2 → Prop) (ad : I2 → Nat) (en : I2 → va_E) (k t : I2) (hkt : k ≠ t) (hk : lv k) (ht : ¬ lv t) (d q w : Nat) (f : Nat → Int32) (hak : ad k = d) (hek : en k = SBA G q f) (hqw : q < w) (hw : w ≤ 1000) (hft : ∀ x, x < q → fits .byte (.int (f x)) = true) : cM l yJ7_copyOf_9075b cJ7_copyOf_9075b 3 ((Option.some (FieldType.array FieldType.byte))) 1 1 w G [.ref d, .int (nI w)] (fun H => fw G.1 lv ad en A H ∧ ∀ q, H.size ≤ q → A q) (fun r H => ∃ q2, r = some (.ref q2) ∧ fw G.1 (fun j => lv j ∨ j = t) (iup ad t q2) (iup en t (SBA G w (va_cpy f (fun _ => 0) 0 0 q))) A H) A := by
  refine mk_m (by decide) (Nat.le_of_ble_eq_true rfl) ?_
  intro p e s m args below meth c X ls hl g0 F hnm
  have hK := g0.1
  have hS : va_S A s.heap s.heap [] := va_S.rf
  obtain ⟨F, hfr⟩ := F
  have hl : lv_has ls 3 [(0, .ref d), (1, .int (nI w))] := hl
  show W p l e (RM 1 1 w) s m args below meth c s.heap [] 0 0 (MQ below (cQ (fun r H => ∃ q2, r = some (.ref q2) ∧ fw G.1 (fun j => lv j ∨ j = t) (iup ad t q2) (iup en t (SBA G w (va_cpy f (fun _ => 0) 0 0 q))) A H) A) args s 1 w A) (F0 m 0 ls [])
  refine lv_iload_n X.ex X.co dJ7_copyOf_9075b_0 rfl (lv_at hl 1 rfl) ?_
  refine lv_aload_n X.ex X.co dJ7_copyOf_9075b_1 rfl (lv_at hl 0 rfl) ?_
  have at_1 := fw.get F hk hak hek
  refine f_alen X hK 3 at_1 rfl (v := nI q) rfl dJ7_copyOf_9075b_2 ?_
  refine n_cmp_ne X (x := w) (y := q) (tgt := 14) (by omega) (by omega) dJ7_copyOf_9075b_3 (by decide) (fun c_2 => ?_) (fun c_2 => ?_)
  · refine lv_iload_n X.ex X.co dJ7_copyOf_9075b_14 rfl (lv_at hl 1 rfl) ?_
    refine f_newa (atype := .byte) X hK F hS hfr t ht 3 rfl rfl (fun _ => by intro z; cases z) m_105 (a0 := (w, .inl (fun _ => 0))) (fun _ => rfl) (nI_pos (by omega)) (nI_clamp (by omega)) (by show w * 1 ≤ _; omega) (by show 0 + 1 ≤ 1; omega) (by show 0 + w ≤ w; omega) dJ7_copyOf_9075b_15 (fun q_3 H F hS => ?_)
    refine lv_astore_n (lv' := [(2, .ref q_3), (0, .ref d), (1, .int (nI w))]) X.ex X.co dJ7_copyOf_9075b_17 rfl hl (by decide) rfl (fun ls hl => ?_)
    refine lv_aload_n X.ex X.co dJ7_copyOf_9075b_18 rfl (lv_at hl 1 rfl) ?_
    refine lv_iconst (v := 0) X.ex X.co dJ7_copyOf_9075b_19 (by decide) ?_
    refine lv_aload_n X.ex X.co dJ7_copyOf_9075b_20 rfl (lv_at hl 0 rfl) ?_
    refine lv_iconst (v := 0) X.ex X.co dJ7_copyOf_9075b_21 (by decide) ?_
    refine lv_aload_n X.ex X.co dJ7_copyOf_9075b_22 rfl (lv_at hl 1 rfl) ?_
    have at_4 := fw.get F (Or.inl hk) ((iup_n _ _ hkt).trans hak) ((iup_n _ _ hkt).trans hek)
    refine f_alen X hK 3 at_4 rfl (v := nI q) rfl dJ7_copyOf_9075b_23 ?_
    refine lv_iload_n X.ex X.co dJ7_copyOf_9075b_24 rfl (lv_at hl 2 rfl) ?_
    refine f_min X hl.1 m_436 (Nat.le_of_ble_eq_true rfl) (Nat.le_of_ble_eq_true rfl) (by show _ ≤ 1; omega) (by show _ ≤ w; omega) dJ7_copyOf_9075b_25 ?_
    refine top_eq (y := nI q) (if_neg (nI_nlt (Nat.le_of_lt hqw) (by omega))) ?_
    refine f_copyB X hK F hS (Or.inl hk) ((iup_n _ _ hkt).trans hak) ((iup_n _ _ hkt).trans hek) (Or.inr rfl) (iup_s _ _ _) (iup_s _ _ _) hl.1 m_437 0 0 q (by omega) (by omega) (by omega) (by omega) hft (Nat.le_of_ble_eq_true rfl) (Nat.le_of_ble_eq_true rfl) dJ7_copyOf_9075b_28 (fun H locs F hS => ?_)
    rw [iup_iup] at F
    have F : fw G.1 (fun j => lv j ∨ j = t) (iup ad t q_3) (iup en t (.inl (G.2.1 3, w, .inl (va_cpy f (fun _ => 0) 0 0 q)))) A H := F
    refine lv_aload_n X.ex X.co dJ7_copyOf_9075b_31 rfl (lv_at hl 0 rfl) ?_
    exact c_a X hS rfl (by first | exact Or.inl ⟨_, rfl⟩ | exact Or.inr ⟨_, rfl⟩) (Or.inr ⟨_, rfl⟩) ⟨_, rfl, F⟩ (by omega) (by omega) dJ7_copyOf_9075b_32
  · exact absurd c_2 (by omega)
