set_option maxHeartbeats 4000000 in
set_option maxRecDepth 100000 in
theorem c_J7_copyOf_1904c (l : Launch) (G : GT) (A : Nat → Prop) (hAg : ∀ q, A q → gA G q) (lv : I2 → Prop) (ad : I2 → Nat) (en : I2 → va_E) (k t : I2) (hkt : k ≠ t) (hk : lv k) (ht : ¬ lv t) (d q w : Nat) (f : Nat → Option Nat) (hak : ad k = d) (hek : en k = LA G q f) (hqw : q ≤ w) (hw : w ≤ 1000) (hf : okF lv ad en f q) : cM l yJ7_copyOf_1904c cJ7_copyOf_1904c 2 ((Option.some (FieldType.array (FieldType.object "java/lang/Object")))) 2 1 w G [.ref d, .int (nI w)] (fun H => fw G.1 lv ad en A H ∧ ∀ q, H.size ≤ q → A q) (fun r H => ∃ q2, r = some (.ref q2) ∧ fw G.1 (fun j => lv j ∨ j = t) (iup ad t q2) (iup en t (LA G w (va_cpy f (fun _ => none) 0 0 q))) A H) A := by
  refine mk_m (by decide) (Nat.le_of_ble_eq_true rfl) ?_
  intro p e s m args below meth c X ls hl g0 F hnm
  have hK := g0.1
  have hS : va_S A s.heap s.heap [] := va_S.rf
  obtain ⟨F, hfr⟩ := F
  have hl : lv_has ls 2 [(0, .ref d), (1, .int (nI w))] := hl
  show W p l e (RM 2 1 w) s m args below meth c s.heap [] 0 0 (MQ below (cQ (fun r H => ∃ q2, r = some (.ref q2) ∧ fw G.1 (fun j => lv j ∨ j = t) (iup ad t q2) (iup en t (LA G w (va_cpy f (fun _ => none) 0 0 q))) A H) A) args s 1 w A) (F0 m 0 ls [])
  refine lv_aload_n X.ex X.co dJ7_copyOf_1904c_0 rfl (lv_at hl 0 rfl) ?_
  refine lv_iload_n X.ex X.co dJ7_copyOf_1904c_1 rfl (lv_at hl 1 rfl) ?_
  refine lv_aload_n X.ex X.co dJ7_copyOf_1904c_2 rfl (lv_at hl 0 rfl) ?_
  have at_1 := fw.get F hk hak hek
  refine f_getC X hK g0.2.1 at_1 hl.1 (Nat.le_of_ble_eq_true rfl) (Nat.le_of_ble_eq_true rfl) dJ7_copyOf_1904c_3 ?_
  refine q_xS (w := fun q => .ref q) X ce_J7_copyOf_6403c m_430 (c_J7_copyOf_6403c l G A hAg lv ad en k t hkt hk ht d q w f hak hek hqw hw hf) (g0.step hS hAg) ⟨F, (fun q hq => hfr q (Nat.le_trans hS.1 hq))⟩ (by decide) rfl hl.1 rfl (Nat.le_of_ble_eq_true rfl) dJ7_copyOf_1904c_6 (by show 0 + 1 ≤ 1; omega) (by show 0 + w ≤ w; omega) hS (fun _ h => h) (fun q_2 H locs F hz hk9 hS => ?_)
  have F : fw G.1 (fun j => lv j ∨ j = t) (iup ad t q_2) (iup en t (.inl (G.2.1 4, w, .inr (.inr (.inr (.inr (va_cpy f (fun _ => none) 0 0 q))))))) A H := F
  exact c_a X hS rfl (by first | exact Or.inl ⟨_, rfl⟩ | exact Or.inr ⟨_, rfl⟩) (Or.inr ⟨_, rfl⟩) ⟨_, rfl, F⟩ (by first | omega | decide) (by first | omega | decide) dJ7_copyOf_1904c_9
set_option maxHeartbeats 4000000 in
set_option maxRecDepth 100000 in
theorem c_Jx4a65c_grow_92f84 (l : Launch) (G : GT) (A : Nat → Prop) (hAg : ∀ q, A q → gA G q) (lv : I2 → Prop) (ad : I2 → Nat) (en : I2 → va_E) (i k t : I2) (hki : k ≠ i) (hit : i ≠ t) (hkt : k ≠ t) (hi : lv i) (ht : ¬ lv t) (a d q : Nat) (x : Int32) (f : Nat → Option Nat) (hai : ad i = a) (hei : en i = LO x d q) (hla : la G lv ad en k d q f) (hq : q ≤ 400) (hf : okF lv ad en f q) (hfn : ∀ x, q ≤ x → f x = none) : cM l yJx4a65c_grow_92f84 cJx4a65c_grow_92f84 4 ((Option.some (FieldType.array (FieldType.object "java/lang/Object")))) 3 1 (gcap q) G [.ref a, .int (nI (q + 1))] (fun H => fw G.1 lv ad en A H ∧ ∀ q, H.size ≤ q → A q) (fun r H => ∃ q2, r = some (.ref q2) ∧ fw G.1 (fun j => lv j ∨ j = k) (iup ad k q2) (iup (iup en i (LO x q2 q)) k (LA G (gcap q) f)) A H) A := by
  refine mk_m (by decide) (Nat.le_of_ble_eq_true rfl) ?_
  intro p e s m args below meth c X ls hl g0 F hnm
  have hK := g0.1
  have hS : va_S A s.heap s.heap [] := va_S.rf
  obtain ⟨F, hfr⟩ := F
  rcases hla with ⟨rfl, hnk, rfl, rfl⟩ | ⟨h0, hk, hak, hek⟩
  · have hl : lv_has ls 4 [(0, .ref a), (1, .int (nI (0 + 1)))] := hl
    show W p l e (RM 3 1 (gcap 0)) s m args below meth c s.heap [] 0 0 (MQ below (cQ (fun r H => ∃ q2, r = some (.ref q2) ∧ fw G.1 (fun j => lv j ∨ j = k) (iup ad k q2) (iup (iup en i (LO x q2 0)) k (LA G (gcap 0) (fun _ => none))) A H) A) args s 1 (gcap 0) A) (F0 m 0 ls [])
    refine lv_aload_n X.ex X.co dJx4a65c_grow_92f84_0 rfl (lv_at hl 0 rfl) ?_
    have at_1 := fw.get F hi hai hei
    refine f_get X hK at_1 okAL rfl 1 (by decide) m_61 (fun _ h => h) (v := .ref (G.2.2 0)) rfl dJx4a65c_grow_92f84_1 ?_
    refine f_emptyN X g0 hS hAg dJx4a65c_grow_92f84_4 ?_
    refine lv_istore_n (lv' := [(2, .int (nI 0)), (0, .ref a), (1, .int (nI (0 + 1)))]) X.ex X.co dJx4a65c_grow_92f84_5 rfl hl (by decide) rfl (fun ls hl => ?_)
    refine lv_iload_n X.ex X.co dJx4a65c_grow_92f84_6 rfl (lv_at hl 0 rfl) ?_
    refine lv_if_gt (tgt := 20) X.ex X.co dJx4a65c_grow_92f84_7 (by decide) (fun c_2 => ?_) (fun c_2 => ?_)
    · exact absurd c_2 (by decide)
    · refine lv_aload_n X.ex X.co dJx4a65c_grow_92f84_10 rfl (lv_at hl 1 rfl) ?_
      have at_3 := fw.get F hi hai hei
      refine f_get X hK at_3 okAL rfl 1 (by decide) m_61 (fun _ h => h) (v := .ref (G.2.2 0)) rfl dJx4a65c_grow_92f84_11 ?_
      refine f_empty X g0 hS hAg dJx4a65c_grow_92f84_14 ?_
      refine lv_acmp_eq (rx := (some (G.2.2 0))) (ry := (some (G.2.2 0))) (tgt := 45) X.ex X.co dJx4a65c_grow_92f84_17 (by decide) (fun c_4 => ?_) (fun c_4 => ?_)
      · refine lv_aload_n X.ex X.co dJx4a65c_grow_92f84_45 rfl (lv_at hl 1 rfl) ?_
        refine lv_bipush (v := 10) X.ex X.co dJx4a65c_grow_92f84_46 (by decide) ?_
        refine lv_iload_n X.ex X.co dJx4a65c_grow_92f84_48 rfl (lv_at hl 2 rfl) ?_
        refine f_max X hl.1 m_440 (Nat.le_of_ble_eq_true rfl) (Nat.le_of_ble_eq_true rfl) (by show _ ≤ 1; omega) (by show _ ≤ gcap 0; omega) dJx4a65c_grow_92f84_49 ?_
        refine top_eq (y := nI 10) (by decide) ?_
        refine f_newq X hK g0.2.1.1 F hS hfr k hnk m_441 (N' := 10) (nI_pos (by omega)) (nI_clamp (by omega)) (by omega) (by show 0 + 1 ≤ 1; omega) (by show 0 + 10 ≤ gcap 0; decide) dJx4a65c_grow_92f84_52 (fun q_5 H F hS => ?_)
        refine lv_dup_x1 X.ex X.co dJx4a65c_grow_92f84_55 rfl rfl ?_
        refine f_put X hK F hS (Or.inl hi) ((iup_n _ _ (Ne.symm hki)).trans hai) (ci := 4) (fs := [.int x, .ref (G.2.2 0), .int (nI 0)]) ((iup_n _ _ (Ne.symm hki)).trans hei) okAL rfl 1 (by decide) m_61 (fun _ h => h) rfl (v := .ref q_5) rfl rfl rfl (Nat.le_of_ble_eq_true rfl) dJx4a65c_grow_92f84_56 (fun H locs F hS => ?_)
        have F : fw G.1 (fun j => lv j ∨ j = k) (iup ad k q_5) (iup (iup en k (.inl (G.2.1 4, 10, .inr (.inr (.inr (.inr (fun _ => none))))))) i (.inr (4, [.int x, .ref q_5, .int (nI 0)]))) A H := F
        exact c_a X hS rfl (by first | exact Or.inl ⟨_, rfl⟩ | exact Or.inr ⟨_, rfl⟩) (Or.inr ⟨_, rfl⟩) ⟨_, rfl, (by rw [iup_sw hki] at F; exact F)⟩ (by first | omega | decide) (by first | omega | decide) dJx4a65c_grow_92f84_59
      · exact absurd rfl c_4
  · have hl : lv_has ls 4 [(0, .ref a), (1, .int (nI (q + 1)))] := hl
    obtain ⟨M, hM, hM0, hM1⟩ : ∃ M, M = (if 1 < q / 2 then q / 2 else 1) ∧ 0 < M ∧ M ≤ q := ⟨_, rfl, (by split <;> omega), (by split <;> omega)⟩
    have hg : gcap q = q + M := by unfold gcap; rw [if_neg (by omega), ← hM]
    rw [hg]
    show W p l e (RM 3 1 (q + M)) s m args below meth c s.heap [] 0 0 (MQ below (cQ (fun r H => ∃ q2, r = some (.ref q2) ∧ fw G.1 (fun j => lv j ∨ j = k) (iup ad k q2) (iup (iup en i (LO x q2 q)) k (LA G (q + M) f)) A H) A) args s 1 (q + M) A) (F0 m 0 ls [])
    refine lv_aload_n X.ex X.co dJx4a65c_grow_92f84_0 rfl (lv_at hl 0 rfl) ?_
    have at_1 := fw.get F hi hai hei
    refine f_get X hK at_1 okAL rfl 1 (by decide) m_61 (fun _ h => h) (v := .ref d) rfl dJx4a65c_grow_92f84_1 ?_
    have at_2 := fw.get F hk hak hek
    refine f_alen X hK 4 at_2 rfl (v := nI q) rfl dJx4a65c_grow_92f84_4 ?_
    refine lv_istore_n (lv' := [(2, .int (nI q)), (0, .ref a), (1, .int (nI (q + 1)))]) X.ex X.co dJx4a65c_grow_92f84_5 rfl hl (by decide) rfl (fun ls hl => ?_)
    refine lv_iload_n X.ex X.co dJx4a65c_grow_92f84_6 rfl (lv_at hl 0 rfl) ?_
    refine n_if_gt X (x := q) (tgt := 20) (by omega) dJx4a65c_grow_92f84_7 (by decide) (fun c_3 => ?_) (fun c_3 => ?_)
    · refine lv_iload_n X.ex X.co dJx4a65c_grow_92f84_20 rfl (lv_at hl 0 rfl) ?_
      refine lv_iload_n X.ex X.co dJx4a65c_grow_92f84_21 rfl (lv_at hl 2 rfl) ?_
      refine lv_iload_n X.ex X.co dJx4a65c_grow_92f84_22 rfl (lv_at hl 0 rfl) ?_
      refine n_sub X (x := q + 1) (y := q) (by omega) dJx4a65c_grow_92f84_23 ?_
      refine lv_iload_n X.ex X.co dJx4a65c_grow_92f84_24 rfl (lv_at hl 0 rfl) ?_
      refine lv_iconst (v := 1) X.ex X.co dJx4a65c_grow_92f84_25 (by decide) ?_
      refine lv_ishr X.ex X.co dJx4a65c_grow_92f84_26 ?_
      refine top_eq (y := nI (q / 2)) (pk_shrN (n := q) (by omega) (1 &&& 31) 1 (by decide)) ?_
      refine q_rS X ce_J8_newLength_cabcc m_393 (c_J8_newLength_cabcc l G q (q + 1 - q) (q / 2) M (by rw [Nat.add_sub_cancel_left]; exact hM) hM0 (by omega) (by omega) (by omega)) (g0.step hS hAg) trivial (by decide) rfl hl.1 rfl (Nat.le_of_ble_eq_true rfl) dJx4a65c_grow_92f84_27 (by omega) (by omega) ?_
      refine lv_istore_n (lv' := [(3, .int (nI (q + M))), (2, .int (nI q)), (0, .ref a), (1, .int (nI (q + 1)))]) X.ex X.co dJx4a65c_grow_92f84_30 rfl hl (by decide) rfl (fun ls hl => ?_)
      refine lv_aload_n X.ex X.co dJx4a65c_grow_92f84_31 rfl (lv_at hl 2 rfl) ?_
      refine lv_aload_n X.ex X.co dJx4a65c_grow_92f84_32 rfl (lv_at hl 2 rfl) ?_
      have at_4 := fw.get F hi hai hei
      refine f_get X hK at_4 okAL rfl 1 (by decide) m_61 (fun _ h => h) (v := .ref d) rfl dJx4a65c_grow_92f84_33 ?_
      refine lv_iload_n X.ex X.co dJx4a65c_grow_92f84_36 rfl (lv_at hl 0 rfl) ?_
      refine q_xS (w := fun q => .ref q) X ce_J7_copyOf_1904c m_401 (c_J7_copyOf_1904c l G A hAg lv ad en k t hkt hk ht d q (q + M) f hak hek (by omega) (by omega) hf) (g0.step hS hAg) ⟨F, (fun q hq => hfr q (Nat.le_trans hS.1 hq))⟩ (by decide) rfl hl.1 rfl (Nat.le_of_ble_eq_true rfl) dJx4a65c_grow_92f84_37 (by show 0 + 1 ≤ 1; omega) (by show 0 + (q + M) ≤ q + M; omega) hS (fun _ h => h) (fun q_5 H locs F hz hk9 hS => ?_)
      have F : fw G.1 (fun j => lv j ∨ j = t) (iup ad t q_5) (iup en t (.inl (G.2.1 4, q + M, .inr (.inr (.inr (.inr (va_cpy f (fun _ => none) 0 0 q))))))) A H := F
      refine lv_dup_x1 X.ex X.co dJx4a65c_grow_92f84_40 rfl rfl ?_
      refine f_put X hK F hS (Or.inl hi) ((iup_n _ _ hit).trans hai) (ci := 4) (fs := [.int x, .ref d, .int (nI q)]) ((iup_n _ _ hit).trans hei) okAL rfl 1 (by decide) m_61 (fun _ h => h) rfl (v := .ref q_5) rfl rfl rfl (Nat.le_of_ble_eq_true rfl) dJx4a65c_grow_92f84_41 (fun H locs F hS => ?_)
      have F : fw G.1 (fun j => lv j ∨ j = t) (iup ad t q_5) (iup (iup en t (.inl (G.2.1 4, q + M, .inr (.inr (.inr (.inr (va_cpy f (fun _ => none) 0 0 q))))))) i (.inr (4, [.int x, .ref q_5, .int (nI q)]))) A H := F
      exact c_a X hS rfl (by first | exact Or.inl ⟨_, rfl⟩ | exact Or.inr ⟨_, rfl⟩) (Or.inr ⟨_, rfl⟩) ⟨_, rfl, (by have F := fw.ren2 hkt hit ht F; rw [cpy_all hfn] at F; exact F)⟩ (by first | omega | decide) (by first | omega | decide) dJx4a65c_grow_92f84_44
    · exact absurd c_3 (by omega)
