theorem cu_J5_append_c97b9 : ceU yJ5_append_c97b9 cJ5_append_c97b9 4 ((Option.some (FieldType.object "java/lang/AbstractStringBuilder"))) 1 := ⟨m_1035, m_1756, m_5, m_1036, ⟨by decide, by decide, by decide, by decide +kernel⟩, by decide⟩
theorem ce_J4_append_bf812 : ceV yJ4_append_bf812 cJ4_append_bf812 2 ((Option.some (FieldType.object "java/lang/StringBuilder"))) 1 := ⟨m_1031, m_1032, m_6, m_1033, ⟨by decide, by decide, by decide +kernel⟩, by decide⟩
theorem dgN_le (v : Nat) : dgN v ≤ 3 := by
  unfold dgN
  split
  · omega
  · split <;> omega
set_option maxHeartbeats 4000000 in
set_option maxRecDepth 100000 in
theorem c_J5_append_c97b9 (l : Launch) (G : GT) (A : Nat → Prop) (hAg : ∀ q, A q → gA G q) (lv : I2 → Prop) (ad : I2 → Nat) (en : I2 → va_E) (i0 k : I2) (hik : i0 ≠ k) (hi0 : lv i0) (hk : lv k) (a d : Nat) (ml : Int32) (n m0 : Nat) (f : Nat → Int32) (hai : ad i0 = a) (hei : en i0 = SBO d ml n) (hak : ad k = d) (hek : en k = SBA G m0 f) (hn : n ≤ m0) (hm : m0 ≤ 100) (t : I2) (hit : i0 ≠ t) (hkt : k ≠ t) (ht0 : ¬ lv t) (hft : ∀ x, x < m0 → fits .byte (.int (f x)) = true) (v : Nat) (hv : v ≤ 100) (hnl : n + dgN v ≤ 40) : cM l yJ5_append_c97b9 cJ5_append_c97b9 4 ((Option.some (FieldType.object "java/lang/AbstractStringBuilder"))) 4 1 300 G [.ref a, .int (nI v)] (fun H => fw G.1 lv ad en A H ∧ ∀ q, H.size ≤ q → A q) (eB (some (.ref a)) (apnd G lv ad en A i0 k ml n (dgN v) f (fun x => nI ((decS v).getD x 0)))) A := by
  refine mk_m (by decide) (Nat.le_of_ble_eq_true rfl) ?_
  intro p e s m args below meth c X ls hl g0 F hnm
  have hK := g0.1
  obtain ⟨F, hfr⟩ := F
  have hS : va_S A s.heap s.heap [] := va_S.rf
  have hdg := dgN_le v
  rcases Nat.lt_or_ge m0 (n + dgN v) with hgr | hle
  · have hl : lv_has ls 4 [(0, .ref a), (1, .int (nI v))] := hl
    obtain ⟨M, hM, hM0, hM1, hM2⟩ : ∃ M, M = (if (n + dgN v) - m0 < m0 + 2 then m0 + 2 else (n + dgN v) - m0) ∧ 0 < M ∧ m0 + M ≤ 100 ∧ n + dgN v ≤ m0 + M := ⟨_, rfl, (by split <;> omega), (by split <;> omega), (by split <;> omega)⟩
    show W p l e (RM 4 1 300) s m args below meth c s.heap [] 0 0 (MQ below (cQ (eB (some (.ref a)) (apnd G lv ad en A i0 k ml n (dgN v) f (fun x => nI ((decS v).getD x 0)))) A) args s 1 300 A) (F0 m 0 ls [])
    refine lv_aload_n X.ex X.co dJ5_append_c97b9_0 rfl (lv_at hl 0 rfl) ?_
    have at_1 := fw.get F hi0 hai hei
    refine f_get X hK at_1 okSB rfl 3 (by decide) m_95 (fun _ h => h) (v := .int (nI n)) rfl dJ5_append_c97b9_1 ?_
    refine lv_istore_n (lv' := [(2, .int (nI n)), (0, .ref a), (1, .int (nI v))]) X.ex X.co dJ5_append_c97b9_4 rfl hl (by decide) rfl (fun ls hl => ?_)
    refine lv_iload_n X.ex X.co dJ5_append_c97b9_5 rfl (lv_at hl 0 rfl) ?_
    refine lv_iload_n X.ex X.co dJ5_append_c97b9_6 rfl (lv_at hl 2 rfl) ?_
    refine q_rS X ce_J6_stringSize_0f7a4 m_1037 (c_sz l G v hv) (g0.step hS hAg) trivial (by decide) rfl hl.1 rfl (Nat.le_of_ble_eq_true rfl) dJ5_append_c97b9_7 (by omega) (by omega) ?_
    refine n_add X (x := n) (y := (dgN v)) dJ5_append_c97b9_10 ?_
    refine lv_istore_n (lv' := [(3, .int (nI (n + (dgN v)))), (2, .int (nI n)), (0, .ref a), (1, .int (nI v))]) X.ex X.co dJ5_append_c97b9_11 rfl hl (by decide) rfl (fun ls hl => ?_)
    refine lv_aload_n X.ex X.co dJ5_append_c97b9_12 rfl (lv_at hl 2 rfl) ?_
    refine lv_iload_n X.ex X.co dJ5_append_c97b9_13 rfl (lv_at hl 0 rfl) ?_
    have at_2 := fw.get F hi0 hai hei
    refine q_cU X cu_J5_ensureCapacityInternal_d00df (g0.2.1.2.2.2.2.2.2.1 _ List.mem_cons_self _) m_936 (c_ensure1 l G A hAg lv ad en i0 k hik hi0 hk a d ml n m0 f hai hei hak hek hn (by omega) t hit hkt ht0 (n + (dgN v)) M (by omega) hM hM0 (by omega) (by omega) hft) (g0.step hS hAg) ⟨F, (fun q hq => hfr q (Nat.le_trans hS.1 hq))⟩ at_2 (by decide) rfl hl.1 rfl (Nat.le_of_ble_eq_true rfl) dJ5_append_c97b9_14 (by omega) (by show 0 + (m0 + M) ≤ 300; omega) hS (fun _ h => h) (fun v0 H locs hB hz hk9 hS => ?_)
    obtain ⟨rfl, q2, F⟩ := hB
    have F : fw G.1 (fun j => lv j ∨ j = k) (iup ad k q2) (iup (iup en i0 (.inr (1, [.ref q2, .int 0, .int ml, .int (nI n)]))) k (.inl (G.2.1 3, (m0 + M), .inl (va_cpy f (fun _ => 0) 0 0 m0)))) A H := F
    refine lv_aload_n X.ex X.co dJ5_append_c97b9_17 rfl (lv_at hl 2 rfl) ?_
    have at_3 := fw.get F (Or.inl hi0) ((iup_n _ _ hik).trans hai) ((iup_n _ _ hik).trans (iup_s _ _ _))
    refine q_rU X cu_J5_isLatin1_aae02 (X.ts _ m_959) m_956 (c_J5_isLatin1_aae02 l G a q2 ml n) (g0.step hS hAg) at_3 at_3 (by decide) rfl hl.1 rfl (Nat.le_of_ble_eq_true rfl) dJ5_append_c97b9_18 (by omega) (by omega) ?_
    refine lv_if_eq (tgt := 37) X.ex X.co dJ5_append_c97b9_21 (by decide) (fun c_4 => ?_) (fun c_4 => ?_)
    · exact absurd c_4 (by decide)
    · refine lv_iload_n X.ex X.co dJ5_append_c97b9_24 rfl (lv_at hl 3 rfl) ?_
      refine lv_iload_n X.ex X.co dJ5_append_c97b9_25 rfl (lv_at hl 0 rfl) ?_
      refine lv_aload_n X.ex X.co dJ5_append_c97b9_26 rfl (lv_at hl 2 rfl) ?_
      have at_5 := fw.get F (Or.inl hi0) ((iup_n _ _ hik).trans hai) ((iup_n _ _ hik).trans (iup_s _ _ _))
      refine f_get X hK at_5 okSB rfl 0 (by decide) m_91 (fun _ h => h) (v := .ref q2) rfl dJ5_append_c97b9_27 ?_
      refine q_eS X ce_J6_getChars_ba4f3 m_1040 (c_gc l G A hAg (fun j => lv j ∨ j = k) (iup ad k q2) (iup (iup en i0 (.inr (1, [.ref q2, .int 0, .int ml, .int (nI n)]))) k (.inl (G.2.1 3, (m0 + M), .inl (va_cpy f (fun _ => 0) 0 0 m0)))) k (Or.inr rfl) q2 (m0 + M) n v (va_cpy f (fun _ => 0) 0 0 m0) (iup_s _ _ _) (iup_s _ _ _) (by omega) (by omega) hv) (g0.step hS hAg) F (by decide) rfl hl.1 rfl (Nat.le_of_ble_eq_true rfl) dJ5_append_c97b9_30 (by omega) (by first | omega | (show _ ≤ 300; omega)) hS (fun _ h => h) (fun H locs F hz hk9 hS => ?_)
      obtain ⟨f9, hf9, F⟩ := F
      rw [iup_iup] at F
      have F : fw G.1 (fun j => lv j ∨ j = k) (iup ad k q2) (iup (iup en i0 (.inr (1, [.ref q2, .int 0, .int ml, .int (nI n)]))) k (.inl (G.2.1 3, (m0 + M), .inl f9))) A H := F
      refine lv_pop X.ex X.co dJ5_append_c97b9_33 rfl ?_
      refine lv_goto (tgt := 48) X.ex X.co dJ5_append_c97b9_34 (by decide) ?_
      refine lv_aload_n X.ex X.co dJ5_append_c97b9_48 rfl (lv_at hl 2 rfl) ?_
      refine lv_iload_n X.ex X.co dJ5_append_c97b9_49 rfl (lv_at hl 0 rfl) ?_
      refine f_put X hK F hS (Or.inl hi0) ((iup_n _ _ hik).trans hai) (ci := 1) (fs := [.ref q2, .int 0, .int ml, .int (nI n)]) ((iup_n _ _ hik).trans (iup_s _ _ _)) okSB rfl 3 (by decide) m_95 (fun _ h => h) rfl (v := .int (nI (n + (dgN v)))) rfl rfl rfl (Nat.le_of_ble_eq_true rfl) dJ5_append_c97b9_50 (fun H locs F hS => ?_)
      rw [iup_mid (Ne.symm hik)] at F
      have F : fw G.1 (fun j => lv j ∨ j = k) (iup ad k q2) (iup (iup en i0 (.inr (1, [.ref q2, .int 0, .int ml, .int (nI (n + (dgN v)))]))) k (.inl (G.2.1 3, (m0 + M), .inl f9))) A H := F
      refine lv_aload_n X.ex X.co dJ5_append_c97b9_53 rfl (lv_at hl 2 rfl) ?_
      exact c_a X hS rfl (Or.inl ⟨_, rfl⟩) (Or.inr ⟨_, rfl⟩) ⟨rfl, _, _, _, ⟨by omega, by omega⟩, ⟨fun x hx => (hf9.1 x hx).trans (grw_lo (by omega)), hf9.2.1, hf9.2.2 _ (grw_fit hft)⟩, F⟩ (by omega) (by first | omega | (show _ ≤ 300; omega)) dJ5_append_c97b9_54
  · have hl : lv_has ls 4 [(0, .ref a), (1, .int (nI v))] := hl
    show W p l e (RM 4 1 300) s m args below meth c s.heap [] 0 0 (MQ below (cQ (eB (some (.ref a)) (apnd G lv ad en A i0 k ml n (dgN v) f (fun x => nI ((decS v).getD x 0)))) A) args s 1 300 A) (F0 m 0 ls [])
    refine lv_aload_n X.ex X.co dJ5_append_c97b9_0 rfl (lv_at hl 0 rfl) ?_
    have at_1 := fw.get F hi0 hai hei
    refine f_get X hK at_1 okSB rfl 3 (by decide) m_95 (fun _ h => h) (v := .int (nI n)) rfl dJ5_append_c97b9_1 ?_
    refine lv_istore_n (lv' := [(2, .int (nI n)), (0, .ref a), (1, .int (nI v))]) X.ex X.co dJ5_append_c97b9_4 rfl hl (by decide) rfl (fun ls hl => ?_)
    refine lv_iload_n X.ex X.co dJ5_append_c97b9_5 rfl (lv_at hl 0 rfl) ?_
    refine lv_iload_n X.ex X.co dJ5_append_c97b9_6 rfl (lv_at hl 2 rfl) ?_
    refine q_rS X ce_J6_stringSize_0f7a4 m_1037 (c_sz l G v hv) (g0.step hS hAg) trivial (by decide) rfl hl.1 rfl (Nat.le_of_ble_eq_true rfl) dJ5_append_c97b9_7 (by omega) (by omega) ?_
    refine n_add X (x := n) (y := (dgN v)) dJ5_append_c97b9_10 ?_
    refine lv_istore_n (lv' := [(3, .int (nI (n + (dgN v)))), (2, .int (nI n)), (0, .ref a), (1, .int (nI v))]) X.ex X.co dJ5_append_c97b9_11 rfl hl (by decide) rfl (fun ls hl => ?_)
    refine lv_aload_n X.ex X.co dJ5_append_c97b9_12 rfl (lv_at hl 2 rfl) ?_
    refine lv_iload_n X.ex X.co dJ5_append_c97b9_13 rfl (lv_at hl 0 rfl) ?_
    have at_2 := fw.get F hi0 hai hei
    have at_3 := fw.get F hk hak hek
    refine q_rU X cu_J5_ensureCapacityInternal_d00df (g0.2.1.2.2.2.2.2.2.1 _ List.mem_cons_self _) m_936 (c_ensure0 l G a d ml n m0 (n + (dgN v)) f (by omega) (by omega)) (g0.step hS hAg) ⟨at_2, at_3⟩ at_2 (by decide) rfl hl.1 rfl (Nat.le_of_ble_eq_true rfl) dJ5_append_c97b9_14 (by omega) (by omega) ?_
    refine lv_aload_n X.ex X.co dJ5_append_c97b9_17 rfl (lv_at hl 2 rfl) ?_
    have at_4 := fw.get F hi0 hai hei
    refine q_rU X cu_J5_isLatin1_aae02 (X.ts _ m_959) m_956 (c_J5_isLatin1_aae02 l G a d ml n) (g0.step hS hAg) at_4 at_4 (by decide) rfl hl.1 rfl (Nat.le_of_ble_eq_true rfl) dJ5_append_c97b9_18 (by omega) (by omega) ?_
    refine lv_if_eq (tgt := 37) X.ex X.co dJ5_append_c97b9_21 (by decide) (fun c_5 => ?_) (fun c_5 => ?_)
    · exact absurd c_5 (by decide)
    · refine lv_iload_n X.ex X.co dJ5_append_c97b9_24 rfl (lv_at hl 3 rfl) ?_
      refine lv_iload_n X.ex X.co dJ5_append_c97b9_25 rfl (lv_at hl 0 rfl) ?_
      refine lv_aload_n X.ex X.co dJ5_append_c97b9_26 rfl (lv_at hl 2 rfl) ?_
      have at_6 := fw.get F hi0 hai hei
      refine f_get X hK at_6 okSB rfl 0 (by decide) m_91 (fun _ h => h) (v := .ref d) rfl dJ5_append_c97b9_27 ?_
      refine q_eS X ce_J6_getChars_ba4f3 m_1040 (c_gc l G A hAg lv ad en k hk d m0 n v f hak hek (by omega) (by omega) hv) (g0.step hS hAg) F (by decide) rfl hl.1 rfl (Nat.le_of_ble_eq_true rfl) dJ5_append_c97b9_30 (by omega) (by first | omega | (show _ ≤ 300; omega)) hS (fun _ h => h) (fun H locs F hz hk9 hS => ?_)
      obtain ⟨f9, hf9, F⟩ := F
      have F : fw G.1 lv ad (iup en k (.inl (G.2.1 3, m0, .inl f9))) A H := F
      refine lv_pop X.ex X.co dJ5_append_c97b9_33 rfl ?_
      refine lv_goto (tgt := 48) X.ex X.co dJ5_append_c97b9_34 (by decide) ?_
      refine lv_aload_n X.ex X.co dJ5_append_c97b9_48 rfl (lv_at hl 2 rfl) ?_
      refine lv_iload_n X.ex X.co dJ5_append_c97b9_49 rfl (lv_at hl 0 rfl) ?_
      refine f_put X hK F hS hi0 hai (ci := 1) (fs := [.ref d, .int 0, .int ml, .int (nI n)]) ((iup_n _ _ hik).trans hei) okSB rfl 3 (by decide) m_95 (fun _ h => h) rfl (v := .int (nI (n + (dgN v)))) rfl rfl rfl (Nat.le_of_ble_eq_true rfl) dJ5_append_c97b9_50 (fun H locs F hS => ?_)
      have F : fw G.1 lv ad (iup (iup en k (.inl (G.2.1 3, m0, .inl f9))) i0 (.inr (1, [.ref d, .int 0, .int ml, .int (nI (n + (dgN v)))]))) A H := F
      refine lv_aload_n X.ex X.co dJ5_append_c97b9_53 rfl (lv_at hl 2 rfl) ?_
      exact c_a X hS rfl (Or.inl ⟨_, rfl⟩) (Or.inr ⟨_, rfl⟩) ⟨rfl, _, _, _, ⟨hle, hm⟩, ⟨hf9.1, hf9.2.1, hf9.2.2 _ hft⟩, fw.own hk hak (by rw [iup_sw (Ne.symm hik)] at F; exact F)⟩ (by omega) (by first | omega | (show _ ≤ 300; omega)) dJ5_append_c97b9_54
set_option maxHeartbeats 4000000 in
set_option maxRecDepth 100000 in
theorem c_J4_append_bf812 (l : Launch) (G : GT) (A : Nat → Prop) (hAg : ∀ q, A q → gA G q) (lv : I2 → Prop) (ad : I2 → Nat) (en : I2 → va_E) (i0 k : I2) (hik : i0 ≠ k) (hi0 : lv i0) (hk : lv k) (a d : Nat) (ml : Int32) (n m0 : Nat) (f : Nat → Int32) (hai : ad i0 = a) (hei : en i0 = SBO d ml n) (hak : ad k = d) (hek : en k = SBA G m0 f) (hn : n ≤ m0) (hm : m0 ≤ 100) (t : I2) (hit : i0 ≠ t) (hkt : k ≠ t) (ht0 : ¬ lv t) (hft : ∀ x, x < m0 → fits .byte (.int (f x)) = true) (v : Nat) (hv : v ≤ 100) (hnl : n + dgN v ≤ 40) : cM l yJ4_append_bf812 cJ4_append_bf812 2 ((Option.some (FieldType.object "java/lang/StringBuilder"))) 5 1 300 G [.ref a, .int (nI v)] (fun H => fw G.1 lv ad en A H ∧ ∀ q, H.size ≤ q → A q) (eB (some (.ref a)) (apnd G lv ad en A i0 k ml n (dgN v) f (fun x => nI ((decS v).getD x 0)))) A := by
  refine mk_m (by decide) (Nat.le_of_ble_eq_true rfl) ?_
  intro p e s m args below meth c X ls hl g0 F hnm
  have hK := g0.1
  obtain ⟨F, hfr⟩ := F
  have hS : va_S A s.heap s.heap [] := va_S.rf
  have hl : lv_has ls 2 [(0, .ref a), (1, .int (nI v))] := hl
  show W p l e (RM 5 1 300) s m args below meth c s.heap [] 0 0 (MQ below (cQ (eB (some (.ref a)) (apnd G lv ad en A i0 k ml n (dgN v) f (fun x => nI ((decS v).getD x 0)))) A) args s 1 300 A) (F0 m 0 ls [])
  refine lv_aload_n X.ex X.co dJ4_append_bf812_0 rfl (lv_at hl 0 rfl) ?_
  refine lv_iload_n X.ex X.co dJ4_append_bf812_1 rfl (lv_at hl 1 rfl) ?_
  have at_1 := fw.get F hi0 hai hei
  refine q_cW X cu_J5_append_c97b9 m_104 m_1034 (c_J5_append_c97b9 l G A hAg lv ad en i0 k hik hi0 hk a d ml n m0 f hai hei hak hek hn hm t hit hkt ht0 hft v hv hnl) (g0.step hS hAg) ⟨F, (fun q hq => hfr q (Nat.le_trans hS.1 hq))⟩ at_1 (by decide) rfl hl.1 rfl (Nat.le_of_ble_eq_true rfl) dJ4_append_bf812_2 (by omega) (by show 0 + 300 ≤ 300; omega) hS (fun _ h => h) (fun v0 H locs hB hz hk9 hS => ?_)
  obtain ⟨rfl, hB⟩ := hB
  refine lv_pop X.ex X.co dJ4_append_bf812_5 rfl ?_
  refine lv_aload_n X.ex X.co dJ4_append_bf812_6 rfl (lv_at hl 0 rfl) ?_
  exact c_a X hS rfl (Or.inl ⟨_, rfl⟩) (Or.inr ⟨_, rfl⟩) ⟨rfl, hB⟩ (by omega) (by first | omega | (show _ ≤ 300; omega)) dJ4_append_bf812_7
