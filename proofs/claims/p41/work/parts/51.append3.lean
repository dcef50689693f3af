set_option maxHeartbeats 4000000 in
set_option maxRecDepth 100000 in
theorem c_J5_append_cf1ce (l : Launch) (G : GT) (A : Nat → Prop) (hAg : ∀ q, A q → gA G q) (lv : I2 → Prop) (ad : I2 → Nat) (en : I2 → va_E) (i0 k : I2) (hik : i0 ≠ k) (hi0 : lv i0) (hk : lv k) (a d : Nat) (ml : Int32) (n m0 : Nat) (f : Nat → Int32) (hai : ad i0 = a) (hei : en i0 = SBO d ml n) (hak : ad k = d) (hek : en k = SBA G m0 f) (hn : n ≤ m0) (hm : m0 ≤ 100) (t : I2) (hit : i0 ≠ t) (hkt : k ≠ t) (ht0 : ¬ lv t) (hft : ∀ x, x < m0 → fits .byte (.int (f x)) = true) (i : Nat) (hi : i < 5) (hnl : n + tLL.getD i 0 ≤ 40) : cM l yJ5_append_cf1ce cJ5_append_cf1ce 3 ((Option.some (FieldType.object "java/lang/AbstractStringBuilder"))) 4 1 300 G [.ref a, .ref (G.2.2 (10 + i))] (fun H => fw G.1 lv ad en A H ∧ ∀ q, H.size ≤ q → A q) (eB (some (.ref a)) (apnd G lv ad en A i0 k ml n (tLL.getD i 0) f (fun x => (tBL.getD i []).getD x 0))) A := by
  refine mk_m (by decide) (Nat.le_of_ble_eq_true rfl) ?_
  intro p e s m args below meth c X ls hl g0 F hnm
  have hK := g0.1
  obtain ⟨F, hfr⟩ := F
  have hS : va_S A s.heap s.heap [] := va_S.rf
  have ht := g0.2.2.2.2.2.2.2.1
  have htb := tLL_b i hi
  rcases Nat.lt_or_ge m0 (n + tLL.getD i 0) with hgr | hle
  · have hl : lv_has ls 3 [(0, .ref a), (1, .ref (G.2.2 (10 + i)))] := hl
    obtain ⟨M, hM, hM0, hM1, hM2⟩ : ∃ M, M = (if (n + tLL.getD i 0) - m0 < m0 + 2 then m0 + 2 else (n + tLL.getD i 0) - m0) ∧ 0 < M ∧ m0 + M ≤ 100 ∧ n + tLL.getD i 0 ≤ m0 + M := ⟨_, rfl, (by split <;> omega), (by split <;> omega), (by split <;> omega)⟩
    show W p l e (RM 4 1 300) s m args below meth c s.heap [] 0 0 (MQ below (cQ (eB (some (.ref a)) (apnd G lv ad en A i0 k ml n (tLL.getD i 0) f (fun x => (tBL.getD i []).getD x 0))) A) args s 1 300 A) (F0 m 0 ls [])
    refine lv_aload_n X.ex X.co dJ5_append_cf1ce_0 rfl (lv_at hl 1 rfl) ?_
    refine lv_ifnonnull (tgt := 9) X.ex X.co dJ5_append_cf1ce_1 (by decide) ?_
    refine lv_aload_n X.ex X.co dJ5_append_cf1ce_9 rfl (lv_at hl 1 rfl) ?_
    refine q_rC X ce_J0_length_8abf5 m_987 (c_J0_length_8abf5 l G i hi) (g0.step hS hAg) trivial (t_cell g0 hS hAg hi) (by decide) rfl hl.1 rfl (Nat.le_of_ble_eq_true rfl) dJ5_append_cf1ce_10 (by omega) (by omega) ?_
    refine lv_istore_n (lv' := [(2, .int (nI (tLL.getD i 0))), (0, .ref a), (1, .ref (G.2.2 (10 + i)))]) X.ex X.co dJ5_append_cf1ce_13 rfl hl (by decide) rfl (fun ls hl => ?_)
    refine lv_aload_n X.ex X.co dJ5_append_cf1ce_14 rfl (lv_at hl 1 rfl) ?_
    refine lv_aload_n X.ex X.co dJ5_append_cf1ce_15 rfl (lv_at hl 1 rfl) ?_
    have at_1 := fw.get F hi0 hai hei
    refine f_get X hK at_1 okSB rfl 3 (by decide) m_95 (fun _ h => h) (v := .int (nI n)) rfl dJ5_append_cf1ce_16 ?_
    refine lv_iload_n X.ex X.co dJ5_append_cf1ce_19 rfl (lv_at hl 0 rfl) ?_
    refine n_add X (x := n) (y := (tLL.getD i 0)) dJ5_append_cf1ce_20 ?_
    have at_2 := fw.get F hi0 hai hei
    refine q_cU X cu_J5_ensureCapacityInternal_d00df (g0.2.1.2.2.2.2.2.2.1 _ List.mem_cons_self _) m_936 (c_ensure1 l G A hAg lv ad en i0 k hik hi0 hk a d ml n m0 f hai hei hak hek hn (by omega) t hit hkt ht0 (n + (tLL.getD i 0)) M (by omega) hM hM0 (by omega) (by omega) hft) (g0.step hS hAg) ⟨F, (fun q hq => hfr q (Nat.le_trans hS.1 hq))⟩ at_2 (by decide) rfl hl.1 rfl (Nat.le_of_ble_eq_true rfl) dJ5_append_cf1ce_21 (by omega) (by show 0 + (m0 + M) ≤ 300; omega) hS (fun _ h => h) (fun v0 H locs hB hz hk9 hS => ?_)
    obtain ⟨rfl, q2, F⟩ := hB
    have F : fw G.1 (fun j => lv j ∨ j = k) (iup ad k q2) (iup (iup en i0 (.inr (1, [.ref q2, .int 0, .int ml, .int (nI n)]))) k (.inl (G.2.1 3, (m0 + M), .inl (va_cpy f (fun _ => 0) 0 0 m0)))) A H := F
    refine lv_aload_n X.ex X.co dJ5_append_cf1ce_24 rfl (lv_at hl 1 rfl) ?_
    refine lv_aload_n X.ex X.co dJ5_append_cf1ce_25 rfl (lv_at hl 1 rfl) ?_
    have at_3 := fw.get F (Or.inl hi0) ((iup_n _ _ hik).trans hai) ((iup_n _ _ hik).trans (iup_s _ _ _))
    refine f_get X hK at_3 okSB rfl 3 (by decide) m_95 (fun _ h => h) (v := .int (nI n)) rfl dJ5_append_cf1ce_26 ?_
    refine lv_aload_n X.ex X.co dJ5_append_cf1ce_29 rfl (lv_at hl 2 rfl) ?_
    have at_4 := fw.get F (Or.inl hi0) ((iup_n _ _ hik).trans hai) ((iup_n _ _ hik).trans (iup_s _ _ _))
    refine q_cU X cu_J5_putStringAt_47b60 (g0.2.1.2.2.2.2.2.2.1 _ (List.mem_cons_of_mem _ (List.mem_cons_of_mem _ List.mem_cons_self)) _) m_996 (c_J5_putStringAt_47b60 l G A hAg (fun j => lv j ∨ j = k) (iup ad k q2) (iup (iup en i0 (.inr (1, [.ref q2, .int 0, .int ml, .int (nI n)]))) k (.inl (G.2.1 3, (m0 + M), .inl (va_cpy f (fun _ => 0) 0 0 m0)))) i0 k hik (Or.inl hi0) (Or.inr rfl) a q2 ml n (m0 + M) (va_cpy f (fun _ => 0) 0 0 m0) ((iup_n _ _ hik).trans hai) ((iup_n _ _ hik).trans (iup_s _ _ _)) (iup_s _ _ _) (iup_s _ _ _) (by omega) (by omega) i hi (by omega)) (g0.step hS hAg) F at_4 (by decide) rfl hl.1 rfl (Nat.le_of_ble_eq_true rfl) dJ5_append_cf1ce_30 (by omega) (by show 0 + (m0 + M) + 0 ≤ 300; omega) hS (fun _ h => h) (fun v0 H locs hB hz hk9 hS => ?_)
    obtain ⟨rfl, F⟩ := hB
    rw [iup_iup] at F
    have F : fw G.1 (fun j => lv j ∨ j = k) (iup ad k q2) (iup (iup en i0 (.inr (1, [.ref q2, .int 0, .int ml, .int (nI n)]))) k (.inl (G.2.1 3, (m0 + M), .inl (va_cpy (fun x => (tBL.getD i []).getD x 0) (va_cpy f (fun _ => 0) 0 0 m0) 0 n (tLL.getD i 0))))) A H := F
    refine lv_aload_n X.ex X.co dJ5_append_cf1ce_33 rfl (lv_at hl 1 rfl) ?_
    refine lv_dup X.ex X.co dJ5_append_cf1ce_34 rfl ?_
    have at_5 := fw.get F (Or.inl hi0) ((iup_n _ _ hik).trans hai) ((iup_n _ _ hik).trans (iup_s _ _ _))
    refine f_get X hK at_5 okSB rfl 3 (by decide) m_95 (fun _ h => h) (v := .int (nI n)) rfl dJ5_append_cf1ce_35 ?_
    refine lv_iload_n X.ex X.co dJ5_append_cf1ce_38 rfl (lv_at hl 0 rfl) ?_
    refine n_add X (x := n) (y := (tLL.getD i 0)) dJ5_append_cf1ce_39 ?_
    refine f_put X hK F hS (Or.inl hi0) ((iup_n _ _ hik).trans hai) (ci := 1) (fs := [.ref q2, .int 0, .int ml, .int (nI n)]) ((iup_n _ _ hik).trans (iup_s _ _ _)) okSB rfl 3 (by decide) m_95 (fun _ h => h) rfl (v := .int (nI (n + (tLL.getD i 0)))) rfl rfl rfl (Nat.le_of_ble_eq_true rfl) dJ5_append_cf1ce_40 (fun H locs F hS => ?_)
    rw [iup_mid (Ne.symm hik)] at F
    have F : fw G.1 (fun j => lv j ∨ j = k) (iup ad k q2) (iup (iup en i0 (.inr (1, [.ref q2, .int 0, .int ml, .int (nI (n + (tLL.getD i 0)))]))) k (.inl (G.2.1 3, (m0 + M), .inl (va_cpy (fun x => (tBL.getD i []).getD x 0) (va_cpy f (fun _ => 0) 0 0 m0) 0 n (tLL.getD i 0))))) A H := F
    refine lv_aload_n X.ex X.co dJ5_append_cf1ce_43 rfl (lv_at hl 1 rfl) ?_
    exact c_a X hS rfl (Or.inl ⟨_, rfl⟩) (Or.inr ⟨_, rfl⟩) ⟨rfl, _, _, _, ⟨by omega, hM1⟩, ⟨fun x hx => (cpy_lo hx).trans (grw_lo (by omega)), fun x hx => cpy_in hx, cpy_fit (tft i hi) (grw_fit hft)⟩, F⟩ (by omega) (by first | omega | (show _ ≤ 300; omega)) dJ5_append_cf1ce_44
  · have hl : lv_has ls 3 [(0, .ref a), (1, .ref (G.2.2 (10 + i)))] := hl
    show W p l e (RM 4 1 300) s m args below meth c s.heap [] 0 0 (MQ below (cQ (eB (some (.ref a)) (apnd G lv ad en A i0 k ml n (tLL.getD i 0) f (fun x => (tBL.getD i []).getD x 0))) A) args s 1 300 A) (F0 m 0 ls [])
    refine lv_aload_n X.ex X.co dJ5_append_cf1ce_0 rfl (lv_at hl 1 rfl) ?_
    refine lv_ifnonnull (tgt := 9) X.ex X.co dJ5_append_cf1ce_1 (by decide) ?_
    refine lv_aload_n X.ex X.co dJ5_append_cf1ce_9 rfl (lv_at hl 1 rfl) ?_
    refine q_rC X ce_J0_length_8abf5 m_987 (c_J0_length_8abf5 l G i hi) (g0.step hS hAg) trivial (t_cell g0 hS hAg hi) (by decide) rfl hl.1 rfl (Nat.le_of_ble_eq_true rfl) dJ5_append_cf1ce_10 (by omega) (by omega) ?_
    refine lv_istore_n (lv' := [(2, .int (nI (tLL.getD i 0))), (0, .ref a), (1, .ref (G.2.2 (10 + i)))]) X.ex X.co dJ5_append_cf1ce_13 rfl hl (by decide) rfl (fun ls hl => ?_)
    refine lv_aload_n X.ex X.co dJ5_append_cf1ce_14 rfl (lv_at hl 1 rfl) ?_
    refine lv_aload_n X.ex X.co dJ5_append_cf1ce_15 rfl (lv_at hl 1 rfl) ?_
    have at_1 := fw.get F hi0 hai hei
    refine f_get X hK at_1 okSB rfl 3 (by decide) m_95 (fun _ h => h) (v := .int (nI n)) rfl dJ5_append_cf1ce_16 ?_
    refine lv_iload_n X.ex X.co dJ5_append_cf1ce_19 rfl (lv_at hl 0 rfl) ?_
    refine n_add X (x := n) (y := (tLL.getD i 0)) dJ5_append_cf1ce_20 ?_
    have at_2 := fw.get F hi0 hai hei
    have at_3 := fw.get F hk hak hek
    refine q_rU X cu_J5_ensureCapacityInternal_d00df (g0.2.1.2.2.2.2.2.2.1 _ List.mem_cons_self _) m_936 (c_ensure0 l G a d ml n m0 (n + (tLL.getD i 0)) f (by omega) (by omega)) (g0.step hS hAg) ⟨at_2, at_3⟩ at_2 (by decide) rfl hl.1 rfl (Nat.le_of_ble_eq_true rfl) dJ5_append_cf1ce_21 (by omega) (by omega) ?_
    refine lv_aload_n X.ex X.co dJ5_append_cf1ce_24 rfl (lv_at hl 1 rfl) ?_
    refine lv_aload_n X.ex X.co dJ5_append_cf1ce_25 rfl (lv_at hl 1 rfl) ?_
    have at_4 := fw.get F hi0 hai hei
    refine f_get X hK at_4 okSB rfl 3 (by decide) m_95 (fun _ h => h) (v := .int (nI n)) rfl dJ5_append_cf1ce_26 ?_
    refine lv_aload_n X.ex X.co dJ5_append_cf1ce_29 rfl (lv_at hl 2 rfl) ?_
    have at_5 := fw.get F hi0 hai hei
    refine q_cU X cu_J5_putStringAt_47b60 (g0.2.1.2.2.2.2.2.2.1 _ (List.mem_cons_of_mem _ (List.mem_cons_of_mem _ List.mem_cons_self)) _) m_996 (c_J5_putStringAt_47b60 l G A hAg lv ad en i0 k hik hi0 hk a d ml n m0 f hai hei hak hek hn (by omega) i hi (by omega)) (g0.step hS hAg) F at_5 (by decide) rfl hl.1 rfl (Nat.le_of_ble_eq_true rfl) dJ5_append_cf1ce_30 (by omega) (by omega) hS (fun _ h => h) (fun v0 H locs hB hz hk9 hS => ?_)
    obtain ⟨rfl, F⟩ := hB
    refine lv_aload_n X.ex X.co dJ5_append_cf1ce_33 rfl (lv_at hl 1 rfl) ?_
    refine lv_dup X.ex X.co dJ5_append_cf1ce_34 rfl ?_
    have at_6 := fw.get F hi0 hai ((iup_n _ _ hik).trans hei)
    refine f_get X hK at_6 okSB rfl 3 (by decide) m_95 (fun _ h => h) (v := .int (nI n)) rfl dJ5_append_cf1ce_35 ?_
    refine lv_iload_n X.ex X.co dJ5_append_cf1ce_38 rfl (lv_at hl 0 rfl) ?_
    refine n_add X (x := n) (y := (tLL.getD i 0)) dJ5_append_cf1ce_39 ?_
    refine f_put X hK F hS hi0 hai (ci := 1) (fs := [.ref d, .int 0, .int ml, .int (nI n)]) ((iup_n _ _ hik).trans hei) okSB rfl 3 (by decide) m_95 (fun _ h => h) rfl (v := .int (nI (n + (tLL.getD i 0)))) rfl rfl rfl (Nat.le_of_ble_eq_true rfl) dJ5_append_cf1ce_40 (fun H locs F hS => ?_)
    have F : fw G.1 lv ad (iup (iup en k (.inl (G.2.1 3, m0, .inl (va_cpy (fun x => (tBL.getD i []).getD x 0) f 0 n (tLL.getD i 0))))) i0 (.inr (1, [.ref d, .int 0, .int ml, .int (nI (n + (tLL.getD i 0)))]))) A H := F
    refine lv_aload_n X.ex X.co dJ5_append_cf1ce_43 rfl (lv_at hl 1 rfl) ?_
    exact c_a X hS rfl (Or.inl ⟨_, rfl⟩) (Or.inr ⟨_, rfl⟩) ⟨rfl, _, _, _, ⟨hle, hm⟩, ⟨fun x hx => cpy_lo hx, fun x hx => cpy_in hx, cpy_fit (tft i hi) hft⟩, fw.own hk hak (by rw [iup_sw (Ne.symm hik)] at F; exact F)⟩ (by omega) (by first | omega | (show _ ≤ 300; omega)) dJ5_append_cf1ce_44
set_option maxHeartbeats 4000000 in
set_option maxRecDepth 100000 in
theorem c_J4_append_15ec4 (l : Launch) (G : GT) (A : Nat → Prop) (hAg : ∀ q, A q → gA G q) (lv : I2 → Prop) (ad : I2 → Nat) (en : I2 → va_E) (i0 k : I2) (hik : i0 ≠ k) (hi0 : lv i0) (hk : lv k) (a d : Nat) (ml : Int32) (n m0 : Nat) (f : Nat → Int32) (hai : ad i0 = a) (hei : en i0 = SBO d ml n) (hak : ad k = d) (hek : en k = SBA G m0 f) (hn : n ≤ m0) (hm : m0 ≤ 100) (t : I2) (hit : i0 ≠ t) (hkt : k ≠ t) (ht0 : ¬ lv t) (hft : ∀ x, x < m0 → fits .byte (.int (f x)) = true) (i : Nat) (hi : i < 5) (hnl : n + tLL.getD i 0 ≤ 40) : cM l yJ4_append_15ec4 cJ4_append_15ec4 2 ((Option.some (FieldType.object "java/lang/StringBuilder"))) 5 1 300 G [.ref a, .ref (G.2.2 (10 + i))] (fun H => fw G.1 lv ad en A H ∧ ∀ q, H.size ≤ q → A q) (eB (some (.ref a)) (apnd G lv ad en A i0 k ml n (tLL.getD i 0) f (fun x => (tBL.getD i []).getD x 0))) A := by
  refine mk_m (by decide) (Nat.le_of_ble_eq_true rfl) ?_
  intro p e s m args below meth c X ls hl g0 F hnm
  have hK := g0.1
  have hS : va_S A s.heap s.heap [] := va_S.rf
  have ht := g0.2.2.2.2.2.2.2.1
  obtain ⟨F, hfr⟩ := F
  have hl : lv_has ls 2 [(0, .ref a), (1, .ref (G.2.2 (10 + i)))] := hl
  show W p l e (RM 5 1 300) s m args below meth c s.heap [] 0 0 (MQ below (cQ (eB (some (.ref a)) (apnd G lv ad en A i0 k ml n (tLL.getD i 0) f (fun x => (tBL.getD i []).getD x 0))) A) args s 1 300 A) (F0 m 0 ls [])
  refine lv_aload_n X.ex X.co dJ4_append_15ec4_0 rfl (lv_at hl 0 rfl) ?_
  refine lv_aload_n X.ex X.co dJ4_append_15ec4_1 rfl (lv_at hl 1 rfl) ?_
  have at_1 := fw.get F hi0 hai hei
  refine q_cW X cu_J5_append_cf1ce m_104 m_929 (c_J5_append_cf1ce l G A hAg lv ad en i0 k hik hi0 hk a d ml n m0 f hai hei hak hek hn hm t hit hkt ht0 hft i hi hnl) (g0.step hS hAg) ⟨F, (fun q hq => hfr q (Nat.le_trans hS.1 hq))⟩ at_1 (by decide) rfl hl.1 rfl (Nat.le_of_ble_eq_true rfl) dJ4_append_15ec4_2 (by omega) (by show 0 + 300 ≤ 300; omega) hS (fun _ h => h) (fun v0 H locs hB hz hk9 hS => ?_)
  obtain ⟨rfl, hB⟩ := hB
  refine lv_pop X.ex X.co dJ4_append_15ec4_5 rfl ?_
  refine lv_aload_n X.ex X.co dJ4_append_15ec4_6 rfl (lv_at hl 0 rfl) ?_
  exact c_a X hS rfl (Or.inl ⟨_, rfl⟩) (Or.inr ⟨_, rfl⟩) ⟨rfl, hB⟩ (by omega) (by first | omega | (show _ ≤ 300; omega)) dJ4_append_15ec4_7
