set_option maxHeartbeats 4000000 in
set_option maxRecDepth 100000 in
theorem c_ensure1 (l : Launch) (G : GT) (A : Nat → Prop) (hAg : ∀ q, A q → gA G q) (lv : I2 → Prop) (ad : I2 → Nat) (en : I2 → va_E) (i k : I2) (hik : i ≠ k) (hi : lv i) (hk : lv k) (a d : Nat) (ml : Int32) (n m0 : Nat) (f : Nat → Int32) (hai : ad i = a) (hei : en i = SBO d ml n) (hak : ad k = d) (hek : en k = SBA G m0 f) (hn : n ≤ m0) (hm : m0 < 2 ^ 30) (t : I2) (hit : i ≠ t) (hkt : k ≠ t) (ht : ¬ lv t) (q M : Nat) (hq : m0 < q) (hM : M = if q - m0 < m0 + 2 then m0 + 2 else q - m0) (h0 : 0 < M) (hb : m0 + M ≤ 1000) (hqb : q < 1000) (hft : ∀ x, x < m0 → fits .byte (.int (f x)) = true) : cM l yJ5_ensureCapacityInternal_d00df cJ5_ensureCapacityInternal_d00df 3 ((Option.none : Option FieldType)) 3 1 (m0 + M) G [.ref a, .int (nI q)] (fun H => fw G.1 lv ad en A H ∧ ∀ q, H.size ≤ q → A q) (eB none (fun H => ∃ q2, fw G.1 (fun j => lv j ∨ j = k) (iup ad k q2) (iup (iup en i (SBO q2 ml n)) k (SBA G (m0 + M) (va_cpy f (fun _ => 0) 0 0 m0))) A H)) A := by
  refine mk_m (by decide) (Nat.le_of_ble_eq_true rfl) ?_
  intro p e s m args below meth c X ls hl g0 F hnm
  have hK := g0.1
  have hS : va_S A s.heap s.heap [] := va_S.rf
  obtain ⟨F, hfr⟩ := F
  have hl : lv_has ls 3 [(0, .ref a), (1, .int (nI q))] := hl
  show W p l e (RM 3 1 (m0 + M)) s m args below meth c s.heap [] 0 0 (MQ below (cQ (eB none (fun H => ∃ q2, fw G.1 (fun j => lv j ∨ j = k) (iup ad k q2) (iup (iup en i (SBO q2 ml n)) k (SBA G (m0 + M) (va_cpy f (fun _ => 0) 0 0 m0))) A H)) A) args s 1 (m0 + M) A) (F0 m 0 ls [])
  refine lv_aload_n X.ex X.co dJ5_ensureCapacityInternal_d00df_0 rfl (lv_at hl 0 rfl) ?_
  have at_1 := fw.get F hi hai hei
  refine f_get X hK at_1 okSB rfl 0 (by decide) m_91 (fun _ h => h) (v := .ref d) rfl dJ5_ensureCapacityInternal_d00df_1 ?_
  have at_2 := fw.get F hk hak hek
  refine f_alen X hK 3 at_2 rfl (v := nI m0) rfl dJ5_ensureCapacityInternal_d00df_4 ?_
  refine lv_aload_n X.ex X.co dJ5_ensureCapacityInternal_d00df_5 rfl (lv_at hl 0 rfl) ?_
  have at_3 := fw.get F hi hai hei
  refine f_get X hK at_3 okSB rfl 1 (by decide) m_92 (fun _ h => h) (v := .int 0) rfl dJ5_ensureCapacityInternal_d00df_6 ?_
  refine lv_ishr X.ex X.co dJ5_ensureCapacityInternal_d00df_9 (top_eq (y := nI m0) (by rw [pk_shrN (n := m0) (by omega) (0 &&& 31) 0 (by decide)]; simp) ?_)
  refine lv_istore_n (lv' := [(2, .int (nI m0)), (0, .ref a), (1, .int (nI q))]) X.ex X.co dJ5_ensureCapacityInternal_d00df_10 rfl hl (by decide) rfl (fun ls hl => ?_)
  refine lv_iload_n X.ex X.co dJ5_ensureCapacityInternal_d00df_11 rfl (lv_at hl 2 rfl) ?_
  refine lv_iload_n X.ex X.co dJ5_ensureCapacityInternal_d00df_12 rfl (lv_at hl 0 rfl) ?_
  refine lv_isub X.ex X.co dJ5_ensureCapacityInternal_d00df_13 ?_
  refine lv_if_le (tgt := 38) X.ex X.co dJ5_ensureCapacityInternal_d00df_14 (by decide) (fun c_4 => ?_) (fun c_4 => ?_)
  · exact absurd c_4 (sub_gt0 hq (by omega))
  · refine lv_aload_n X.ex X.co dJ5_ensureCapacityInternal_d00df_17 rfl (lv_at hl 1 rfl) ?_
    refine lv_aload_n X.ex X.co dJ5_ensureCapacityInternal_d00df_18 rfl (lv_at hl 1 rfl) ?_
    have at_5 := fw.get F hi hai hei
    refine f_get X hK at_5 okSB rfl 0 (by decide) m_91 (fun _ h => h) (v := .ref d) rfl dJ5_ensureCapacityInternal_d00df_19 ?_
    refine lv_aload_n X.ex X.co dJ5_ensureCapacityInternal_d00df_22 rfl (lv_at hl 1 rfl) ?_
    refine lv_iload_n X.ex X.co dJ5_ensureCapacityInternal_d00df_23 rfl (lv_at hl 2 rfl) ?_
    have at_6 := fw.get F hi hai hei
    have at_7 := fw.get F hk hak hek
    refine q_rU X cu_J5_newCapacity_0f7a4 (g0.2.1.2.2.2.2.2.2.1 _ (List.mem_cons_of_mem _ List.mem_cons_self) _) m_940 (c_J5_newCapacity_0f7a4 l G a d ml n m0 q M f hq hM h0 (by omega) (by omega) (by omega)) (g0.step hS hAg) ⟨at_6, at_7⟩ at_6 (by decide) rfl hl.1 rfl (Nat.le_of_ble_eq_true rfl) dJ5_ensureCapacityInternal_d00df_24 (by omega) (by omega) ?_
    refine lv_aload_n X.ex X.co dJ5_ensureCapacityInternal_d00df_27 rfl (lv_at hl 1 rfl) ?_
    have at_8 := fw.get F hi hai hei
    refine f_get X hK at_8 okSB rfl 1 (by decide) m_92 (fun _ h => h) (v := .int 0) rfl dJ5_ensureCapacityInternal_d00df_28 ?_
    refine lv_ishl X.ex X.co dJ5_ensureCapacityInternal_d00df_31 (top_eq (y := nI (m0 + M)) (by rw [pk_shlN (n := (m0 + M)) (0 &&& 31) 0 (by decide) (by omega)]; simp) ?_)
    refine q_xS (w := fun q => .ref q) X ce_J7_copyOf_9075b m_946 (c_J7_copyOf_9075b l G A hAg lv ad en k t hkt hk ht d m0 (m0 + M) f hak hek (by omega) (by omega) hft) (g0.step hS hAg) ⟨F, (fun q hq => hfr q (Nat.le_trans hS.1 hq))⟩ (by decide) rfl hl.1 rfl (Nat.le_of_ble_eq_true rfl) dJ5_ensureCapacityInternal_d00df_32 (by show 0 + 1 ≤ 1; omega) (by show 0 + (m0 + M) ≤ m0 + M; omega) hS (fun _ h => h) (fun q_9 H locs F hz hk9 hS => ?_)
    have F : fw G.1 (fun j => lv j ∨ j = t) (iup ad t q_9) (iup en t (.inl (G.2.1 3, m0 + M, .inl (va_cpy f (fun _ => 0) 0 0 m0)))) A H := F
    refine f_put X hK F hS (Or.inl hi) ((iup_n _ _ hit).trans hai) (ci := 1) (fs := [.ref d, .int 0, .int ml, .int (nI n)]) ((iup_n _ _ hit).trans hei) okSB rfl 0 (by decide) m_91 (fun _ h => h) rfl (v := .ref q_9) rfl rfl rfl (Nat.le_of_ble_eq_true rfl) dJ5_ensureCapacityInternal_d00df_35 (fun H locs F hS => ?_)
    have F : fw G.1 (fun j => lv j ∨ j = t) (iup ad t q_9) (iup (iup en t (.inl (G.2.1 3, m0 + M, .inl (va_cpy f (fun _ => 0) 0 0 m0)))) i (.inr (1, [.ref q_9, .int 0, .int ml, .int (nI n)]))) A H := F
    exact c_v X hS rfl ⟨rfl, _, fw.ren2 hkt hit ht F⟩ (by first | omega | decide) (by first | omega | decide) dJ5_ensureCapacityInternal_d00df_38
