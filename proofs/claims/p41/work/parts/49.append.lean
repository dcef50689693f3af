theorem cu_J5_inflateIfNeededFor_a7421 : ceU yJ5_inflateIfNeededFor_a7421 cJ5_inflateIfNeededFor_a7421 2 ((Option.none : Option FieldType)) 1 := ⟨m_1002, m_1754, m_5, m_1003, ⟨by decide, by decide, by decide, by decide +kernel⟩, by decide⟩
theorem cu_J5_putStringAt_47b60 : ceU yJ5_putStringAt_47b60 cJ5_putStringAt_47b60 3 ((Option.none : Option FieldType)) 2 := ⟨m_998, m_1753, m_5, m_999, ⟨by decide, by decide, by decide, by decide +kernel⟩, by decide⟩
theorem cu_J5_append_cf1ce : ceU yJ5_append_cf1ce cJ5_append_cf1ce 3 ((Option.some (FieldType.object "java/lang/AbstractStringBuilder"))) 1 := ⟨m_930, m_1749, m_5, m_931, ⟨by decide, by decide, by decide, by decide +kernel⟩, by decide⟩
theorem ce_J4_append_15ec4 : ceV yJ4_append_15ec4 cJ4_append_15ec4 2 ((Option.some (FieldType.object "java/lang/StringBuilder"))) 1 := ⟨m_926, m_927, m_6, m_928, ⟨by decide, by decide, by decide +kernel⟩, by decide⟩
set_option maxHeartbeats 4000000 in
set_option maxRecDepth 100000 in
theorem c_J5_inflateIfNeededFor_a7421 (l : Launch) (G : GT) (a d : Nat) (ml : Int32) (n i : Nat) (hi : i < 5) : rM l yJ5_inflateIfNeededFor_a7421 cJ5_inflateIfNeededFor_a7421 2 ((Option.none : Option FieldType)) 1 G [.ref a, .ref (G.2.2 (10 + i))] (fun H => va_at G.1 vwCl (a, SBO d ml n) H) none := by
  refine mk_m (by decide) (Nat.le_of_ble_eq_true rfl) ?_
  intro p e s m args below meth c X ls hl g0 F hnm
  have hK := g0.1
  have ht := g0.2.2.2.2.2.2.2.1
  have hl : lv_has ls 2 [(0, .ref a), (1, .ref (G.2.2 (10 + i)))] := hl
  show Wr p l e 1 s m args below meth c none 0 ls []
  refine va_gets X.ex X.co g0.2.2.2.2.1 (va_S.rf (A := gA G)) X.ow (X.ts _ m_82) (fun _ h => h) dJ5_inflateIfNeededFor_a7421_0 ?_
  refine lv_if_eq (tgt := 21) X.ex X.co dJ5_inflateIfNeededFor_a7421_3 (by decide) (fun c_1 => ?_) (fun c_1 => ?_)
  · exact absurd c_1 (by decide)
  · refine lv_aload_n X.ex X.co dJ5_inflateIfNeededFor_a7421_6 rfl (lv_at hl 0 rfl) ?_
    refine f_get X hK F okSB rfl 1 (by decide) m_92 (fun _ h => h) (v := .int 0) rfl dJ5_inflateIfNeededFor_a7421_7 ?_
    refine lv_aload_n X.ex X.co dJ5_inflateIfNeededFor_a7421_10 rfl (lv_at hl 1 rfl) ?_
    refine q_rC X ce_J0_coder_7d493 m_1004 (c_J0_coder_7d493 l G i hi) g0 trivial (t_cell (A := gA G) g0 va_S.rf (fun _ h => h) hi) (by decide) rfl hl.1 rfl (Nat.le_of_ble_eq_true rfl) dJ5_inflateIfNeededFor_a7421_11 (by omega) (by omega) ?_
    refine lv_icmp_eq (tgt := 21) X.ex X.co dJ5_inflateIfNeededFor_a7421_14 (by decide) (fun c_3 => ?_) (fun c_3 => ?_)
    · exact r_v X rfl rfl dJ5_inflateIfNeededFor_a7421_21
    · exact absurd (by decide) c_3
set_option maxHeartbeats 4000000 in
set_option maxRecDepth 100000 in
theorem c_J5_putStringAt_47b60 (l : Launch) (G : GT) (A : Nat → Prop) (hAg : ∀ q, A q → gA G q) (lv : I2 → Prop) (ad : I2 → Nat) (en : I2 → va_E) (i0 k : I2) (hik : i0 ≠ k) (hi0 : lv i0) (hk : lv k) (a d : Nat) (ml : Int32) (n m0 : Nat) (f : Nat → Int32) (hai : ad i0 = a) (hei : en i0 = SBO d ml n) (hak : ad k = d) (hek : en k = SBA G m0 f) (hn : n ≤ m0) (hm : m0 < 2 ^ 30) (i : Nat) (hi : i < 5) (hp : n + tLL.getD i 0 ≤ m0) : cM l yJ5_putStringAt_47b60 cJ5_putStringAt_47b60 3 ((Option.none : Option FieldType)) 2 0 0 G [.ref a, .int (nI n), .ref (G.2.2 (10 + i))] (fw G.1 lv ad en A) (eB none (fw G.1 lv ad (iup en k (SBA G m0 (va_cpy (fun x => (tBL.getD i []).getD x 0) f 0 n (tLL.getD i 0)))) A)) A := by
  refine mk_m (by decide) (Nat.le_of_ble_eq_true rfl) ?_
  intro p e s m args below meth c X ls hl g0 F hnm
  have hK := g0.1
  have hS : va_S A s.heap s.heap [] := va_S.rf
  have ht := g0.2.2.2.2.2.2.2.1
  have hl : lv_has ls 3 [(0, .ref a), (1, .int (nI n)), (2, .ref (G.2.2 (10 + i)))] := hl
  show W p l e (RM 2 0 0) s m args below meth c s.heap [] 0 0 (MQ below (cQ (eB none (fw G.1 lv ad (iup en k (SBA G m0 (va_cpy (fun x => (tBL.getD i []).getD x 0) f 0 n (tLL.getD i 0)))) A)) A) args s 0 0 A) (F0 m 0 ls [])
  refine lv_aload_n X.ex X.co dJ5_putStringAt_47b60_0 rfl (lv_at hl 0 rfl) ?_
  refine lv_aload_n X.ex X.co dJ5_putStringAt_47b60_1 rfl (lv_at hl 2 rfl) ?_
  have at_1 := fw.get F hi0 hai hei
  refine q_rU X cu_J5_inflateIfNeededFor_a7421 (g0.2.1.2.2.2.2.2.2.1 _ (List.mem_cons_of_mem _ (List.mem_cons_of_mem _ (List.mem_cons_of_mem _ List.mem_cons_self))) _) m_1000 (c_J5_inflateIfNeededFor_a7421 l G a d ml n i hi) (g0.step hS hAg) at_1 at_1 (by decide) rfl hl.1 rfl (Nat.le_of_ble_eq_true rfl) dJ5_putStringAt_47b60_2 (by omega) (by omega) ?_
  refine lv_aload_n X.ex X.co dJ5_putStringAt_47b60_5 rfl (lv_at hl 2 rfl) ?_
  refine lv_aload_n X.ex X.co dJ5_putStringAt_47b60_6 rfl (lv_at hl 0 rfl) ?_
  have at_2 := fw.get F hi0 hai hei
  refine f_get X hK at_2 okSB rfl 0 (by decide) m_91 (fun _ h => h) (v := .ref d) rfl dJ5_putStringAt_47b60_7 ?_
  refine lv_iload_n X.ex X.co dJ5_putStringAt_47b60_10 rfl (lv_at hl 1 rfl) ?_
  refine lv_aload_n X.ex X.co dJ5_putStringAt_47b60_11 rfl (lv_at hl 0 rfl) ?_
  have at_3 := fw.get F hi0 hai hei
  refine f_get X hK at_3 okSB rfl 1 (by decide) m_92 (fun _ h => h) (v := .int 0) rfl dJ5_putStringAt_47b60_12 ?_
  refine q_cC X ce_J0_getBytes_840e7 m_1024 (c_J0_getBytes_840e7 l G A hAg lv ad en k hk d m0 n i hi f hak hek hp hm) (g0.step hS hAg) F (t_cell g0 hS hAg hi) (by decide) rfl hl.1 rfl (Nat.le_of_ble_eq_true rfl) dJ5_putStringAt_47b60_15 (by omega) (by omega) hS (fun _ h => h) (fun v0 H locs hB hz hk9 hS => ?_)
  obtain ⟨rfl, F⟩ := hB
  exact c_v X hS rfl ⟨rfl, F⟩ (by first | omega | decide) (by first | omega | decide) dJ5_putStringAt_47b60_18
