theorem sub_le0 {q m0 : Nat} (h : q ≤ m0) (hm : m0 < 2 ^ 30) : nI q - nI m0 ≤ 0 := by
  rw [Int32.le_iff_toInt_le, pk_sub_toInt (by omega) hm, Int32.toInt_zero]
  omega
theorem sub_gt0 {q m0 : Nat} (h : m0 < q) (hm : q < 2 ^ 30) : ¬ nI q - nI m0 ≤ 0 := by
  rw [Int32.le_iff_toInt_le, pk_sub_toInt hm (by omega), Int32.toInt_zero]
  omega
theorem cu_J5_ensureCapacityInternal_d00df : ceU yJ5_ensureCapacityInternal_d00df cJ5_ensureCapacityInternal_d00df 3 ((Option.none : Option FieldType)) 1 := ⟨m_938, m_1751, m_5, m_939, ⟨by decide, by decide, by decide, by decide +kernel⟩, by decide⟩
theorem cu_J5_setLength_d00df : ceU yJ5_setLength_d00df cJ5_setLength_d00df 2 ((Option.none : Option FieldType)) 1 := ⟨m_1269, m_1757, m_5, m_1270, ⟨by decide, by decide, by decide, by decide +kernel⟩, by decide⟩
theorem ce_J4_setLength_d00df : ceV yJ4_setLength_d00df cJ4_setLength_d00df 2 ((Option.none : Option FieldType)) 1 := ⟨m_1265, m_1266, m_6, m_1267, ⟨by decide, by decide, by decide +kernel⟩, by decide⟩
set_option maxHeartbeats 4000000 in
set_option maxRecDepth 100000 in
theorem c_ensure0 (l : Launch) (G : GT) (a d : Nat) (ml : Int32) (n m0 q : Nat) (f : Nat → Int32) (hq : q ≤ m0) (hm : m0 < 2 ^ 30) : rM l yJ5_ensureCapacityInternal_d00df cJ5_ensureCapacityInternal_d00df 3 ((Option.none : Option FieldType)) 0 G [.ref a, .int (nI q)] (fun H => va_at G.1 vwCl (a, SBO d ml n) H ∧ va_at G.1 vwCl (d, SBA G m0 f) H) none := by
  refine mk_m (by decide) (Nat.le_of_ble_eq_true rfl) ?_
  intro p e s m args below meth c X ls hl g0 F hnm
  have hK := g0.1
  have hl : lv_has ls 3 [(0, .ref a), (1, .int (nI q))] := hl
  show Wr p l e 0 s m args below meth c none 0 ls []
  refine lv_aload_n X.ex X.co dJ5_ensureCapacityInternal_d00df_0 rfl (lv_at hl 0 rfl) ?_
  refine f_get X hK F.1 okSB rfl 0 (by decide) m_91 (fun _ h => h) (v := .ref d) rfl dJ5_ensureCapacityInternal_d00df_1 ?_
  refine f_alen X hK 3 F.2 rfl (v := nI m0) rfl dJ5_ensureCapacityInternal_d00df_4 ?_
  refine lv_aload_n X.ex X.co dJ5_ensureCapacityInternal_d00df_5 rfl (lv_at hl 0 rfl) ?_
  refine f_get X hK F.1 okSB rfl 1 (by decide) m_92 (fun _ h => h) (v := .int 0) rfl dJ5_ensureCapacityInternal_d00df_6 ?_
  refine lv_ishr X.ex X.co dJ5_ensureCapacityInternal_d00df_9 (top_eq (y := nI m0) (by rw [pk_shrN (n := m0) (by omega) (0 &&& 31) 0 (by decide)]; simp) ?_)
  refine lv_istore_n (lv' := [(2, .int (nI m0)), (0, .ref a), (1, .int (nI q))]) X.ex X.co dJ5_ensureCapacityInternal_d00df_10 rfl hl (by decide) rfl (fun ls hl => ?_)
  refine lv_iload_n X.ex X.co dJ5_ensureCapacityInternal_d00df_11 rfl (lv_at hl 2 rfl) ?_
  refine lv_iload_n X.ex X.co dJ5_ensureCapacityInternal_d00df_12 rfl (lv_at hl 0 rfl) ?_
  refine lv_isub X.ex X.co dJ5_ensureCapacityInternal_d00df_13 ?_
  refine lv_if_le (tgt := 38) X.ex X.co dJ5_ensureCapacityInternal_d00df_14 (by decide) (fun c_4 => ?_) (fun c_4 => ?_)
  · exact r_v X rfl rfl dJ5_ensureCapacityInternal_d00df_38
  · exact absurd (sub_le0 hq hm) c_4
set_option maxHeartbeats 4000000 in
set_option maxRecDepth 100000 in
theorem c_J5_setLength_d00df (l : Launch) (G : GT) (A : Nat → Prop) (hAg : ∀ q, A q → gA G q) (lv : I2 → Prop) (ad : I2 → Nat) (en : I2 → va_E) (i k : I2) (hik : i ≠ k) (hi : lv i) (hk : lv k) (a d : Nat) (ml : Int32) (n m0 : Nat) (f : Nat → Int32) (hai : ad i = a) (hei : en i = SBO d ml n) (hak : ad k = d) (hek : en k = SBA G m0 f) (hn : n ≤ m0) (hm : m0 < 2 ^ 30) : cM l yJ5_setLength_d00df cJ5_setLength_d00df 2 ((Option.none : Option FieldType)) 1 0 0 G [.ref a, .int (nI 0)] (fw G.1 lv ad en A) (eB none (fun H => ∃ ml2, fw G.1 lv ad (iup en i (SBO d ml2 0)) A H)) A := by
  refine mk_m (by decide) (Nat.le_of_ble_eq_true rfl) ?_
  intro p e s m args below meth c X ls hl g0 F hnm
  have hK := g0.1
  have hS : va_S A s.heap s.heap [] := va_S.rf
  have hl : lv_has ls 2 [(0, .ref a), (1, .int (nI 0))] := hl
  show W p l e (RM 1 0 0) s m args below meth c s.heap [] 0 0 (MQ below (cQ (eB none (fun H => ∃ ml2, fw G.1 lv ad (iup en i (SBO d ml2 0)) A H)) A) args s 0 0 A) (F0 m 0 ls [])
  refine lv_iload_n X.ex X.co dJ5_setLength_d00df_0 rfl (lv_at hl 1 rfl) ?_
  refine n_if_ge X (x := 0) (tgt := 13) (by omega) dJ5_setLength_d00df_1 (by decide) (fun c_1 => ?_) (fun c_1 => ?_)
  · refine lv_aload_n X.ex X.co dJ5_setLength_d00df_13 rfl (lv_at hl 0 rfl) ?_
    refine lv_iload_n X.ex X.co dJ5_setLength_d00df_14 rfl (lv_at hl 1 rfl) ?_
    have at_2 := fw.get F hi hai hei
    have at_3 := fw.get F hk hak hek
    refine q_rU X cu_J5_ensureCapacityInternal_d00df (g0.2.1.2.2.2.2.2.2.1 _ List.mem_cons_self _) m_936 (c_ensure0 l G a d ml n m0 0 f (by omega) hm) (g0.step hS hAg) ⟨at_2, at_3⟩ at_2 (by decide) rfl hl.1 rfl (Nat.le_of_ble_eq_true rfl) dJ5_setLength_d00df_15 (by omega) (by omega) ?_
    refine lv_aload_n X.ex X.co dJ5_setLength_d00df_18 rfl (lv_at hl 0 rfl) ?_
    have at_4 := fw.get F hi hai hei
    refine f_get X hK at_4 okSB rfl 3 (by decide) m_95 (fun _ h => h) (v := .int (nI n)) rfl dJ5_setLength_d00df_19 ?_
    refine lv_iload_n X.ex X.co dJ5_setLength_d00df_22 rfl (lv_at hl 1 rfl) ?_
    refine n_cmp_ge X (x := n) (y := 0) (tgt := 63) (by omega) (by omega) dJ5_setLength_d00df_23 (by decide) (fun c_5 => ?_) (fun c_5 => ?_)
    · refine lv_aload_n X.ex X.co dJ5_setLength_d00df_63 rfl (lv_at hl 0 rfl) ?_
      have at_6 := fw.get F hi hai hei
      refine f_get X hK at_6 okSB rfl 3 (by decide) m_95 (fun _ h => h) (v := .int (nI n)) rfl dJ5_setLength_d00df_64 ?_
      refine lv_iload_n X.ex X.co dJ5_setLength_d00df_67 rfl (lv_at hl 1 rfl) ?_
      refine n_cmp_le X (x := n) (y := 0) (tgt := 76) (by omega) (by omega) dJ5_setLength_d00df_68 (by decide) (fun c_7 => ?_) (fun c_7 => ?_)
      · refine lv_aload_n X.ex X.co dJ5_setLength_d00df_76 rfl (lv_at hl 0 rfl) ?_
        refine lv_iload_n X.ex X.co dJ5_setLength_d00df_77 rfl (lv_at hl 1 rfl) ?_
        refine f_put X hK F hS hi hai (ci := 1) (fs := [.ref d, .int 0, .int ml, .int (nI n)]) hei okSB rfl 3 (by decide) m_95 (fun _ h => h) rfl (v := .int (nI 0)) rfl rfl rfl (Nat.le_of_ble_eq_true rfl) dJ5_setLength_d00df_78 (fun H locs F hS => ?_)
        have F : fw G.1 lv ad (iup en i (.inr (1, [.ref d, .int 0, .int ml, .int (nI 0)]))) A H := F
        exact c_v X hS rfl ⟨rfl, _, F⟩ (by first | omega | decide) (by first | omega | decide) dJ5_setLength_d00df_81
      · refine lv_aload_n X.ex X.co dJ5_setLength_d00df_71 rfl (lv_at hl 0 rfl) ?_
        refine lv_iconst (v := 1) X.ex X.co dJ5_setLength_d00df_72 (by decide) ?_
        refine f_put X hK F hS hi hai (ci := 1) (fs := [.ref d, .int 0, .int ml, .int (nI n)]) hei okSB rfl 2 (by decide) m_93 (fun _ h => h) rfl (v := .int 1) rfl rfl rfl (Nat.le_of_ble_eq_true rfl) dJ5_setLength_d00df_73 (fun H locs F hS => ?_)
        have F : fw G.1 lv ad (iup en i (.inr (1, [.ref d, .int 0, .int 1, .int (nI n)]))) A H := F
        refine lv_aload_n X.ex X.co dJ5_setLength_d00df_76 rfl (lv_at hl 0 rfl) ?_
        refine lv_iload_n X.ex X.co dJ5_setLength_d00df_77 rfl (lv_at hl 1 rfl) ?_
        refine f_put X hK F hS hi hai (ci := 1) (fs := [.ref d, .int 0, .int 1, .int (nI n)]) (iup_s _ _ _) okSB rfl 3 (by decide) m_95 (fun _ h => h) rfl (v := .int (nI 0)) rfl rfl rfl (Nat.le_of_ble_eq_true rfl) dJ5_setLength_d00df_78 (fun H locs F hS => ?_)
        rw [iup_iup] at F
        have F : fw G.1 lv ad (iup en i (.inr (1, [.ref d, .int 0, .int 1, .int (nI 0)]))) A H := F
        exact c_v X hS rfl ⟨rfl, _, F⟩ (by first | omega | decide) (by first | omega | decide) dJ5_setLength_d00df_81
    · exact absurd c_5 (by omega)
  · exact c_1.elim
set_option maxHeartbeats 4000000 in
set_option maxRecDepth 100000 in
theorem c_J4_setLength_d00df (l : Launch) (G : GT) (A : Nat → Prop) (hAg : ∀ q, A q → gA G q) (lv : I2 → Prop) (ad : I2 → Nat) (en : I2 → va_E) (i k : I2) (hik : i ≠ k) (hi : lv i) (hk : lv k) (a d : Nat) (ml : Int32) (n m0 : Nat) (f : Nat → Int32) (hai : ad i = a) (hei : en i = SBO d ml n) (hak : ad k = d) (hek : en k = SBA G m0 f) (hn : n ≤ m0) (hm : m0 < 2 ^ 30) : cM l yJ4_setLength_d00df cJ4_setLength_d00df 2 ((Option.none : Option FieldType)) 2 0 0 G [.ref a, .int (nI 0)] (fw G.1 lv ad en A) (eB none (fun H => ∃ ml2, fw G.1 lv ad (iup en i (SBO d ml2 0)) A H)) A := by
  refine mk_m (by decide) (Nat.le_of_ble_eq_true rfl) ?_
  intro p e s m args below meth c X ls hl g0 F hnm
  have hK := g0.1
  have hS : va_S A s.heap s.heap [] := va_S.rf
  have hl : lv_has ls 2 [(0, .ref a), (1, .int (nI 0))] := hl
  show W p l e (RM 2 0 0) s m args below meth c s.heap [] 0 0 (MQ below (cQ (eB none (fun H => ∃ ml2, fw G.1 lv ad (iup en i (SBO d ml2 0)) A H)) A) args s 0 0 A) (F0 m 0 ls [])
  refine lv_aload_n X.ex X.co dJ4_setLength_d00df_0 rfl (lv_at hl 0 rfl) ?_
  refine lv_iload_n X.ex X.co dJ4_setLength_d00df_1 rfl (lv_at hl 1 rfl) ?_
  have at_1 := fw.get F hi hai hei
  refine q_cW X cu_J5_setLength_d00df m_104 m_1268 (c_J5_setLength_d00df l G A hAg lv ad en i k hik hi hk a d ml n m0 f hai hei hak hek hn hm) (g0.step hS hAg) F at_1 (by decide) rfl hl.1 rfl (Nat.le_of_ble_eq_true rfl) dJ4_setLength_d00df_2 (by omega) (by omega) hS (fun _ h => h) (fun v0 H locs hB hz hk9 hS => ?_)
  obtain ⟨rfl, ml2, F⟩ := hB
  exact c_v X hS rfl ⟨rfl, _, F⟩ (by first | omega | decide) (by first | omega | decide) dJ4_setLength_d00df_5
