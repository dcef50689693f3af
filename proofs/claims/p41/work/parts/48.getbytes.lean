theorem tft : ∀ i, i < 5 → ∀ x, x < tLL.getD i 0 → fits .byte (.int ((tBL.getD i []).getD x 0)) = true := by decide +kernel
theorem ce_J0_getBytes_840e7 : ceV yJ0_getBytes_840e7 cJ0_getBytes_840e7 4 ((Option.none : Option FieldType)) 3 := ⟨m_1025, m_1026, m_7, m_1027, ⟨by decide, by decide, by decide +kernel⟩, by decide⟩
set_option maxHeartbeats 4000000 in
set_option maxRecDepth 100000 in
theorem c_J0_getBytes_840e7 (l : Launch) (G : GT) (A : Nat → Prop) (hAg : ∀ q, A q → gA G q) (lv : I2 → Prop) (ad : I2 → Nat) (en : I2 → va_E) (k : I2) (hk : lv k) (d m0 pos i : Nat) (hi : i < 5) (f : Nat → Int32) (hak : ad k = d) (hek : en k = SBA G m0 f) (hp : pos + tLL.getD i 0 ≤ m0) (hm : m0 < 2 ^ 30) : cM l yJ0_getBytes_840e7 cJ0_getBytes_840e7 4 ((Option.none : Option FieldType)) 1 0 0 G [.ref (G.2.2 (10 + i)), .ref d, .int (nI pos), .int 0] (fw G.1 lv ad en A) (eB none (fw G.1 lv ad (iup en k (SBA G m0 (va_cpy (fun x => (tBL.getD i []).getD x 0) f 0 pos (tLL.getD i 0)))) A)) A := by
  refine mk_m (by decide) (Nat.le_of_ble_eq_true rfl) ?_
  intro p e s m args below meth c X ls hl g0 F hnm
  have hK := g0.1
  have hS : va_S A s.heap s.heap [] := va_S.rf
  have ht := g0.2.2.2.2.2.2.2.1
  have hl : lv_has ls 4 [(0, .ref (G.2.2 (10 + i))), (1, .ref d), (2, .int (nI pos)), (3, .int 0)] := hl
  show W p l e (RM 1 0 0) s m args below meth c s.heap [] 0 0 (MQ below (cQ (eB none (fw G.1 lv ad (iup en k (SBA G m0 (va_cpy (fun x => (tBL.getD i []).getD x 0) f 0 pos (tLL.getD i 0)))) A)) A) args s 0 0 A) (F0 m 0 ls [])
  refine lv_aload_n X.ex X.co dJ0_getBytes_840e7_0 rfl (lv_at hl 0 rfl) ?_
  refine q_rC X ce_J0_coder_7d493 m_991 (c_J0_coder_7d493 l G i hi) (g0.step hS hAg) trivial (t_cell g0 hS hAg hi) (by decide) rfl hl.1 rfl (Nat.le_of_ble_eq_true rfl) dJ0_getBytes_840e7_1 (by omega) (by omega) ?_
  refine lv_iload_n X.ex X.co dJ0_getBytes_840e7_4 rfl (lv_at hl 3 rfl) ?_
  refine lv_icmp_ne (tgt := 28) X.ex X.co dJ0_getBytes_840e7_5 (by decide) (fun c_1 => ?_) (fun c_1 => ?_)
  · exact absurd (by decide) c_1
  · refine lv_aload_n X.ex X.co dJ0_getBytes_840e7_8 rfl (lv_at hl 0 rfl) ?_
    refine vk_getf (v := .ref (G.2.2 (20 + i))) X.ex X.co (ht.1 i hi).2.2.1 (hS.up hAg) X.ow (X.ts _ m_1112) (fun _ h => h) dJ0_getBytes_840e7_9 ?_
    refine lv_iconst (v := 0) X.ex X.co dJ0_getBytes_840e7_12 (by decide) ?_
    refine lv_aload_n X.ex X.co dJ0_getBytes_840e7_13 rfl (lv_at hl 1 rfl) ?_
    refine lv_iload_n X.ex X.co dJ0_getBytes_840e7_14 rfl (lv_at hl 2 rfl) ?_
    refine lv_iload_n X.ex X.co dJ0_getBytes_840e7_15 rfl (lv_at hl 3 rfl) ?_
    refine lv_ishl X.ex X.co dJ0_getBytes_840e7_16 (top_eq (y := nI pos) (by rw [pk_shlN (n := pos) (0 &&& 31) 0 (by decide) (by omega)]; simp) ?_)
    refine lv_aload_n X.ex X.co dJ0_getBytes_840e7_17 rfl (lv_at hl 0 rfl) ?_
    refine vk_getf (v := .ref (G.2.2 (20 + i))) X.ex X.co (ht.1 i hi).2.2.1 (hS.up hAg) X.ow (X.ts _ m_1112) (fun _ h => h) dJ0_getBytes_840e7_18 ?_
    refine va_tlen X.ex X.co (ht.1 i hi).2.2.2 (hS.up hAg) (v := nI (tLL.getD i 0)) rfl dJ0_getBytes_840e7_21 ?_
    refine f_copyT X g0 hAg F hS hi hk hak hek hl.1 m_1028 pos (tLL.getD i 0) rfl (by omega) (by omega) (tft i hi) (Nat.le_of_ble_eq_true rfl) (Nat.le_of_ble_eq_true rfl) dJ0_getBytes_840e7_22 (fun H locs F hS => ?_)
    have F : fw G.1 lv ad (iup en k (.inl (G.2.1 3, m0, .inl (va_cpy (fun x => (tBL.getD i []).getD x 0) f 0 pos (tLL.getD i 0))))) A H := F
    refine lv_goto (tgt := 43) X.ex X.co dJ0_getBytes_840e7_25 (by decide) ?_
    exact c_v X hS rfl ⟨rfl, F⟩ (by first | omega | decide) (by first | omega | decide) dJ0_getBytes_840e7_43
