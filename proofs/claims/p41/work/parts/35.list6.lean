set_option maxHeartbeats 4000000 in
set_option maxRecDepth 100000 in
theorem c_Jx4a65c_add_9ea2d (l : Launch) (G : GT) (A : Nat → Prop) (hAg : ∀ q, A q → gA G q) (lv : I2 → Prop) (ad : I2 → Nat) (en : I2 → va_E) (i k t j : I2) (hki : k ≠ i) (hit : i ≠ t) (hkt : k ≠ t) (hne_i : j ≠ i) (hne_k : j ≠ k) (hi : lv i) (ht : ¬ lv t) (hj : lv j) (a d n q v : Nat) (x : Int32) (f : Nat → Option Nat) (hai : ad i = a) (hei : en i = LO x d n) (hla : la G lv ad en k d q f) (hn : n ≤ q) (hq : q ≤ 400) (hf : okF lv ad en f q) (hfn : ∀ x, n ≤ x → f x = none) (hav : ad j = v) (ci : Nat) (vs : List Value) (r : vw_C) (hej : en j = .inr (ci, vs)) (hc : vwCl[ci]? = some r) (hr : r.1 ∈ nX) : cM l yJx4a65c_add_9ea2d cJx4a65c_add_9ea2d 2 ((Option.some FieldType.boolean)) 6 1 (if n = q then gcap q else 0) G [.ref a, .ref v] (fun H => fw G.1 lv ad en A H ∧ ∀ q, H.size ≤ q → A q) (eB (some (.int 1)) (fun H => ∃ q2, fw G.1 (fun j => lv j ∨ j = k) (iup ad k q2) (iup (iup en i (LO (x + 1) q2 (n + 1))) k (LA G (ncap n q) (va_up f n (some v)))) A H)) A := by
  refine mk_m (by decide) (Nat.le_of_ble_eq_true rfl) ?_
  intro p e s m args below meth c X ls hl g0 F hnm
  have hK := g0.1
  have hS : va_S A s.heap s.heap [] := va_S.rf
  obtain ⟨F, hfr⟩ := F
  have hl : lv_has ls 2 [(0, .ref a), (1, .ref v)] := hl
  show W p l e (RM 6 1 (if n = q then gcap q else 0)) s m args below meth c s.heap [] 0 0 (MQ below (cQ (eB (some (.int 1)) (fun H => ∃ q2, fw G.1 (fun j => lv j ∨ j = k) (iup ad k q2) (iup (iup en i (LO (x + 1) q2 (n + 1))) k (LA G (ncap n q) (va_up f n (some v)))) A H)) A) args s 1 (if n = q then gcap q else 0) A) (F0 m 0 ls [])
  refine lv_aload_n X.ex X.co dJx4a65c_add_9ea2d_0 rfl (lv_at hl 0 rfl) ?_
  refine lv_dup X.ex X.co dJx4a65c_add_9ea2d_1 rfl ?_
  have at_1 := fw.get F hi hai hei
  refine f_get X hK at_1 okAL rfl 0 (by decide) m_64 (fun _ h => u_same (X.ts _ m_65) _ h) (v := .int x) rfl dJx4a65c_add_9ea2d_2 ?_
  refine lv_iconst (v := 1) X.ex X.co dJx4a65c_add_9ea2d_5 (by decide) ?_
  refine lv_iadd X.ex X.co dJx4a65c_add_9ea2d_6 ?_
  refine f_put X hK F hS hi hai (ci := 4) (fs := [.int x, .ref d, .int (nI n)]) hei okAL rfl 0 (by decide) m_64 (fun _ h => u_same (X.ts _ m_65) _ h) rfl (v := .int (x + 1)) rfl rfl rfl (Nat.le_of_ble_eq_true rfl) dJx4a65c_add_9ea2d_7 (fun H locs F hS => ?_)
  have F : fw G.1 lv ad (iup en i (.inr (4, [.int (x + 1), .ref d, .int (nI n)]))) A H := F
  refine lv_aload_n X.ex X.co dJx4a65c_add_9ea2d_10 rfl (lv_at hl 0 rfl) ?_
  refine lv_aload_n X.ex X.co dJx4a65c_add_9ea2d_11 rfl (lv_at hl 1 rfl) ?_
  refine lv_aload_n X.ex X.co dJx4a65c_add_9ea2d_12 rfl (lv_at hl 0 rfl) ?_
  have at_2 := fw.get F hi hai (iup_s _ _ _)
  refine f_get X hK at_2 okAL rfl 1 (by decide) m_61 (fun _ h => h) (v := .ref d) rfl dJx4a65c_add_9ea2d_13 ?_
  refine lv_aload_n X.ex X.co dJx4a65c_add_9ea2d_16 rfl (lv_at hl 0 rfl) ?_
  have at_3 := fw.get F hi hai (iup_s _ _ _)
  refine f_get X hK at_3 okAL rfl 2 (by decide) m_62 (fun _ h => h) (v := .int (nI n)) rfl dJx4a65c_add_9ea2d_17 ?_
  have at_4 := fw.get F hi hai (iup_s _ _ _)
  refine q_vV X ce_Jx4a65c_add_72be8 m_381 (c_Jx4a65c_add_72be8 l G A hAg lv ad (iup en i (LO (x + 1) d n)) i k t j hki hit hkt hne_i hne_k hi ht hj a d n q v (x + 1) f hai (iup_s _ _ _) (hla.up hki) hn hq (hf.up hei) hfn hav ci vs r ((iup_n _ _ hne_i).trans hej) hc hr) (g0.step hS hAg) ⟨F, (fun q hq => hfr q (Nat.le_trans hS.1 hq))⟩ at_4 rfl (by decide) rfl hl.1 rfl (Nat.le_of_ble_eq_true rfl) dJx4a65c_add_9ea2d_20 (by show 0 + 1 ≤ 1; omega) (by show 0 + (if n = q then gcap q else 0) ≤ (if n = q then gcap q else 0); omega) hS (fun _ h => h) (fun H locs F hz hk9 hS => ?_)
  obtain ⟨q2, F⟩ := F
  rw [iup_iup] at F
  have F : fw G.1 (fun j => lv j ∨ j = k) (iup ad k q2) (iup (iup en i (.inr (4, [.int (x + 1), .ref q2, .int (nI (n + 1))]))) k (.inl (G.2.1 4, (ncap n q), .inr (.inr (.inr (.inr (va_up f n (some v)))))))) A H := F
  refine lv_iconst (v := 1) X.ex X.co dJx4a65c_add_9ea2d_23 (by decide) ?_
  exact c_i X hS rfl rfl ⟨rfl, _, F⟩ (by first | omega | decide) (by first | omega | decide) dJx4a65c_add_9ea2d_24
theorem ce_Jxa1e45_init_da8c8 : ceI yJxa1e45_init_da8c8 cJxa1e45_init_da8c8 1 0 := ⟨m_56, rfl, m_2, m_57, ⟨by decide, by decide, by decide +kernel⟩, by decide⟩
theorem ce_Jxc12de_init_da8c8 : ceI yJxc12de_init_da8c8 cJxc12de_init_da8c8 1 0 := ⟨m_53, rfl, m_3, m_54, ⟨by decide, by decide, by decide +kernel⟩, by decide⟩
theorem ce_Jx4a65c_init_da8c8 : ceI yJx4a65c_init_da8c8 cJx4a65c_init_da8c8 1 0 := ⟨m_50, rfl, m_4, m_51, ⟨by decide, by decide, by decide +kernel⟩, by decide⟩
set_option maxHeartbeats 4000000 in
set_option maxRecDepth 100000 in
theorem c_Jxa1e45_init_da8c8 (l : Launch) (G : GT) (A : Nat → Prop) (hAg : ∀ q, A q → gA G q) (P : Heap → Prop) (a : Nat) : cM l yJxa1e45_init_da8c8 cJxa1e45_init_da8c8 1 ((Option.none : Option FieldType)) 0 0 0 G [.ref a] P (eB none P) A := by
  refine mk_m (by decide) (Nat.le_of_ble_eq_true rfl) ?_
  intro p e s m args below meth c X ls hl g0 F hnm
  have hK := g0.1
  have hS : va_S A s.heap s.heap [] := va_S.rf
  have hl : lv_has ls 1 [(0, .ref a)] := hl
  show W p l e (RM 0 0 0) s m args below meth c s.heap [] 0 0 (MQ below (cQ (eB none P) A) args s 0 0 A) (F0 m 0 ls [])
  refine lv_aload_n X.ex X.co dJxa1e45_init_da8c8_0 rfl (lv_at hl 0 rfl) ?_
  refine f_obj X hl.1 m_58 dJxa1e45_init_da8c8_1 (Nat.le_of_ble_eq_true rfl) (Nat.le_of_ble_eq_true rfl) ?_
  exact c_v X hS rfl ⟨rfl, F⟩ (by first | omega | decide) (by first | omega | decide) dJxa1e45_init_da8c8_4
set_option maxHeartbeats 4000000 in
set_option maxRecDepth 100000 in
theorem c_Jxc12de_init_da8c8 (l : Launch) (G : GT) (A : Nat → Prop) (hAg : ∀ q, A q → gA G q) (lv : I2 → Prop) (ad : I2 → Nat) (en : I2 → va_E) (i : I2) (hi : lv i) (a : Nat) (hai : ad i = a) (hei : en i = .inr (4, [.int 0, .null, .int 0])) : cM l yJxc12de_init_da8c8 cJxc12de_init_da8c8 1 ((Option.none : Option FieldType)) 1 0 0 G [.ref a] (fw G.1 lv ad en A) (eB none (fw G.1 lv ad (iup en i (.inr (4, [.int 0, .null, .int 0]))) A)) A := by
  refine mk_m (by decide) (Nat.le_of_ble_eq_true rfl) ?_
  intro p e s m args below meth c X ls hl g0 F hnm
  have hK := g0.1
  have hS : va_S A s.heap s.heap [] := va_S.rf
  have hl : lv_has ls 1 [(0, .ref a)] := hl
  show W p l e (RM 1 0 0) s m args below meth c s.heap [] 0 0 (MQ below (cQ (eB none (fw G.1 lv ad (iup en i (.inr (4, [.int 0, .null, .int 0]))) A)) A) args s 0 0 A) (F0 m 0 ls [])
  refine lv_aload_n X.ex X.co dJxc12de_init_da8c8_0 rfl (lv_at hl 0 rfl) ?_
  refine q_vI X ce_Jxa1e45_init_da8c8 m_55 (c_Jxa1e45_init_da8c8 l G A hAg (fw G.1 lv ad en A) a) (g0.step hS hAg) F (by decide) rfl hl.1 rfl (Nat.le_of_ble_eq_true rfl) dJxc12de_init_da8c8_1 (by show 0 + 0 ≤ 0; omega) (by show 0 + 0 ≤ 0; omega) hS (fun _ h => h) (fun H locs F hz hk9 hS => ?_)
  refine lv_aload_n X.ex X.co dJxc12de_init_da8c8_4 rfl (lv_at hl 0 rfl) ?_
  refine lv_iconst (v := 0) X.ex X.co dJxc12de_init_da8c8_5 (by decide) ?_
  refine f_put X hK F hS hi hai (ci := 4) (fs := [.int 0, .null, .int 0]) hei okAL rfl 0 (by decide) m_63 (fun _ h => h) rfl (v := .int 0) rfl rfl rfl (Nat.le_of_ble_eq_true rfl) dJxc12de_init_da8c8_6 (fun H locs F hS => ?_)
  have F : fw G.1 lv ad (iup en i (.inr (4, [.int 0, .null, .int 0]))) A H := F
  exact c_v X hS rfl ⟨rfl, F⟩ (by first | omega | decide) (by first | omega | decide) dJxc12de_init_da8c8_9
set_option maxHeartbeats 4000000 in
set_option maxRecDepth 100000 in
theorem c_Jx4a65c_init_da8c8 (l : Launch) (G : GT) (A : Nat → Prop) (hAg : ∀ q, A q → gA G q) (lv : I2 → Prop) (ad : I2 → Nat) (en : I2 → va_E) (i : I2) (hi : lv i) (a : Nat) (hai : ad i = a) (hei : en i = .inr (4, [.int 0, .null, .int 0])) : cM l yJx4a65c_init_da8c8 cJx4a65c_init_da8c8 1 ((Option.none : Option FieldType)) 2 0 0 G [.ref a] (fw G.1 lv ad en A) (eB none (fw G.1 lv ad (iup en i (LO 0 (G.2.2 0) 0)) A)) A := by
  refine mk_m (by decide) (Nat.le_of_ble_eq_true rfl) ?_
  intro p e s m args below meth c X ls hl g0 F hnm
  have hK := g0.1
  have hS : va_S A s.heap s.heap [] := va_S.rf
  have hl : lv_has ls 1 [(0, .ref a)] := hl
  show W p l e (RM 2 0 0) s m args below meth c s.heap [] 0 0 (MQ below (cQ (eB none (fw G.1 lv ad (iup en i (LO 0 (G.2.2 0) 0)) A)) A) args s 0 0 A) (F0 m 0 ls [])
  refine lv_aload_n X.ex X.co dJx4a65c_init_da8c8_0 rfl (lv_at hl 0 rfl) ?_
  refine q_vI X ce_Jxc12de_init_da8c8 m_52 (c_Jxc12de_init_da8c8 l G A hAg lv ad en i hi a hai hei) (g0.step hS hAg) F (by decide) rfl hl.1 rfl (Nat.le_of_ble_eq_true rfl) dJx4a65c_init_da8c8_1 (by show 0 + 0 ≤ 0; omega) (by show 0 + 0 ≤ 0; omega) hS (fun _ h => h) (fun H locs F hz hk9 hS => ?_)
  refine lv_aload_n X.ex X.co dJx4a65c_init_da8c8_4 rfl (lv_at hl 0 rfl) ?_
  refine f_empty X g0 hS hAg dJx4a65c_init_da8c8_5 ?_
  refine f_put X hK F hS hi hai (ci := 4) (fs := [.int 0, .null, .int 0]) (iup_s _ _ _) okAL rfl 1 (by decide) m_61 (fun _ h => h) rfl (v := .ref (G.2.2 0)) rfl rfl rfl (Nat.le_of_ble_eq_true rfl) dJx4a65c_init_da8c8_8 (fun H locs F hS => ?_)
  rw [iup_iup] at F
  have F : fw G.1 lv ad (iup en i (.inr (4, [.int 0, .ref (G.2.2 0), .int 0]))) A H := F
  exact c_v X hS rfl ⟨rfl, F⟩ (by first | omega | decide) (by first | omega | decide) dJx4a65c_init_da8c8_11
