set_option maxHeartbeats 4000000 in
set_option maxRecDepth 100000 in
theorem c_Jx4a65c_grow_d5877 (l : Launch) (G : GT) (A : Nat → Prop) (hAg : ∀ q, A q → gA G q) (lv : I2 → Prop) (ad : I2 → Nat) (en : I2 → va_E) (i k t : I2) (hki : k ≠ i) (hit : i ≠ t) (hkt : k ≠ t) (hi : lv i) (ht : ¬ lv t) (a d q : Nat) (x : Int32) (f : Nat → Option Nat) (hai : ad i = a) (hei : en i = LO x d q) (hla : la G lv ad en k d q f) (hq : q ≤ 400) (hf : okF lv ad en f q) (hfn : ∀ x, q ≤ x → f x = none) : cM l yJx4a65c_grow_d5877 cJx4a65c_grow_d5877 1 ((Option.some (FieldType.array (FieldType.object "java/lang/Object")))) 4 1 (gcap q) G [.ref a] (fun H => fw G.1 lv ad en A H ∧ ∀ q, H.size ≤ q → A q) (fun r H => ∃ q2, r = some (.ref q2) ∧ fw G.1 (fun j => lv j ∨ j = k) (iup ad k q2) (iup (iup en i (LO x q2 q)) k (LA G (gcap q) f)) A H) A := by
  refine mk_m (by decide) (Nat.le_of_ble_eq_true rfl) ?_
  intro p e s m args below meth c X ls hl g0 F hnm
  have hK := g0.1
  have hS : va_S A s.heap s.heap [] := va_S.rf
  obtain ⟨F, hfr⟩ := F
  have hl : lv_has ls 1 [(0, .ref a)] := hl
  show W p l e (RM 4 1 (gcap q)) s m args below meth c s.heap [] 0 0 (MQ below (cQ (fun r H => ∃ q2, r = some (.ref q2) ∧ fw G.1 (fun j => lv j ∨ j = k) (iup ad k q2) (iup (iup en i (LO x q2 q)) k (LA G (gcap q) f)) A H) A) args s 1 (gcap q) A) (F0 m 0 ls [])
  refine lv_aload_n X.ex X.co dJx4a65c_grow_d5877_0 rfl (lv_at hl 0 rfl) ?_
  refine lv_aload_n X.ex X.co dJx4a65c_grow_d5877_1 rfl (lv_at hl 0 rfl) ?_
  have at_1 := fw.get F hi hai hei
  refine f_get X hK at_1 okAL rfl 2 (by decide) m_62 (fun _ h => h) (v := .int (nI q)) rfl dJx4a65c_grow_d5877_2 ?_
  refine lv_iconst (v := 1) X.ex X.co dJx4a65c_grow_d5877_5 (by decide) ?_
  refine n_add X (x := q) (y := 1) dJx4a65c_grow_d5877_6 ?_
  have at_3 := fw.get F hi hai hei
  refine q_xV (w := fun q => .ref q) X ce_Jx4a65c_grow_92f84 m_389 (c_Jx4a65c_grow_92f84 l G A hAg lv ad en i k t hki hit hkt hi ht a d q x f hai hei hla hq hf hfn) (g0.step hS hAg) ⟨F, (fun q hq => hfr q (Nat.le_trans hS.1 hq))⟩ at_3 rfl (by decide) rfl hl.1 rfl (Nat.le_of_ble_eq_true rfl) dJx4a65c_grow_d5877_7 (by show 0 + 1 ≤ 1; omega) (by show 0 + gcap q ≤ gcap q; first | omega | decide) hS (fun _ h => h) (fun q_2 H locs F hz hk9 hS => ?_)
  have F : fw G.1 (fun j => lv j ∨ j = k) (iup ad k q_2) (iup (iup en i (.inr (4, [.int x, .ref q_2, .int (nI q)]))) k (.inl (G.2.1 4, (gcap q), .inr (.inr (.inr (.inr f)))))) A H := F
  exact c_a X hS rfl (by first | exact Or.inl ⟨_, rfl⟩ | exact Or.inr ⟨_, rfl⟩) (Or.inr ⟨_, rfl⟩) ⟨_, rfl, F⟩ (by first | omega | decide) (by first | omega | decide) dJx4a65c_grow_d5877_10
theorem gc_b (q : Nat) (h : q ≤ 1000) : gcap q < 2 ^ 31 := by
  unfold gcap
  split
  · omega
  · split <;> omega
set_option maxHeartbeats 4000000 in
set_option maxRecDepth 100000 in
theorem c_Jx4a65c_add_72be8 (l : Launch) (G : GT) (A : Nat → Prop) (hAg : ∀ q, A q → gA G q) (lv : I2 → Prop) (ad : I2 → Nat) (en : I2 → va_E) (i k t j : I2) (hki : k ≠ i) (hit : i ≠ t) (hkt : k ≠ t) (hne_i : j ≠ i) (hne_k : j ≠ k) (hi : lv i) (ht : ¬ lv t) (hj : lv j) (a d n q v : Nat) (x : Int32) (f : Nat → Option Nat) (hai : ad i = a) (hei : en i = LO x d n) (hla : la G lv ad en k d q f) (hn : n ≤ q) (hq : q ≤ 400) (hf : okF lv ad en f q) (hfn : ∀ x, n ≤ x → f x = none) (hav : ad j = v) (ci : Nat) (vs : List Value) (r : vw_C) (hej : en j = .inr (ci, vs)) (hc : vwCl[ci]? = some r) (hr : r.1 ∈ nX) : cM l yJx4a65c_add_72be8 cJx4a65c_add_72be8 4 ((Option.none : Option FieldType)) 5 1 (if n = q then gcap q else 0) G [.ref a, .ref v, .ref d, .int (nI n)] (fun H => fw G.1 lv ad en A H ∧ ∀ q, H.size ≤ q → A q) (eB none (fun H => ∃ q2, fw G.1 (fun j => lv j ∨ j = k) (iup ad k q2) (iup (iup en i (LO (x) q2 (n + 1))) k (LA G (ncap n q) (va_up f n (some v)))) A H)) A := by
  refine mk_m (by decide) (Nat.le_of_ble_eq_true rfl) ?_
  intro p e s m args below meth c X ls hl g0 F hnm
  have hK := g0.1
  have hS : va_S A s.heap s.heap [] := va_S.rf
  obtain ⟨F, hfr⟩ := F
  have hcase : (q = 0 ∧ 0 = n ∧ ¬ lv k ∧ d = G.2.2 0 ∧ f = fun _ => none) ∨ (0 < q ∧ q = n ∧ lv k ∧ ad k = d ∧ en k = LA G q f) ∨ (n < q ∧ lv k ∧ ad k = d ∧ en k = LA G q f) := by
    rcases hla with ⟨h1, h2, h3, h4⟩ | ⟨h1, h2, h3, h4⟩
    · exact Or.inl ⟨h1, by omega, h2, h3, h4⟩
    · rcases Nat.lt_or_ge n q with h5 | h5
      · exact Or.inr (Or.inr ⟨h5, h2, h3, h4⟩)
      · exact Or.inr (Or.inl ⟨h1, by omega, h2, h3, h4⟩)
  rcases hcase with ⟨rfl, rfl, hnk, rfl, rfl⟩ | ⟨h0, rfl, hk, hak, hek⟩ | ⟨hlt, hk, hak, hek⟩
  · have hl : lv_has ls 4 [(0, .ref a), (1, .ref v), (2, .ref (G.2.2 0)), (3, .int (nI 0))] := hl
    show W p l e (RM 5 1 (gcap 0)) s m args below meth c s.heap [] 0 0 (MQ below (cQ (eB none (fun H => ∃ q2, fw G.1 (fun j => lv j ∨ j = k) (iup ad k q2) (iup (iup en i (LO (x) q2 (0 + 1))) k (LA G (gcap 0) (va_up (fun _ => none) 0 (some v)))) A H)) A) args s 1 (gcap 0) A) (F0 m 0 ls [])
    refine lv_iload_n X.ex X.co dJx4a65c_add_72be8_0 rfl (lv_at hl 3 rfl) ?_
    refine lv_aload_n X.ex X.co dJx4a65c_add_72be8_1 rfl (lv_at hl 2 rfl) ?_
    refine f_emptyN X g0 hS hAg dJx4a65c_add_72be8_2 ?_
    refine lv_icmp_ne (tgt := 11) X.ex X.co dJx4a65c_add_72be8_3 (by decide) (fun c_1 => ?_) (fun c_1 => ?_)
    · exact absurd (by decide) c_1
    · refine lv_aload_n X.ex X.co dJx4a65c_add_72be8_6 rfl (lv_at hl 0 rfl) ?_
      have at_3 := fw.get F hi hai hei
      refine q_xV (w := fun q => .ref q) X ce_Jx4a65c_grow_d5877 m_385 (c_Jx4a65c_grow_d5877 l G A hAg lv ad en i k t hki hit hkt hi ht a (G.2.2 0) 0 x (fun _ => none) hai hei (Or.inl ⟨rfl, hnk, rfl, rfl⟩) (by omega) hf hfn) (g0.step hS hAg) ⟨F, (fun q hq => hfr q (Nat.le_trans hS.1 hq))⟩ at_3 rfl (by decide) rfl hl.1 rfl (Nat.le_of_ble_eq_true rfl) dJx4a65c_add_72be8_7 (by show 0 + 1 ≤ 1; omega) (by show 0 + gcap 0 ≤ gcap 0; first | omega | decide) hS (fun _ h => h) (fun q_2 H locs F hz hk9 hS => ?_)
      have F : fw G.1 (fun j => lv j ∨ j = k) (iup ad k q_2) (iup (iup en i (.inr (4, [.int x, .ref q_2, .int (nI 0)]))) k (.inl (G.2.1 4, (gcap 0), .inr (.inr (.inr (.inr (fun _ => none))))))) A H := F
      refine lv_astore_n (lv' := [(2, .ref q_2), (0, .ref a), (1, .ref v), (3, .int (nI 0))]) X.ex X.co dJx4a65c_add_72be8_10 rfl hl (by decide) rfl (fun ls hl => ?_)
      refine lv_aload_n X.ex X.co dJx4a65c_add_72be8_11 rfl (lv_at hl 0 rfl) ?_
      refine lv_iload_n X.ex X.co dJx4a65c_add_72be8_12 rfl (lv_at hl 3 rfl) ?_
      refine lv_aload_n X.ex X.co dJx4a65c_add_72be8_13 rfl (lv_at hl 2 rfl) ?_
      refine f_aast X hK F hS (Or.inr rfl) (iup_s _ _ _) (iup_s _ _ _) (Or.inl hj) ((iup_n _ _ hne_k).trans hav) ((iup_n _ _ hne_k).trans ((iup_n _ _ hne_i).trans hej)) hc (g0.2.1.2.1 _ hr) (x := nI 0) (vp_in_nI (show 0 < _ by first | exact gcap_lt _ | omega) (by first | exact gc_b _ (by omega) | omega)) dJx4a65c_add_72be8_14 (fun H locs F hS => ?_)
      rw [nI_clamp (show 0 < 2 ^ 31 by omega)] at F
      rw [iup_iup] at F
      have F : fw G.1 (fun j => lv j ∨ j = k) (iup ad k q_2) (iup (iup en i (.inr (4, [.int x, .ref q_2, .int (nI 0)]))) k (.inl (G.2.1 4, (gcap 0), .inr (.inr (.inr (.inr (va_up (fun _ => none) 0 (some v)))))))) A H := F
      refine lv_aload_n X.ex X.co dJx4a65c_add_72be8_15 rfl (lv_at hl 1 rfl) ?_
      refine lv_iload_n X.ex X.co dJx4a65c_add_72be8_16 rfl (lv_at hl 3 rfl) ?_
      refine lv_iconst (v := 1) X.ex X.co dJx4a65c_add_72be8_17 (by decide) ?_
      refine n_add X (x := 0) (y := 1) dJx4a65c_add_72be8_18 ?_
      refine f_put X hK F hS (Or.inl hi) ((iup_n _ _ (Ne.symm hki)).trans hai) (ci := 4) (fs := [.int x, .ref q_2, .int (nI 0)]) ((iup_n _ _ (Ne.symm hki)).trans (iup_s _ _ _)) okAL rfl 2 (by decide) m_62 (fun _ h => h) rfl (v := .int (nI (0 + 1))) rfl rfl rfl (Nat.le_of_ble_eq_true rfl) dJx4a65c_add_72be8_19 (fun H locs F hS => ?_)
      rw [iup_mid hki] at F
      have F : fw G.1 (fun j => lv j ∨ j = k) (iup ad k q_2) (iup (iup en i (.inr (4, [.int x, .ref q_2, .int (nI (0 + 1))]))) k (.inl (G.2.1 4, (gcap 0), .inr (.inr (.inr (.inr (va_up (fun _ => none) 0 (some v)))))))) A H := F
      exact c_v X hS rfl ⟨rfl, _, F⟩ (by first | omega | decide) (by first | omega | decide) dJx4a65c_add_72be8_22
  · have hl : lv_has ls 4 [(0, .ref a), (1, .ref v), (2, .ref d), (3, .int (nI q))] := hl
    rw [show ncap q q = gcap q from if_pos rfl, if_pos (rfl : q = q)]
    show W p l e (RM 5 1 (gcap q)) s m args below meth c s.heap [] 0 0 (MQ below (cQ (eB none (fun H => ∃ q2, fw G.1 (fun j => lv j ∨ j = k) (iup ad k q2) (iup (iup en i (LO (x) q2 (q + 1))) k (LA G (gcap q) (va_up f q (some v)))) A H)) A) args s 1 (gcap q) A) (F0 m 0 ls [])
    refine lv_iload_n X.ex X.co dJx4a65c_add_72be8_0 rfl (lv_at hl 3 rfl) ?_
    refine lv_aload_n X.ex X.co dJx4a65c_add_72be8_1 rfl (lv_at hl 2 rfl) ?_
    have at_1 := fw.get F hk hak hek
    refine f_alen X hK 4 at_1 rfl (v := nI q) rfl dJx4a65c_add_72be8_2 ?_
    refine n_cmp_ne X (x := q) (y := q) (tgt := 11) (by omega) (by omega) dJx4a65c_add_72be8_3 (by decide) (fun c_2 => ?_) (fun c_2 => ?_)
    · exact absurd c_2 (by omega)
    · refine lv_aload_n X.ex X.co dJx4a65c_add_72be8_6 rfl (lv_at hl 0 rfl) ?_
      have at_4 := fw.get F hi hai hei
      refine q_xV (w := fun q => .ref q) X ce_Jx4a65c_grow_d5877 m_385 (c_Jx4a65c_grow_d5877 l G A hAg lv ad en i k t hki hit hkt hi ht a d q x f hai hei (Or.inr ⟨h0, hk, hak, hek⟩) (by omega) hf hfn) (g0.step hS hAg) ⟨F, (fun q hq => hfr q (Nat.le_trans hS.1 hq))⟩ at_4 rfl (by decide) rfl hl.1 rfl (Nat.le_of_ble_eq_true rfl) dJx4a65c_add_72be8_7 (by show 0 + 1 ≤ 1; omega) (by show 0 + gcap q ≤ gcap q; first | omega | decide) hS (fun _ h => h) (fun q_3 H locs F hz hk9 hS => ?_)
      have F : fw G.1 (fun j => lv j ∨ j = k) (iup ad k q_3) (iup (iup en i (.inr (4, [.int x, .ref q_3, .int (nI q)]))) k (.inl (G.2.1 4, (gcap q), .inr (.inr (.inr (.inr f)))))) A H := F
      refine lv_astore_n (lv' := [(2, .ref q_3), (0, .ref a), (1, .ref v), (3, .int (nI q))]) X.ex X.co dJx4a65c_add_72be8_10 rfl hl (by decide) rfl (fun ls hl => ?_)
      refine lv_aload_n X.ex X.co dJx4a65c_add_72be8_11 rfl (lv_at hl 0 rfl) ?_
      refine lv_iload_n X.ex X.co dJx4a65c_add_72be8_12 rfl (lv_at hl 3 rfl) ?_
      refine lv_aload_n X.ex X.co dJx4a65c_add_72be8_13 rfl (lv_at hl 2 rfl) ?_
      refine f_aast X hK F hS (Or.inr rfl) (iup_s _ _ _) (iup_s _ _ _) (Or.inl hj) ((iup_n _ _ hne_k).trans hav) ((iup_n _ _ hne_k).trans ((iup_n _ _ hne_i).trans hej)) hc (g0.2.1.2.1 _ hr) (x := nI q) (vp_in_nI (show q < _ by first | exact gcap_lt _ | omega) (by first | exact gc_b _ (by omega) | omega)) dJx4a65c_add_72be8_14 (fun H locs F hS => ?_)
      rw [nI_clamp (show q < 2 ^ 31 by omega)] at F
      rw [iup_iup] at F
      have F : fw G.1 (fun j => lv j ∨ j = k) (iup ad k q_3) (iup (iup en i (.inr (4, [.int x, .ref q_3, .int (nI q)]))) k (.inl (G.2.1 4, (gcap q), .inr (.inr (.inr (.inr (va_up f q (some v)))))))) A H := F
      refine lv_aload_n X.ex X.co dJx4a65c_add_72be8_15 rfl (lv_at hl 1 rfl) ?_
      refine lv_iload_n X.ex X.co dJx4a65c_add_72be8_16 rfl (lv_at hl 3 rfl) ?_
      refine lv_iconst (v := 1) X.ex X.co dJx4a65c_add_72be8_17 (by decide) ?_
      refine n_add X (x := q) (y := 1) dJx4a65c_add_72be8_18 ?_
      refine f_put X hK F hS (Or.inl hi) ((iup_n _ _ (Ne.symm hki)).trans hai) (ci := 4) (fs := [.int x, .ref q_3, .int (nI q)]) ((iup_n _ _ (Ne.symm hki)).trans (iup_s _ _ _)) okAL rfl 2 (by decide) m_62 (fun _ h => h) rfl (v := .int (nI (q + 1))) rfl rfl rfl (Nat.le_of_ble_eq_true rfl) dJx4a65c_add_72be8_19 (fun H locs F hS => ?_)
      rw [iup_mid hki] at F
      have F : fw G.1 (fun j => lv j ∨ j = k) (iup ad k q_3) (iup (iup en i (.inr (4, [.int x, .ref q_3, .int (nI (q + 1))]))) k (.inl (G.2.1 4, (gcap q), .inr (.inr (.inr (.inr (va_up f q (some v)))))))) A H := F
      exact c_v X hS rfl ⟨rfl, _, F⟩ (by first | omega | decide) (by first | omega | decide) dJx4a65c_add_72be8_22
  · have hl : lv_has ls 4 [(0, .ref a), (1, .ref v), (2, .ref d), (3, .int (nI n))] := hl
    rw [show ncap n q = q from if_neg (by omega), if_neg (show ¬ n = q by omega)]
    show W p l e (RM 5 1 0) s m args below meth c s.heap [] 0 0 (MQ below (cQ (eB none (fun H => ∃ q2, fw G.1 (fun j => lv j ∨ j = k) (iup ad k q2) (iup (iup en i (LO (x) q2 (n + 1))) k (LA G (q) (va_up f n (some v)))) A H)) A) args s 1 0 A) (F0 m 0 ls [])
    refine lv_iload_n X.ex X.co dJx4a65c_add_72be8_0 rfl (lv_at hl 3 rfl) ?_
    refine lv_aload_n X.ex X.co dJx4a65c_add_72be8_1 rfl (lv_at hl 2 rfl) ?_
    have at_1 := fw.get F hk hak hek
    refine f_alen X hK 4 at_1 rfl (v := nI q) rfl dJx4a65c_add_72be8_2 ?_
    refine n_cmp_ne X (x := n) (y := q) (tgt := 11) (by omega) (by omega) dJx4a65c_add_72be8_3 (by decide) (fun c_2 => ?_) (fun c_2 => ?_)
    · refine lv_aload_n X.ex X.co dJx4a65c_add_72be8_11 rfl (lv_at hl 2 rfl) ?_
      refine lv_iload_n X.ex X.co dJx4a65c_add_72be8_12 rfl (lv_at hl 3 rfl) ?_
      refine lv_aload_n X.ex X.co dJx4a65c_add_72be8_13 rfl (lv_at hl 1 rfl) ?_
      refine f_aast X hK F hS hk hak hek hj hav hej hc (g0.2.1.2.1 _ hr) (x := nI n) (vp_in_nI (show n < _ by first | exact gcap_lt _ | omega) (by first | exact gc_b _ (by omega) | omega)) dJx4a65c_add_72be8_14 (fun H locs F hS => ?_)
      rw [nI_clamp (show n < 2 ^ 31 by omega)] at F
      have F : fw G.1 lv ad (iup en k (.inl (G.2.1 4, q, .inr (.inr (.inr (.inr (va_up f n (some v)))))))) A H := F
      refine lv_aload_n X.ex X.co dJx4a65c_add_72be8_15 rfl (lv_at hl 0 rfl) ?_
      refine lv_iload_n X.ex X.co dJx4a65c_add_72be8_16 rfl (lv_at hl 3 rfl) ?_
      refine lv_iconst (v := 1) X.ex X.co dJx4a65c_add_72be8_17 (by decide) ?_
      refine n_add X (x := n) (y := 1) dJx4a65c_add_72be8_18 ?_
      refine f_put X hK F hS hi hai (ci := 4) (fs := [.int x, .ref d, .int (nI n)]) ((iup_n _ _ (Ne.symm hki)).trans hei) okAL rfl 2 (by decide) m_62 (fun _ h => h) rfl (v := .int (nI (n + 1))) rfl rfl rfl (Nat.le_of_ble_eq_true rfl) dJx4a65c_add_72be8_19 (fun H locs F hS => ?_)
      have F : fw G.1 lv ad (iup (iup en k (.inl (G.2.1 4, q, .inr (.inr (.inr (.inr (va_up f n (some v)))))))) i (.inr (4, [.int x, .ref d, .int (nI (n + 1))]))) A H := F
      exact c_v X hS rfl ⟨rfl, _, fw.own hk hak (by rw [iup_sw hki] at F; exact F)⟩ (by first | omega | decide) (by first | omega | decide) dJx4a65c_add_72be8_22
    · exact absurd c_2 (by omega)
