set_option maxHeartbeats 4000000 in
set_option maxRecDepth 100000 in
theorem c_Jx4a65c_add_7a177 (l : Launch) (G : GT) (A : Nat → Prop) (hAg : ∀ q, A q → gA G q) (lv : I2 → Prop) (ad : I2 → Nat) (en : I2 → va_E) (i k t j : I2) (hki : k ≠ i) (hit : i ≠ t) (hkt : k ≠ t) (hne_i : j ≠ i) (hne_k : j ≠ k) (hi : lv i) (ht : ¬ lv t) (hj : lv j) (a d n q v : Nat) (x : Int32) (f : Nat → Option Nat) (hai : ad i = a) (hei : en i = LO x d n) (hla : la G lv ad en k d q f) (hn : n ≤ q) (hq : q ≤ 400) (hf : okF lv ad en f q) (hfn : ∀ x, n ≤ x → f x = none) (hav : ad j = v) (g : Nat) (hg : g ≤ n) (ci : Nat) (vs : List Value) (r : vw_C) (hej : en j = .inr (ci, vs)) (hc : vwCl[ci]? = some r) (hr : r.1 ∈ nX) : cM l yJx4a65c_add_7a177 cJx4a65c_add_7a177 5 ((Option.none : Option FieldType)) 5 1 (if n = q then gcap q else 0) G [.ref a, .int (nI g), .ref v] (fun H => fw G.1 lv ad en A H ∧ ∀ q, H.size ≤ q → A q) (eB none (fun H => ∃ q2, fw G.1 (fun j => lv j ∨ j = k) (iup ad k q2) (iup (iup en i (LO (x + 1) q2 (n + 1))) k (LA G (ncap n q) (insv f n g v))) A H)) A := by
  refine mk_m (by decide) (Nat.le_of_ble_eq_true rfl) ?_
  intro p e s m args below meth c X ls hl g0 F hnm
  have hK := g0.1
  have hS : va_S A s.heap s.heap [] := va_S.rf
  obtain ⟨F, hfr⟩ := F
  have hcase : (q = 0 ∧ 0 = n ∧ ¬ lv k ∧ d = G.2.2 0 ∧ f = fun _ => none) ∨ (0 < q ∧ q = n ∧ lv k ∧ ad k = d ∧ en k = LA G q f) ∨ (n < q ∧ lv k ∧ ad k = d ∧ en k = LA G q f) := by
    rcases hla with ⟨h1, h2, h3, h4⟩ | ⟨h1, h2, h3, h4⟩
    · exact Or.inl ⟨h1, by omega, h2, h3, h4⟩
    · rcases Nat.lt_or_ge n q with h5 | h5
      · exact Or.inr (Or.inr ⟨h5, h2, h3, h4⟩)
      · exact Or.inr (Or.inl ⟨h1, by omega, h2, h3, h4⟩)
  rcases hcase with ⟨rfl, rfl, hnk, rfl, rfl⟩ | ⟨h0, rfl, hk, hak, hek⟩ | ⟨hlt, hk, hak, hek⟩
  · have hl : lv_has ls 5 [(0, .ref a), (1, .int (nI g)), (2, .ref v)] := hl
    have hgl := gcap_lt 0
    have hgb := gc_b 0 (by omega)
    show W p l e (RM 5 1 (gcap 0)) s m args below meth c s.heap [] 0 0 (MQ below (cQ (eB none (fun H => ∃ q2, fw G.1 (fun j => lv j ∨ j = k) (iup ad k q2) (iup (iup en i (LO (x + 1) q2 (0 + 1))) k (LA G (gcap 0) (insv (fun _ => none) 0 g v))) A H)) A) args s 1 (gcap 0) A) (F0 m 0 ls [])
    refine lv_aload_n X.ex X.co dJx4a65c_add_7a177_0 rfl (lv_at hl 0 rfl) ?_
    refine lv_iload_n X.ex X.co dJx4a65c_add_7a177_1 rfl (lv_at hl 1 rfl) ?_
    have at_1 := fw.get F hi hai hei
    refine q_rVv X ce_Jx4a65c_rangeCheckForAdd_d00df m_913 (c_Jx4a65c_rangeCheckForAdd_d00df l G a x (G.2.2 0) 0 g hg (by omega)) (g0.step hS hAg) at_1 at_1 rfl (by decide) rfl hl.1 rfl (Nat.le_of_ble_eq_true rfl) dJx4a65c_add_7a177_2 (by omega) (by omega) ?_
    refine lv_aload_n X.ex X.co dJx4a65c_add_7a177_5 rfl (lv_at hl 0 rfl) ?_
    refine lv_dup X.ex X.co dJx4a65c_add_7a177_6 rfl ?_
    have at_2 := fw.get F hi hai hei
    refine f_get X hK at_2 okAL rfl 0 (by decide) m_64 (fun _ h => u_same (X.ts _ m_65) _ h) (v := .int x) rfl dJx4a65c_add_7a177_7 ?_
    refine lv_iconst (v := 1) X.ex X.co dJx4a65c_add_7a177_10 (by decide) ?_
    refine lv_iadd X.ex X.co dJx4a65c_add_7a177_11 ?_
    refine f_put X hK F hS hi hai (ci := 4) (fs := [.int x, .ref (G.2.2 0), .int (nI 0)]) hei okAL rfl 0 (by decide) m_64 (fun _ h => u_same (X.ts _ m_65) _ h) rfl (v := .int (x + 1)) rfl rfl rfl (Nat.le_of_ble_eq_true rfl) dJx4a65c_add_7a177_12 (fun H locs F hS => ?_)
    have F : fw G.1 lv ad (iup en i (.inr (4, [.int (x + 1), .ref (G.2.2 0), .int (nI 0)]))) A H := F
    refine lv_aload_n X.ex X.co dJx4a65c_add_7a177_15 rfl (lv_at hl 0 rfl) ?_
    have at_3 := fw.get F hi hai (iup_s _ _ _)
    refine f_get X hK at_3 okAL rfl 2 (by decide) m_62 (fun _ h => h) (v := .int (nI 0)) rfl dJx4a65c_add_7a177_16 ?_
    refine lv_dup X.ex X.co dJx4a65c_add_7a177_19 rfl ?_
    refine lv_istore_n (lv' := [(3, .int (nI 0)), (0, .ref a), (1, .int (nI g)), (2, .ref v)]) X.ex X.co dJx4a65c_add_7a177_20 rfl hl (by decide) rfl (fun ls hl => ?_)
    refine lv_aload_n X.ex X.co dJx4a65c_add_7a177_21 rfl (lv_at hl 1 rfl) ?_
    have at_4 := fw.get F hi hai (iup_s _ _ _)
    refine f_get X hK at_4 okAL rfl 1 (by decide) m_61 (fun _ h => h) (v := .ref (G.2.2 0)) rfl dJx4a65c_add_7a177_22 ?_
    refine lv_dup X.ex X.co dJx4a65c_add_7a177_25 rfl ?_
    refine lv_astore (lv' := [(4, .ref (G.2.2 0)), (3, .int (nI 0)), (0, .ref a), (1, .int (nI g)), (2, .ref v)]) X.ex X.co dJx4a65c_add_7a177_26 hl (by decide) rfl (fun ls hl => ?_)
    refine f_emptyN X g0 hS hAg dJx4a65c_add_7a177_28 ?_
    refine lv_icmp_ne (tgt := 38) X.ex X.co dJx4a65c_add_7a177_29 (by decide) (fun c_5 => ?_) (fun c_5 => ?_)
    · exact absurd (by decide) c_5
    · refine lv_aload_n X.ex X.co dJx4a65c_add_7a177_32 rfl (lv_at hl 2 rfl) ?_
      have at_7 := fw.get F hi hai (iup_s _ _ _)
      refine q_xV (w := fun q => .ref q) X ce_Jx4a65c_grow_d5877 m_385 (c_Jx4a65c_grow_d5877 l G A hAg lv ad (iup en i (LO (x + 1) (G.2.2 0) 0)) i k t hki hit hkt hi ht a (G.2.2 0) 0 (x + 1) (fun _ => none) hai (iup_s _ _ _) (la.up hki (Or.inl ⟨rfl, hnk, rfl, rfl⟩)) (by omega) (hf.up hei) hfn) (g0.step hS hAg) ⟨F, (fun q hq => hfr q (Nat.le_trans hS.1 hq))⟩ at_7 rfl (by decide) rfl hl.1 rfl (Nat.le_of_ble_eq_true rfl) dJx4a65c_add_7a177_33 (by show 0 + 1 ≤ 1; omega) (by show 0 + gcap 0 ≤ gcap 0; first | omega | decide) hS (fun _ h => h) (fun q_6 H locs F hz hk9 hS => ?_)
      rw [iup_iup] at F
      have F : fw G.1 (fun j => lv j ∨ j = k) (iup ad k q_6) (iup (iup en i (.inr (4, [.int (x + 1), .ref q_6, .int (nI 0)]))) k (.inl (G.2.1 4, (gcap 0), .inr (.inr (.inr (.inr (fun _ => none))))))) A H := F
      refine lv_astore (lv' := [(4, .ref q_6), (3, .int (nI 0)), (0, .ref a), (1, .int (nI g)), (2, .ref v)]) X.ex X.co dJx4a65c_add_7a177_36 hl (by decide) rfl (fun ls hl => ?_)
      refine lv_aload X.ex X.co dJx4a65c_add_7a177_38 (lv_at hl 0 rfl) ?_
      refine lv_iload_n X.ex X.co dJx4a65c_add_7a177_40 rfl (lv_at hl 3 rfl) ?_
      refine lv_aload X.ex X.co dJx4a65c_add_7a177_41 (lv_at hl 0 rfl) ?_
      refine lv_iload_n X.ex X.co dJx4a65c_add_7a177_43 rfl (lv_at hl 3 rfl) ?_
      refine lv_iconst (v := 1) X.ex X.co dJx4a65c_add_7a177_44 (by decide) ?_
      refine n_add X (x := g) (y := 1) dJx4a65c_add_7a177_45 ?_
      refine lv_iload_n X.ex X.co dJx4a65c_add_7a177_46 rfl (lv_at hl 1 rfl) ?_
      refine lv_iload_n X.ex X.co dJx4a65c_add_7a177_47 rfl (lv_at hl 3 rfl) ?_
      refine n_sub X (x := 0) (y := g) (by omega) dJx4a65c_add_7a177_48 ?_
      refine f_copyM X hK g0.2.1 F hS (Or.inr rfl) (iup_s _ _ _) (iup_s _ _ _) (Or.inr rfl) (iup_s _ _ _) (iup_s _ _ _) hl.1 m_866 g (g + 1) (0 - g) (by omega) (by omega) (by omega) (by omega) (okF.gr (G := G) (fun z => absurd z hnk) hei hf hfn) (Nat.le_of_ble_eq_true rfl) (Nat.le_of_ble_eq_true rfl) dJx4a65c_add_7a177_49 (fun H locs F hS => ?_)
      rw [iup_iup] at F
      have F : fw G.1 (fun j => lv j ∨ j = k) (iup ad k q_6) (iup (iup en i (.inr (4, [.int (x + 1), .ref q_6, .int (nI 0)]))) k (.inl (G.2.1 4, (gcap 0), .inr (.inr (.inr (.inr (va_cpy (fun _ => none) (fun _ => none) g (g + 1) (0 - g)))))))) A H := F
      refine lv_aload X.ex X.co dJx4a65c_add_7a177_52 (lv_at hl 0 rfl) ?_
      refine lv_iload_n X.ex X.co dJx4a65c_add_7a177_54 rfl (lv_at hl 3 rfl) ?_
      refine lv_aload_n X.ex X.co dJx4a65c_add_7a177_55 rfl (lv_at hl 4 rfl) ?_
      refine f_aast X hK F hS (Or.inr rfl) (iup_s _ _ _) (iup_s _ _ _) (Or.inl hj) ((iup_n _ _ hne_k).trans hav) ((iup_n _ _ hne_k).trans ((iup_n _ _ hne_i).trans hej)) hc (g0.2.1.2.1 _ hr) (x := nI g) (vp_in_nI (show g < _ by first | exact gcap_lt _ | omega) (by first | exact gc_b _ (by omega) | omega)) dJx4a65c_add_7a177_56 (fun H locs F hS => ?_)
      rw [nI_clamp (show g < 2 ^ 31 by omega)] at F
      rw [iup_iup] at F
      have F : fw G.1 (fun j => lv j ∨ j = k) (iup ad k q_6) (iup (iup en i (.inr (4, [.int (x + 1), .ref q_6, .int (nI 0)]))) k (.inl (G.2.1 4, (gcap 0), .inr (.inr (.inr (.inr (va_up (va_cpy (fun _ => none) (fun _ => none) g (g + 1) (0 - g)) g (some v)))))))) A H := F
      refine lv_aload_n X.ex X.co dJx4a65c_add_7a177_57 rfl (lv_at hl 2 rfl) ?_
      refine lv_iload_n X.ex X.co dJx4a65c_add_7a177_58 rfl (lv_at hl 1 rfl) ?_
      refine lv_iconst (v := 1) X.ex X.co dJx4a65c_add_7a177_59 (by decide) ?_
      refine n_add X (x := 0) (y := 1) dJx4a65c_add_7a177_60 ?_
      refine f_put X hK F hS (Or.inl hi) ((iup_n _ _ (Ne.symm hki)).trans hai) (ci := 4) (fs := [.int (x + 1), .ref q_6, .int (nI 0)]) ((iup_n _ _ (Ne.symm hki)).trans (iup_s _ _ _)) okAL rfl 2 (by decide) m_62 (fun _ h => h) rfl (v := .int (nI (0 + 1))) rfl rfl rfl (Nat.le_of_ble_eq_true rfl) dJx4a65c_add_7a177_61 (fun H locs F hS => ?_)
      rw [iup_mid hki] at F
      have F : fw G.1 (fun j => lv j ∨ j = k) (iup ad k q_6) (iup (iup en i (.inr (4, [.int (x + 1), .ref q_6, .int (nI (0 + 1))]))) k (.inl (G.2.1 4, (gcap 0), .inr (.inr (.inr (.inr (va_up (va_cpy (fun _ => none) (fun _ => none) g (g + 1) (0 - g)) g (some v)))))))) A H := F
      exact c_v X hS rfl ⟨rfl, _, F⟩ (by first | omega | decide) (by first | omega | decide) dJx4a65c_add_7a177_64
  · have hl : lv_has ls 5 [(0, .ref a), (1, .int (nI g)), (2, .ref v)] := hl
    rw [show ncap q q = gcap q from if_pos rfl, if_pos (rfl : q = q)]
    have hgl := gcap_lt q
    have hgb := gc_b q (by omega)
    show W p l e (RM 5 1 (gcap q)) s m args below meth c s.heap [] 0 0 (MQ below (cQ (eB none (fun H => ∃ q2, fw G.1 (fun j => lv j ∨ j = k) (iup ad k q2) (iup (iup en i (LO (x + 1) q2 (q + 1))) k (LA G (gcap q) (insv f q g v))) A H)) A) args s 1 (gcap q) A) (F0 m 0 ls [])
    refine lv_aload_n X.ex X.co dJx4a65c_add_7a177_0 rfl (lv_at hl 0 rfl) ?_
    refine lv_iload_n X.ex X.co dJx4a65c_add_7a177_1 rfl (lv_at hl 1 rfl) ?_
    have at_1 := fw.get F hi hai hei
    refine q_rVv X ce_Jx4a65c_rangeCheckForAdd_d00df m_913 (c_Jx4a65c_rangeCheckForAdd_d00df l G a x d q g hg (by omega)) (g0.step hS hAg) at_1 at_1 rfl (by decide) rfl hl.1 rfl (Nat.le_of_ble_eq_true rfl) dJx4a65c_add_7a177_2 (by omega) (by omega) ?_
    refine lv_aload_n X.ex X.co dJx4a65c_add_7a177_5 rfl (lv_at hl 0 rfl) ?_
    refine lv_dup X.ex X.co dJx4a65c_add_7a177_6 rfl ?_
    have at_2 := fw.get F hi hai hei
    refine f_get X hK at_2 okAL rfl 0 (by decide) m_64 (fun _ h => u_same (X.ts _ m_65) _ h) (v := .int x) rfl dJx4a65c_add_7a177_7 ?_
    refine lv_iconst (v := 1) X.ex X.co dJx4a65c_add_7a177_10 (by decide) ?_
    refine lv_iadd X.ex X.co dJx4a65c_add_7a177_11 ?_
    refine f_put X hK F hS hi hai (ci := 4) (fs := [.int x, .ref d, .int (nI q)]) hei okAL rfl 0 (by decide) m_64 (fun _ h => u_same (X.ts _ m_65) _ h) rfl (v := .int (x + 1)) rfl rfl rfl (Nat.le_of_ble_eq_true rfl) dJx4a65c_add_7a177_12 (fun H locs F hS => ?_)
    have F : fw G.1 lv ad (iup en i (.inr (4, [.int (x + 1), .ref d, .int (nI q)]))) A H := F
    refine lv_aload_n X.ex X.co dJx4a65c_add_7a177_15 rfl (lv_at hl 0 rfl) ?_
    have at_3 := fw.get F hi hai (iup_s _ _ _)
    refine f_get X hK at_3 okAL rfl 2 (by decide) m_62 (fun _ h => h) (v := .int (nI q)) rfl dJx4a65c_add_7a177_16 ?_
    refine lv_dup X.ex X.co dJx4a65c_add_7a177_19 rfl ?_
    refine lv_istore_n (lv' := [(3, .int (nI q)), (0, .ref a), (1, .int (nI g)), (2, .ref v)]) X.ex X.co dJx4a65c_add_7a177_20 rfl hl (by decide) rfl (fun ls hl => ?_)
    refine lv_aload_n X.ex X.co dJx4a65c_add_7a177_21 rfl (lv_at hl 1 rfl) ?_
    have at_4 := fw.get F hi hai (iup_s _ _ _)
    refine f_get X hK at_4 okAL rfl 1 (by decide) m_61 (fun _ h => h) (v := .ref d) rfl dJx4a65c_add_7a177_22 ?_
    refine lv_dup X.ex X.co dJx4a65c_add_7a177_25 rfl ?_
    refine lv_astore (lv' := [(4, .ref d), (3, .int (nI q)), (0, .ref a), (1, .int (nI g)), (2, .ref v)]) X.ex X.co dJx4a65c_add_7a177_26 hl (by decide) rfl (fun ls hl => ?_)
    have at_5 := fw.get F hk hak ((iup_n _ _ hki).trans hek)
    refine f_alen X hK 4 at_5 rfl (v := nI q) rfl dJx4a65c_add_7a177_28 ?_
    refine n_cmp_ne X (x := q) (y := q) (tgt := 38) (by omega) (by omega) dJx4a65c_add_7a177_29 (by decide) (fun c_6 => ?_) (fun c_6 => ?_)
    · exact absurd c_6 (by omega)
    · refine lv_aload_n X.ex X.co dJx4a65c_add_7a177_32 rfl (lv_at hl 2 rfl) ?_
      have at_8 := fw.get F hi hai (iup_s _ _ _)
      refine q_xV (w := fun q => .ref q) X ce_Jx4a65c_grow_d5877 m_385 (c_Jx4a65c_grow_d5877 l G A hAg lv ad (iup en i (LO (x + 1) d q)) i k t hki hit hkt hi ht a d q (x + 1) f hai (iup_s _ _ _) (la.up hki (Or.inr ⟨h0, hk, hak, hek⟩)) (by omega) (hf.up hei) hfn) (g0.step hS hAg) ⟨F, (fun q hq => hfr q (Nat.le_trans hS.1 hq))⟩ at_8 rfl (by decide) rfl hl.1 rfl (Nat.le_of_ble_eq_true rfl) dJx4a65c_add_7a177_33 (by show 0 + 1 ≤ 1; omega) (by show 0 + gcap q ≤ gcap q; first | omega | decide) hS (fun _ h => h) (fun q_7 H locs F hz hk9 hS => ?_)
      rw [iup_iup] at F
      have F : fw G.1 (fun j => lv j ∨ j = k) (iup ad k q_7) (iup (iup en i (.inr (4, [.int (x + 1), .ref q_7, .int (nI q)]))) k (.inl (G.2.1 4, (gcap q), .inr (.inr (.inr (.inr f)))))) A H := F
      refine lv_astore (lv' := [(4, .ref q_7), (3, .int (nI q)), (0, .ref a), (1, .int (nI g)), (2, .ref v)]) X.ex X.co dJx4a65c_add_7a177_36 hl (by decide) rfl (fun ls hl => ?_)
      refine lv_aload X.ex X.co dJx4a65c_add_7a177_38 (lv_at hl 0 rfl) ?_
      refine lv_iload_n X.ex X.co dJx4a65c_add_7a177_40 rfl (lv_at hl 3 rfl) ?_
      refine lv_aload X.ex X.co dJx4a65c_add_7a177_41 (lv_at hl 0 rfl) ?_
      refine lv_iload_n X.ex X.co dJx4a65c_add_7a177_43 rfl (lv_at hl 3 rfl) ?_
      refine lv_iconst (v := 1) X.ex X.co dJx4a65c_add_7a177_44 (by decide) ?_
      refine n_add X (x := g) (y := 1) dJx4a65c_add_7a177_45 ?_
      refine lv_iload_n X.ex X.co dJx4a65c_add_7a177_46 rfl (lv_at hl 1 rfl) ?_
      refine lv_iload_n X.ex X.co dJx4a65c_add_7a177_47 rfl (lv_at hl 3 rfl) ?_
      refine n_sub X (x := q) (y := g) (by omega) dJx4a65c_add_7a177_48 ?_
      refine f_copyM X hK g0.2.1 F hS (Or.inr rfl) (iup_s _ _ _) (iup_s _ _ _) (Or.inr rfl) (iup_s _ _ _) (iup_s _ _ _) hl.1 m_866 g (g + 1) (q - g) (by omega) (by omega) (by omega) (by omega) (okF.gr (G := G) (fun _ => ⟨_, _, hek⟩) hei hf hfn) (Nat.le_of_ble_eq_true rfl) (Nat.le_of_ble_eq_true rfl) dJx4a65c_add_7a177_49 (fun H locs F hS => ?_)
      rw [iup_iup] at F
      have F : fw G.1 (fun j => lv j ∨ j = k) (iup ad k q_7) (iup (iup en i (.inr (4, [.int (x + 1), .ref q_7, .int (nI q)]))) k (.inl (G.2.1 4, (gcap q), .inr (.inr (.inr (.inr (va_cpy f f g (g + 1) (q - g)))))))) A H := F
      refine lv_aload X.ex X.co dJx4a65c_add_7a177_52 (lv_at hl 0 rfl) ?_
      refine lv_iload_n X.ex X.co dJx4a65c_add_7a177_54 rfl (lv_at hl 3 rfl) ?_
      refine lv_aload_n X.ex X.co dJx4a65c_add_7a177_55 rfl (lv_at hl 4 rfl) ?_
      refine f_aast X hK F hS (Or.inr rfl) (iup_s _ _ _) (iup_s _ _ _) (Or.inl hj) ((iup_n _ _ hne_k).trans hav) ((iup_n _ _ hne_k).trans ((iup_n _ _ hne_i).trans hej)) hc (g0.2.1.2.1 _ hr) (x := nI g) (vp_in_nI (show g < _ by first | exact gcap_lt _ | omega) (by first | exact gc_b _ (by omega) | omega)) dJx4a65c_add_7a177_56 (fun H locs F hS => ?_)
      rw [nI_clamp (show g < 2 ^ 31 by omega)] at F
      rw [iup_iup] at F
      have F : fw G.1 (fun j => lv j ∨ j = k) (iup ad k q_7) (iup (iup en i (.inr (4, [.int (x + 1), .ref q_7, .int (nI q)]))) k (.inl (G.2.1 4, (gcap q), .inr (.inr (.inr (.inr (va_up (va_cpy f f g (g + 1) (q - g)) g (some v)))))))) A H := F
      refine lv_aload_n X.ex X.co dJx4a65c_add_7a177_57 rfl (lv_at hl 2 rfl) ?_
      refine lv_iload_n X.ex X.co dJx4a65c_add_7a177_58 rfl (lv_at hl 1 rfl) ?_
      refine lv_iconst (v := 1) X.ex X.co dJx4a65c_add_7a177_59 (by decide) ?_
      refine n_add X (x := q) (y := 1) dJx4a65c_add_7a177_60 ?_
      refine f_put X hK F hS (Or.inl hi) ((iup_n _ _ (Ne.symm hki)).trans hai) (ci := 4) (fs := [.int (x + 1), .ref q_7, .int (nI q)]) ((iup_n _ _ (Ne.symm hki)).trans (iup_s _ _ _)) okAL rfl 2 (by decide) m_62 (fun _ h => h) rfl (v := .int (nI (q + 1))) rfl rfl rfl (Nat.le_of_ble_eq_true rfl) dJx4a65c_add_7a177_61 (fun H locs F hS => ?_)
      rw [iup_mid hki] at F
      have F : fw G.1 (fun j => lv j ∨ j = k) (iup ad k q_7) (iup (iup en i (.inr (4, [.int (x + 1), .ref q_7, .int (nI (q + 1))]))) k (.inl (G.2.1 4, (gcap q), .inr (.inr (.inr (.inr (va_up (va_cpy f f g (g + 1) (q - g)) g (some v)))))))) A H := F
      exact c_v X hS rfl ⟨rfl, _, F⟩ (by first | omega | decide) (by first | omega | decide) dJx4a65c_add_7a177_64
  · have hl : lv_has ls 5 [(0, .ref a), (1, .int (nI g)), (2, .ref v)] := hl
    rw [show ncap n q = q from if_neg (by omega), if_neg (show ¬ n = q by omega)]
    show W p l e (RM 5 1 0) s m args below meth c s.heap [] 0 0 (MQ below (cQ (eB none (fun H => ∃ q2, fw G.1 (fun j => lv j ∨ j = k) (iup ad k q2) (iup (iup en i (LO (x + 1) q2 (n + 1))) k (LA G (q) (insv f n g v))) A H)) A) args s 1 0 A) (F0 m 0 ls [])
    refine lv_aload_n X.ex X.co dJx4a65c_add_7a177_0 rfl (lv_at hl 0 rfl) ?_
    refine lv_iload_n X.ex X.co dJx4a65c_add_7a177_1 rfl (lv_at hl 1 rfl) ?_
    have at_1 := fw.get F hi hai hei
    refine q_rVv X ce_Jx4a65c_rangeCheckForAdd_d00df m_913 (c_Jx4a65c_rangeCheckForAdd_d00df l G a x d n g hg (by omega)) (g0.step hS hAg) at_1 at_1 rfl (by decide) rfl hl.1 rfl (Nat.le_of_ble_eq_true rfl) dJx4a65c_add_7a177_2 (by omega) (by omega) ?_
    refine lv_aload_n X.ex X.co dJx4a65c_add_7a177_5 rfl (lv_at hl 0 rfl) ?_
    refine lv_dup X.ex X.co dJx4a65c_add_7a177_6 rfl ?_
    have at_2 := fw.get F hi hai hei
    refine f_get X hK at_2 okAL rfl 0 (by decide) m_64 (fun _ h => u_same (X.ts _ m_65) _ h) (v := .int x) rfl dJx4a65c_add_7a177_7 ?_
    refine lv_iconst (v := 1) X.ex X.co dJx4a65c_add_7a177_10 (by decide) ?_
    refine lv_iadd X.ex X.co dJx4a65c_add_7a177_11 ?_
    refine f_put X hK F hS hi hai (ci := 4) (fs := [.int x, .ref d, .int (nI n)]) hei okAL rfl 0 (by decide) m_64 (fun _ h => u_same (X.ts _ m_65) _ h) rfl (v := .int (x + 1)) rfl rfl rfl (Nat.le_of_ble_eq_true rfl) dJx4a65c_add_7a177_12 (fun H locs F hS => ?_)
    have F : fw G.1 lv ad (iup en i (.inr (4, [.int (x + 1), .ref d, .int (nI n)]))) A H := F
    refine lv_aload_n X.ex X.co dJx4a65c_add_7a177_15 rfl (lv_at hl 0 rfl) ?_
    have at_3 := fw.get F hi hai (iup_s _ _ _)
    refine f_get X hK at_3 okAL rfl 2 (by decide) m_62 (fun _ h => h) (v := .int (nI n)) rfl dJx4a65c_add_7a177_16 ?_
    refine lv_dup X.ex X.co dJx4a65c_add_7a177_19 rfl ?_
    refine lv_istore_n (lv' := [(3, .int (nI n)), (0, .ref a), (1, .int (nI g)), (2, .ref v)]) X.ex X.co dJx4a65c_add_7a177_20 rfl hl (by decide) rfl (fun ls hl => ?_)
    refine lv_aload_n X.ex X.co dJx4a65c_add_7a177_21 rfl (lv_at hl 1 rfl) ?_
    have at_4 := fw.get F hi hai (iup_s _ _ _)
    refine f_get X hK at_4 okAL rfl 1 (by decide) m_61 (fun _ h => h) (v := .ref d) rfl dJx4a65c_add_7a177_22 ?_
    refine lv_dup X.ex X.co dJx4a65c_add_7a177_25 rfl ?_
    refine lv_astore (lv' := [(4, .ref d), (3, .int (nI n)), (0, .ref a), (1, .int (nI g)), (2, .ref v)]) X.ex X.co dJx4a65c_add_7a177_26 hl (by decide) rfl (fun ls hl => ?_)
    have at_5 := fw.get F hk hak ((iup_n _ _ hki).trans hek)
    refine f_alen X hK 4 at_5 rfl (v := nI q) rfl dJx4a65c_add_7a177_28 ?_
    refine n_cmp_ne X (x := n) (y := q) (tgt := 38) (by omega) (by omega) dJx4a65c_add_7a177_29 (by decide) (fun c_6 => ?_) (fun c_6 => ?_)
    · refine lv_aload X.ex X.co dJx4a65c_add_7a177_38 (lv_at hl 0 rfl) ?_
      refine lv_iload_n X.ex X.co dJx4a65c_add_7a177_40 rfl (lv_at hl 3 rfl) ?_
      refine lv_aload X.ex X.co dJx4a65c_add_7a177_41 (lv_at hl 0 rfl) ?_
      refine lv_iload_n X.ex X.co dJx4a65c_add_7a177_43 rfl (lv_at hl 3 rfl) ?_
      refine lv_iconst (v := 1) X.ex X.co dJx4a65c_add_7a177_44 (by decide) ?_
      refine n_add X (x := g) (y := 1) dJx4a65c_add_7a177_45 ?_
      refine lv_iload_n X.ex X.co dJx4a65c_add_7a177_46 rfl (lv_at hl 1 rfl) ?_
      refine lv_iload_n X.ex X.co dJx4a65c_add_7a177_47 rfl (lv_at hl 3 rfl) ?_
      refine n_sub X (x := n) (y := g) (by omega) dJx4a65c_add_7a177_48 ?_
      refine f_copyM X hK g0.2.1 F hS hk hak ((iup_n _ _ hki).trans hek) hk hak ((iup_n _ _ hki).trans hek) hl.1 m_866 g (g + 1) (n - g) (by omega) (by omega) (by omega) (by omega) (hf.up hei) (Nat.le_of_ble_eq_true rfl) (Nat.le_of_ble_eq_true rfl) dJx4a65c_add_7a177_49 (fun H locs F hS => ?_)
      have F : fw G.1 lv ad (iup (iup en i (.inr (4, [.int (x + 1), .ref d, .int (nI n)]))) k (.inl (G.2.1 4, q, .inr (.inr (.inr (.inr (va_cpy f f g (g + 1) (n - g)))))))) A H := F
      refine lv_aload X.ex X.co dJx4a65c_add_7a177_52 (lv_at hl 0 rfl) ?_
      refine lv_iload_n X.ex X.co dJx4a65c_add_7a177_54 rfl (lv_at hl 3 rfl) ?_
      refine lv_aload_n X.ex X.co dJx4a65c_add_7a177_55 rfl (lv_at hl 4 rfl) ?_
      refine f_aast X hK F hS hk hak (iup_s _ _ _) hj hav ((iup_n _ _ hne_k).trans ((iup_n _ _ hne_i).trans hej)) hc (g0.2.1.2.1 _ hr) (x := nI g) (vp_in_nI (show g < _ by first | exact gcap_lt _ | omega) (by first | exact gc_b _ (by omega) | omega)) dJx4a65c_add_7a177_56 (fun H locs F hS => ?_)
      rw [nI_clamp (show g < 2 ^ 31 by omega)] at F
      rw [iup_iup] at F
      have F : fw G.1 lv ad (iup (iup en i (.inr (4, [.int (x + 1), .ref d, .int (nI n)]))) k (.inl (G.2.1 4, q, .inr (.inr (.inr (.inr (va_up (va_cpy f f g (g + 1) (n - g)) g (some v)))))))) A H := F
      refine lv_aload_n X.ex X.co dJx4a65c_add_7a177_57 rfl (lv_at hl 2 rfl) ?_
      refine lv_iload_n X.ex X.co dJx4a65c_add_7a177_58 rfl (lv_at hl 1 rfl) ?_
      refine lv_iconst (v := 1) X.ex X.co dJx4a65c_add_7a177_59 (by decide) ?_
      refine n_add X (x := n) (y := 1) dJx4a65c_add_7a177_60 ?_
      refine f_put X hK F hS hi hai (ci := 4) (fs := [.int (x + 1), .ref d, .int (nI n)]) ((iup_n _ _ (Ne.symm hki)).trans (iup_s _ _ _)) okAL rfl 2 (by decide) m_62 (fun _ h => h) rfl (v := .int (nI (n + 1))) rfl rfl rfl (Nat.le_of_ble_eq_true rfl) dJx4a65c_add_7a177_61 (fun H locs F hS => ?_)
      rw [iup_mid hki] at F
      have F : fw G.1 lv ad (iup (iup en i (.inr (4, [.int (x + 1), .ref d, .int (nI (n + 1))]))) k (.inl (G.2.1 4, q, .inr (.inr (.inr (.inr (va_up (va_cpy f f g (g + 1) (n - g)) g (some v)))))))) A H := F
      exact c_v X hS rfl ⟨rfl, _, fw.own hk hak F⟩ (by first | omega | decide) (by first | omega | decide) dJx4a65c_add_7a177_64
    · exact absurd c_6 (by omega)
