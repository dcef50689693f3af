theorem iup_self {α : Type} (f : I2 → α) (k : I2) : iup f k (f k) = f := by
  funext j
  unfold iup
  by_cases h : j = k
  · rw [if_pos h, h]
  · rw [if_neg h]
set_option maxHeartbeats 4000000 in
set_option maxRecDepth 100000 in
theorem c_Jx4a65c_clear_da8c8 (l : Launch) (G : GT) (A : Nat → Prop) (hAg : ∀ q, A q → gA G q) (lv : I2 → Prop) (ad : I2 → Nat) (en : I2 → va_E) (i k : I2) (hki : k ≠ i) (hi : lv i) (a d n q : Nat) (x : Int32) (f : Nat → Option Nat) (hai : ad i = a) (hei : en i = LO x d n) (hla : la G lv ad en k d q f) (hn : n ≤ q) (hq : q ≤ 1000) (hfn : ∀ x, n ≤ x → f x = none) : cM l yJx4a65c_clear_da8c8 cJx4a65c_clear_da8c8 4 ((Option.none : Option FieldType)) 0 0 0 G [.ref a] (fw G.1 lv ad en A) (eB none (fun H => (q = 0 ∧ fw G.1 lv ad (iup en i (LO (x + 1) d 0)) A H) ∨ (0 < q ∧ fw G.1 lv ad (iup (iup en i (LO (x + 1) d 0)) k (LA G q (fun _ => none))) A H))) A := by
  refine mk_m (by decide) (Nat.le_of_ble_eq_true rfl) ?_
  intro p e s m args below meth c X ls hl g0 F hnm
  have hK := g0.1
  have hS : va_S A s.heap s.heap [] := va_S.rf
  have hcase : (q = 0 ∧ 0 = n ∧ ¬ lv k ∧ d = G.2.2 0 ∧ f = fun _ => none) ∨ (0 < q ∧ lv k ∧ ad k = d ∧ en k = LA G q f) := by
    rcases hla with ⟨h1, h2, h3, h4⟩ | ⟨h1, h2, h3, h4⟩
    · exact Or.inl ⟨h1, by omega, h2, h3, h4⟩
    · exact Or.inr ⟨h1, h2, h3, h4⟩
  rcases hcase with ⟨rfl, rfl, hnk, rfl, rfl⟩ | ⟨h0, hk, hak, hek⟩
  · have hl : lv_has ls 4 [(0, .ref a)] := hl
    show W p l e (RM 0 0 0) s m args below meth c s.heap [] 0 0 (MQ below (cQ (eB none (fun H => (0 = 0 ∧ fw G.1 lv ad (iup en i (LO (x + 1) (G.2.2 0) 0)) A H) ∨ (0 < 0 ∧ fw G.1 lv ad (iup (iup en i (LO (x + 1) (G.2.2 0) 0)) k (LA G 0 (fun _ => none))) A H))) A) args s 0 0 A) (F0 m 0 ls [])
    refine lv_aload_n X.ex X.co dJx4a65c_clear_da8c8_0 rfl (lv_at hl 0 rfl) ?_
    refine lv_dup X.ex X.co dJx4a65c_clear_da8c8_1 rfl ?_
    have at_1 := fw.get F hi hai hei
    refine f_get X hK at_1 okAL rfl 0 (by decide) m_64 (fun _ h => u_same (X.ts _ m_65) _ h) (v := .int x) rfl dJx4a65c_clear_da8c8_2 ?_
    refine lv_iconst (v := 1) X.ex X.co dJx4a65c_clear_da8c8_5 (by decide) ?_
    refine lv_iadd X.ex X.co dJx4a65c_clear_da8c8_6 ?_
    refine f_put X hK F hS hi hai (ci := 4) (fs := [.int x, .ref (G.2.2 0), .int (nI 0)]) hei okAL rfl 0 (by decide) m_64 (fun _ h => u_same (X.ts _ m_65) _ h) rfl (v := .int (x + 1)) rfl rfl rfl (Nat.le_of_ble_eq_true rfl) dJx4a65c_clear_da8c8_7 (fun H locs F hS => ?_)
    have F : fw G.1 lv ad (iup en i (.inr (4, [.int (x + 1), .ref (G.2.2 0), .int (nI 0)]))) A H := F
    refine lv_aload_n X.ex X.co dJx4a65c_clear_da8c8_10 rfl (lv_at hl 0 rfl) ?_
    have at_2 := fw.get F hi hai (iup_s _ _ _)
    refine f_get X hK at_2 okAL rfl 1 (by decide) m_61 (fun _ h => h) (v := .ref (G.2.2 0)) rfl dJx4a65c_clear_da8c8_11 ?_
    refine lv_astore_n (lv' := [(1, .ref (G.2.2 0)), (0, .ref a)]) X.ex X.co dJx4a65c_clear_da8c8_14 rfl hl (by decide) rfl (fun ls hl => ?_)
    refine lv_aload_n X.ex X.co dJx4a65c_clear_da8c8_15 rfl (lv_at hl 1 rfl) ?_
    have at_3 := fw.get F hi hai (iup_s _ _ _)
    refine f_get X hK at_3 okAL rfl 2 (by decide) m_62 (fun _ h => h) (v := .int (nI 0)) rfl dJx4a65c_clear_da8c8_16 ?_
    refine lv_istore_n (lv' := [(2, .int (nI 0)), (1, .ref (G.2.2 0)), (0, .ref a)]) X.ex X.co dJx4a65c_clear_da8c8_19 rfl hl (by decide) rfl (fun ls hl => ?_)
    refine lv_aload_n X.ex X.co dJx4a65c_clear_da8c8_20 rfl (lv_at hl 2 rfl) ?_
    refine lv_iconst (v := 0) X.ex X.co dJx4a65c_clear_da8c8_21 (by decide) ?_
    refine lv_dup_x1 X.ex X.co dJx4a65c_clear_da8c8_22 rfl rfl ?_
    refine f_put X hK F hS hi hai (ci := 4) (fs := [.int (x + 1), .ref (G.2.2 0), .int (nI 0)]) (iup_s _ _ _) okAL rfl 2 (by decide) m_62 (fun _ h => h) rfl (v := .int 0) rfl rfl rfl (Nat.le_of_ble_eq_true rfl) dJx4a65c_clear_da8c8_23 (fun H locs F hS => ?_)
    rw [iup_iup] at F
    have F : fw G.1 lv ad (iup en i (.inr (4, [.int (x + 1), .ref (G.2.2 0), .int 0]))) A H := F
    refine lv_istore_n (lv' := [(3, .int 0), (2, .int (nI 0)), (1, .ref (G.2.2 0)), (0, .ref a)]) X.ex X.co dJx4a65c_clear_da8c8_26 rfl hl (by decide) rfl (fun ls hl => ?_)
    refine lv_iload_n X.ex X.co dJx4a65c_clear_da8c8_27 rfl (lv_at hl 0 rfl) ?_
    refine lv_iload_n X.ex X.co dJx4a65c_clear_da8c8_28 rfl (lv_at hl 1 rfl) ?_
    refine lv_icmp_ge (tgt := 42) X.ex X.co dJx4a65c_clear_da8c8_29 (by decide) (fun c_4 => ?_) (fun c_4 => ?_)
    · exact c_v X hS rfl ⟨rfl, Or.inl ⟨rfl, F⟩⟩ (by first | omega | decide) (by first | omega | decide) dJx4a65c_clear_da8c8_42
    · exact absurd (by decide) c_4
  · have hl : lv_has ls 4 [(0, .ref a)] := hl
    show W p l e (RM 0 0 0) s m args below meth c s.heap [] 0 0 (MQ below (cQ (eB none (fun H => (q = 0 ∧ fw G.1 lv ad (iup en i (LO (x + 1) d 0)) A H) ∨ (0 < q ∧ fw G.1 lv ad (iup (iup en i (LO (x + 1) d 0)) k (LA G q (fun _ => none))) A H))) A) args s 0 0 A) (F0 m 0 ls [])
    refine lv_aload_n X.ex X.co dJx4a65c_clear_da8c8_0 rfl (lv_at hl 0 rfl) ?_
    refine lv_dup X.ex X.co dJx4a65c_clear_da8c8_1 rfl ?_
    have at_1 := fw.get F hi hai hei
    refine f_get X hK at_1 okAL rfl 0 (by decide) m_64 (fun _ h => u_same (X.ts _ m_65) _ h) (v := .int x) rfl dJx4a65c_clear_da8c8_2 ?_
    refine lv_iconst (v := 1) X.ex X.co dJx4a65c_clear_da8c8_5 (by decide) ?_
    refine lv_iadd X.ex X.co dJx4a65c_clear_da8c8_6 ?_
    refine f_put X hK F hS hi hai (ci := 4) (fs := [.int x, .ref d, .int (nI n)]) hei okAL rfl 0 (by decide) m_64 (fun _ h => u_same (X.ts _ m_65) _ h) rfl (v := .int (x + 1)) rfl rfl rfl (Nat.le_of_ble_eq_true rfl) dJx4a65c_clear_da8c8_7 (fun H locs F hS => ?_)
    have F : fw G.1 lv ad (iup en i (.inr (4, [.int (x + 1), .ref d, .int (nI n)]))) A H := F
    refine lv_aload_n X.ex X.co dJx4a65c_clear_da8c8_10 rfl (lv_at hl 0 rfl) ?_
    have at_2 := fw.get F hi hai (iup_s _ _ _)
    refine f_get X hK at_2 okAL rfl 1 (by decide) m_61 (fun _ h => h) (v := .ref d) rfl dJx4a65c_clear_da8c8_11 ?_
    refine lv_astore_n (lv' := [(1, .ref d), (0, .ref a)]) X.ex X.co dJx4a65c_clear_da8c8_14 rfl hl (by decide) rfl (fun ls hl => ?_)
    refine lv_aload_n X.ex X.co dJx4a65c_clear_da8c8_15 rfl (lv_at hl 1 rfl) ?_
    have at_3 := fw.get F hi hai (iup_s _ _ _)
    refine f_get X hK at_3 okAL rfl 2 (by decide) m_62 (fun _ h => h) (v := .int (nI n)) rfl dJx4a65c_clear_da8c8_16 ?_
    refine lv_istore_n (lv' := [(2, .int (nI n)), (1, .ref d), (0, .ref a)]) X.ex X.co dJx4a65c_clear_da8c8_19 rfl hl (by decide) rfl (fun ls hl => ?_)
    refine lv_aload_n X.ex X.co dJx4a65c_clear_da8c8_20 rfl (lv_at hl 2 rfl) ?_
    refine lv_iconst (v := 0) X.ex X.co dJx4a65c_clear_da8c8_21 (by decide) ?_
    refine lv_dup_x1 X.ex X.co dJx4a65c_clear_da8c8_22 rfl rfl ?_
    refine f_put X hK F hS hi hai (ci := 4) (fs := [.int (x + 1), .ref d, .int (nI n)]) (iup_s _ _ _) okAL rfl 2 (by decide) m_62 (fun _ h => h) rfl (v := .int 0) rfl rfl rfl (Nat.le_of_ble_eq_true rfl) dJx4a65c_clear_da8c8_23 (fun H locs F hS => ?_)
    rw [iup_iup] at F
    have F : fw G.1 lv ad (iup en i (.inr (4, [.int (x + 1), .ref d, .int 0]))) A H := F
    refine lv_istore_n (lv' := [(3, .int 0), (2, .int (nI n)), (1, .ref d), (0, .ref a)]) X.ex X.co dJx4a65c_clear_da8c8_26 rfl hl (by decide) rfl (fun ls hl => ?_)
    have F : fw G.1 lv ad (iup (iup en i (.inr (4, [.int (x + 1), .ref d, .int (nI 0)]))) k (.inl (G.2.1 4, q, .inr (.inr (.inr (.inr (clr f 0))))))) A H := by show fw _ _ _ (iup _ _ (LA G q (clr f 0))) _ _; rw [clr_0]; rw [← show en k = LA G q f from hek, ← iup_n en (LO (x + 1) d 0) hki, iup_self]; exact F
    have loop_5 : ∀ (fu_4 z : Nat), z ≤ n → n < z + fu_4 → ∀ (H : Heap) (locs : List Loc), fw G.1 lv ad (iup (iup en i (.inr (4, [.int (x + 1), .ref d, .int (nI 0)]))) k (.inl (G.2.1 4, q, .inr (.inr (.inr (.inr (clr f z))))))) A H → va_S A s.heap H locs → ∀ ls : Array Slot, lv_has ls 4 [(3, .int (nI z)), (2, .int (nI n)), (1, .ref d), (0, .ref a)] → Wc p l e 0 0 0 s m args below meth c (eB none (fun H => (q = 0 ∧ fw G.1 lv ad (iup en i (LO (x + 1) d 0)) A H) ∨ (0 < q ∧ fw G.1 lv ad (iup (iup en i (LO (x + 1) d 0)) k (LA G q (fun _ => none))) A H))) A H locs 0 0 27 ls [] := by
      intro fu_4
      induction fu_4 with
      | zero => intro z h_7 h_8; exact absurd h_8 (by omega)
      | succ fu_4 ih_6 =>
        intro z h_7 h_8 H locs F hS ls hl
        refine lv_iload_n X.ex X.co dJx4a65c_clear_da8c8_27 rfl (lv_at hl 0 rfl) ?_
        refine lv_iload_n X.ex X.co dJx4a65c_clear_da8c8_28 rfl (lv_at hl 1 rfl) ?_
        refine n_cmp_ge X (x := z) (y := n) (tgt := 42) (by omega) (by omega) dJx4a65c_clear_da8c8_29 (by decide) (fun c_9 => ?_) (fun c_9 => ?_)
        · have hq_10 : z = n := by omega
          rw [hq_10] at hl
          rw [hq_10] at F
          exact c_v X hS rfl ⟨rfl, Or.inr ⟨h0, (by rw [clr_n hfn] at F; exact F)⟩⟩ (by first | omega | decide) (by first | omega | decide) dJx4a65c_clear_da8c8_42
        · refine lv_aload_n X.ex X.co dJx4a65c_clear_da8c8_32 rfl (lv_at hl 2 rfl) ?_
          refine lv_iload_n X.ex X.co dJx4a65c_clear_da8c8_33 rfl (lv_at hl 0 rfl) ?_
          refine lv_null X.ex X.co dJx4a65c_clear_da8c8_34 ?_
          refine f_aastN X hK F hS hk hak (iup_s _ _ _) (x := nI z) (vp_in_nI (show z < q by omega) (by omega)) dJx4a65c_clear_da8c8_35 (fun H locs F hS => ?_)
          rw [nI_clamp (show z < 2 ^ 31 by omega)] at F
          rw [iup_iup] at F
          have F : fw G.1 lv ad (iup (iup en i (.inr (4, [.int (x + 1), .ref d, .int (nI 0)]))) k (.inl (G.2.1 4, q, .inr (.inr (.inr (.inr (va_up (clr f z) z none))))))) A H := F
          refine lv_iinc (v := nI (z + 1)) (lv' := [(3, .int (nI (z + 1))), (2, .int (nI n)), (1, .ref d), (0, .ref a)]) X.ex X.co dJx4a65c_clear_da8c8_36 hl (k := 0) rfl (n_inc _) (by decide) rfl (fun ls hl => ?_)
          refine lv_goto (tgt := 27) X.ex X.co dJx4a65c_clear_da8c8_39 (by decide) ?_
          have q_11 : fw G.1 lv ad (iup (iup en i (.inr (4, [.int (x + 1), .ref d, .int (nI 0)]))) k (.inl (G.2.1 4, q, .inr (.inr (.inr (.inr (clr f (z + 1)))))))) A = fw G.1 lv ad (iup (iup en i (.inr (4, [.int (x + 1), .ref d, .int (nI 0)]))) k (.inl (G.2.1 4, q, .inr (.inr (.inr (.inr (va_up (clr f z) z none))))))) A := by (rw [clr_s])
          exact ih_6 (z + 1) (by omega) (by omega) _ _ (q_11 ▸ F) hS ls (lv_sub hl [0, 1, 2, 3] rfl)
    exact loop_5 (n + 1) 0 (by omega) (by omega) _ _ F hS ls (lv_sub hl [0, 1, 2, 3] rfl)
