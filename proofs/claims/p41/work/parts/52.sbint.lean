theorem nar_b {x : Nat} (h : x < 128) : vp_nar .byte (nI x) = nI x := by
  have : ∀ x, x < 128 → vp_nar .byte (nI x) = nI x := by decide +kernel
  exact this x h
theorem fit_b {x : Nat} (h : x < 128) : fits .byte (.int (nI x)) = true := by
  have : ∀ x, x < 128 → fits .byte (.int (nI x)) = true := by decide +kernel
  exact this x h
/-- the digits of v stand in front of place n + their number -/
def dgP (f : Nat → Int32) (n v : Nat) (f2 : Nat → Int32) : Prop := (∀ x, x < n → f2 x = f x) ∧ (∀ x, x < dgN v → f2 (n + x) = nI ((decS v).getD x 0)) ∧ ∀ m, (∀ x, x < m → fits .byte (.int (f x)) = true) → ∀ x, x < m → fits .byte (.int (f2 x)) = true
theorem upd_fit {f : Nat → Int32} {m j y : Nat} (h : ∀ x, x < m → fits .byte (.int (f x)) = true) (hy : y < 128) : ∀ x, x < m → fits .byte (.int (upd f j (nI y) x)) = true := by
  intro x hx
  unfold upd
  split
  · exact fit_b hy
  · exact h x hx
theorem gt100 : ∀ v, v < 100 → (-100 : Int32) < -nI v := by decide +kernel
theorem ge9 : ∀ v, v < 10 → (-9 : Int32) ≤ -nI v := by decide +kernel
theorem lt9 : ∀ v, v < 100 → 10 ≤ v → ¬ (-9 : Int32) ≤ -nI v := by decide +kernel
theorem ce_J6_getChars_ba4f3 : ceS yJ6_getChars_ba4f3 cJ6_getChars_ba4f3 7 ((Option.some FieldType.int)) 3 := ⟨m_1041, m_34, m_1042, ⟨by decide, by decide, by decide +kernel⟩, by decide⟩
theorem dg_1 {f : Nat → Int32} {n v : Nat} (hv : v < 10) : dgP f n v (upd f (n + 1 - 1) (nI (48 + v % 10))) := by
  refine ⟨fun x hx => ?_, fun x hx => ?_, fun m hm => upd_fit hm (by omega)⟩
  · exact if_neg (by omega)
  · unfold dgN at hx
    rw [if_pos hv] at hx
    obtain rfl : x = 0 := by omega
    unfold decS
    rw [if_pos hv]
    exact (if_pos (by omega)).trans (by rw [Nat.mod_eq_of_lt hv]; rfl)
theorem dg_2 {f : Nat → Int32} {n v : Nat} (hv : v < 100) (h9 : 10 ≤ v) : dgP f n v (upd (upd f (n + 2 - 1) (nI (48 + v % 10))) (n + 2 - 1 - 1) (nI (48 + v / 10))) := by
  refine ⟨fun x hx => ?_, fun x hx => ?_, fun m hm => upd_fit (upd_fit hm (by omega)) (by omega)⟩
  · exact (if_neg (by omega)).trans (if_neg (by omega))
  · unfold dgN at hx
    rw [if_neg (by omega), if_pos hv] at hx
    unfold decS
    rw [if_neg (by omega), if_pos hv]
    have hx2 : x = 0 ∨ x = 1 := by omega
    rcases hx2 with rfl | rfl
    · exact (if_pos (by omega)).trans rfl
    · exact (if_neg (by omega)).trans ((if_pos (by omega)).trans rfl)
theorem dg_3 {f : Nat → Int32} {n v : Nat} (hv : v = 100) : dgP f n v (upd (upd (upd f (n + 3 - 1) (nI (48 + 0 % 10))) (n + 3 - 1 - 1) (nI (48 + 0 / 10))) (n + 3 - 1 - 1 - 1) (nI (48 + 1 % 10))) := by
  subst hv
  refine ⟨fun x hx => ?_, fun x hx => ?_, fun m hm => upd_fit (upd_fit (upd_fit hm (by decide)) (by decide)) (by decide)⟩
  · exact (if_neg (by omega)).trans ((if_neg (by omega)).trans (if_neg (by omega)))
  · have hx : x < 3 := hx
    have hx2 : x = 0 ∨ x = 1 ∨ x = 2 := by omega
    rcases hx2 with rfl | rfl | rfl
    · exact (if_pos (by omega)).trans rfl
    · exact (if_neg (by omega)).trans ((if_pos (by omega)).trans rfl)
    · exact (if_neg (by omega)).trans ((if_neg (by omega)).trans ((if_pos (by omega)).trans rfl))
set_option maxHeartbeats 4000000 in
set_option maxRecDepth 100000 in
theorem c_gc1 (l : Launch) (G : GT) (A : Nat → Prop) (hAg : ∀ q, A q → gA G q) (lv : I2 → Prop) (ad : I2 → Nat) (en : I2 → va_E) (k : I2) (hk : lv k) (d m0 n v : Nat) (f : Nat → Int32) (hak : ad k = d) (hek : en k = SBA G m0 f) (hm : m0 ≤ 100) (hn : n + 1 ≤ m0) (hv : v < 10) : cM l yJ6_getChars_ba4f3 cJ6_getChars_ba4f3 7 ((Option.some FieldType.int)) 0 0 0 G [.int (nI v), .int (nI (n + 1)), .ref d] (fw G.1 lv ad en A) (eB (some (.int (nI n))) (fun H => ∃ f2, dgP f n v f2 ∧ fw G.1 lv ad (iup en k (SBA G m0 f2)) A H)) A := by
  refine mk_m (by decide) (Nat.le_of_ble_eq_true rfl) ?_
  intro p e s m args below meth c X ls hl g0 F hnm
  have hK := g0.1
  have hS : va_S A s.heap s.heap [] := va_S.rf
  have zD := g0.2.2.2.2.2.1
  have zT := g0.2.2.2.2.2.2.1
  have hl : lv_has ls 7 [(0, .int (nI v)), (1, .int (nI (n + 1))), (2, .ref d)] := hl
  show W p l e (RM 0 0 0) s m args below meth c s.heap [] 0 0 (MQ below (cQ (eB (some (.int (nI n))) (fun H => ∃ f2, dgP f n v f2 ∧ fw G.1 lv ad (iup en k (SBA G m0 f2)) A H)) A) args s 0 0 A) (F0 m 0 ls [])
  refine lv_iload_n X.ex X.co dJ6_getChars_ba4f3_0 rfl (lv_at hl 1 rfl) ?_
  refine lv_istore (lv' := [(5, .int (nI (n + 1))), (0, .int (nI v)), (1, .int (nI (n + 1))), (2, .ref d)]) X.ex X.co dJ6_getChars_ba4f3_1 hl (by decide) rfl (fun ls hl => ?_)
  refine lv_iload_n X.ex X.co dJ6_getChars_ba4f3_3 rfl (lv_at hl 1 rfl) ?_
  refine n_if_ge X (x := v) (tgt := 11) (by omega) dJ6_getChars_ba4f3_4 (by decide) (fun c_1 => ?_) (fun c_1 => ?_)
  · refine lv_iconst (v := 0) X.ex X.co dJ6_getChars_ba4f3_11 (by decide) ?_
    refine lv_istore (lv' := [(6, .int 0), (5, .int (nI (n + 1))), (0, .int (nI v)), (1, .int (nI (n + 1))), (2, .ref d)]) X.ex X.co dJ6_getChars_ba4f3_12 hl (by decide) rfl (fun ls hl => ?_)
    refine lv_iload X.ex X.co dJ6_getChars_ba4f3_14 (lv_at hl 0 rfl) ?_
    refine lv_if_ne (tgt := 22) X.ex X.co dJ6_getChars_ba4f3_16 (by decide) (fun c_2 => ?_) (fun c_2 => ?_)
    · exact absurd (by decide) c_2
    · refine lv_iload_n X.ex X.co dJ6_getChars_ba4f3_19 rfl (lv_at hl 2 rfl) ?_
      refine lv_ineg X.ex X.co dJ6_getChars_ba4f3_20 ?_
      refine lv_istore_n (lv' := [(0, .int (-nI v)), (6, .int 0), (5, .int (nI (n + 1))), (1, .int (nI (n + 1))), (2, .ref d)]) X.ex X.co dJ6_getChars_ba4f3_21 rfl hl (by decide) rfl (fun ls hl => ?_)
      refine lv_iload_n X.ex X.co dJ6_getChars_ba4f3_22 rfl (lv_at hl 0 rfl) ?_
      refine lv_bipush (v := (-100)) X.ex X.co dJ6_getChars_ba4f3_23 (by decide) ?_
      refine lv_icmp_gt (tgt := 72) X.ex X.co dJ6_getChars_ba4f3_25 (by decide) (fun c_3 => ?_) (fun c_3 => ?_)
      · refine lv_aload_n X.ex X.co dJ6_getChars_ba4f3_72 rfl (lv_at hl 4 rfl) ?_
        refine lv_iinc (v := nI ((n + 1) - 1)) (lv' := [(5, .int (nI ((n + 1) - 1))), (0, .int (-nI v)), (6, .int 0), (1, .int (nI (n + 1))), (2, .ref d)]) X.ex X.co dJ6_getChars_ba4f3_73 hl (k := 2) rfl (n_dec (by omega)) (by decide) rfl (fun ls hl => ?_)
        refine lv_iload X.ex X.co dJ6_getChars_ba4f3_76 (lv_at hl 0 rfl) ?_
        refine va_gets X.ex X.co (zD.1) (hS.up hAg) X.ow (X.ts _ m_1043) (fun _ h => h) dJ6_getChars_ba4f3_78 ?_
        refine lv_iload_n X.ex X.co dJ6_getChars_ba4f3_81 rfl (lv_at hl 1 rfl) ?_
        refine lv_ineg X.ex X.co dJ6_getChars_ba4f3_82 (top_eq (y := nI v) Int32.neg_neg ?_)
        refine va_tb X.ex X.co zD.2 (hS.up hAg) (i := nI v) (vp_in_nI (show v < 100 by omega) (by omega)) (v := .int (nI (48 + v % 10))) (by rw [nI_clamp (show v < 2 ^ 31 by omega)]) dJ6_getChars_ba4f3_83 ?_
        refine f_bast X hK F hS hk hak hek (x := nI ((n + 1) - 1)) (vp_in_nI (show (n + 1) - 1 < m0 by omega) (by omega)) dJ6_getChars_ba4f3_84 (fun H locs F hS => ?_)
        rw [nI_clamp (show (n + 1) - 1 < 2 ^ 31 by omega), nar_b (show 48 + v % 10 < 128 by omega)] at F
        have F : fw G.1 lv ad (iup en k (.inl (G.2.1 3, m0, .inl (upd f ((n + 1) - 1) (nI (48 + v % 10)))))) A H := F
        refine lv_iload_n X.ex X.co dJ6_getChars_ba4f3_85 rfl (lv_at hl 1 rfl) ?_
        refine lv_bipush (v := (-9)) X.ex X.co dJ6_getChars_ba4f3_86 (by decide) ?_
        refine lv_icmp_ge (tgt := 104) X.ex X.co dJ6_getChars_ba4f3_88 (by decide) (fun c_4 => ?_) (fun c_4 => ?_)
        · refine lv_iload X.ex X.co dJ6_getChars_ba4f3_104 (lv_at hl 2 rfl) ?_
          refine lv_if_eq (tgt := 118) X.ex X.co dJ6_getChars_ba4f3_106 (by decide) (fun c_5 => ?_) (fun c_5 => ?_)
          · refine lv_iload X.ex X.co dJ6_getChars_ba4f3_118 (lv_at hl 0 rfl) ?_
            exact c_i X hS rfl rfl ⟨(by first | rfl | (rw [show (n + 1) - 1 = n by omega])), _, dg_1 hv, F⟩ (by omega) (by omega) dJ6_getChars_ba4f3_120
          · exact absurd (by decide) c_5
        · exact absurd (ge9 v hv) c_4
      · exact absurd (gt100 v (by omega)) c_3
  · exact c_1.elim
set_option maxHeartbeats 4000000 in
set_option maxRecDepth 100000 in
theorem c_gc2 (l : Launch) (G : GT) (A : Nat → Prop) (hAg : ∀ q, A q → gA G q) (lv : I2 → Prop) (ad : I2 → Nat) (en : I2 → va_E) (k : I2) (hk : lv k) (d m0 n v : Nat) (f : Nat → Int32) (hak : ad k = d) (hek : en k = SBA G m0 f) (hm : m0 ≤ 100) (hn : n + 2 ≤ m0) (hv : v < 100) (h9 : 10 ≤ v) : cM l yJ6_getChars_ba4f3 cJ6_getChars_ba4f3 7 ((Option.some FieldType.int)) 0 0 0 G [.int (nI v), .int (nI (n + 2)), .ref d] (fw G.1 lv ad en A) (eB (some (.int (nI n))) (fun H => ∃ f2, dgP f n v f2 ∧ fw G.1 lv ad (iup en k (SBA G m0 f2)) A H)) A := by
  refine mk_m (by decide) (Nat.le_of_ble_eq_true rfl) ?_
  intro p e s m args below meth c X ls hl g0 F hnm
  have hK := g0.1
  have hS : va_S A s.heap s.heap [] := va_S.rf
  have zD := g0.2.2.2.2.2.1
  have zT := g0.2.2.2.2.2.2.1
  have hl : lv_has ls 7 [(0, .int (nI v)), (1, .int (nI (n + 2))), (2, .ref d)] := hl
  show W p l e (RM 0 0 0) s m args below meth c s.heap [] 0 0 (MQ below (cQ (eB (some (.int (nI n))) (fun H => ∃ f2, dgP f n v f2 ∧ fw G.1 lv ad (iup en k (SBA G m0 f2)) A H)) A) args s 0 0 A) (F0 m 0 ls [])
  refine lv_iload_n X.ex X.co dJ6_getChars_ba4f3_0 rfl (lv_at hl 1 rfl) ?_
  refine lv_istore (lv' := [(5, .int (nI (n + 2))), (0, .int (nI v)), (1, .int (nI (n + 2))), (2, .ref d)]) X.ex X.co dJ6_getChars_ba4f3_1 hl (by decide) rfl (fun ls hl => ?_)
  refine lv_iload_n X.ex X.co dJ6_getChars_ba4f3_3 rfl (lv_at hl 1 rfl) ?_
  refine n_if_ge X (x := v) (tgt := 11) (by omega) dJ6_getChars_ba4f3_4 (by decide) (fun c_1 => ?_) (fun c_1 => ?_)
  · refine lv_iconst (v := 0) X.ex X.co dJ6_getChars_ba4f3_11 (by decide) ?_
    refine lv_istore (lv' := [(6, .int 0), (5, .int (nI (n + 2))), (0, .int (nI v)), (1, .int (nI (n + 2))), (2, .ref d)]) X.ex X.co dJ6_getChars_ba4f3_12 hl (by decide) rfl (fun ls hl => ?_)
    refine lv_iload X.ex X.co dJ6_getChars_ba4f3_14 (lv_at hl 0 rfl) ?_
    refine lv_if_ne (tgt := 22) X.ex X.co dJ6_getChars_ba4f3_16 (by decide) (fun c_2 => ?_) (fun c_2 => ?_)
    · exact absurd (by decide) c_2
    · refine lv_iload_n X.ex X.co dJ6_getChars_ba4f3_19 rfl (lv_at hl 2 rfl) ?_
      refine lv_ineg X.ex X.co dJ6_getChars_ba4f3_20 ?_
      refine lv_istore_n (lv' := [(0, .int (-nI v)), (6, .int 0), (5, .int (nI (n + 2))), (1, .int (nI (n + 2))), (2, .ref d)]) X.ex X.co dJ6_getChars_ba4f3_21 rfl hl (by decide) rfl (fun ls hl => ?_)
      refine lv_iload_n X.ex X.co dJ6_getChars_ba4f3_22 rfl (lv_at hl 0 rfl) ?_
      refine lv_bipush (v := (-100)) X.ex X.co dJ6_getChars_ba4f3_23 (by decide) ?_
      refine lv_icmp_gt (tgt := 72) X.ex X.co dJ6_getChars_ba4f3_25 (by decide) (fun c_3 => ?_) (fun c_3 => ?_)
      · refine lv_aload_n X.ex X.co dJ6_getChars_ba4f3_72 rfl (lv_at hl 4 rfl) ?_
        refine lv_iinc (v := nI ((n + 2) - 1)) (lv' := [(5, .int (nI ((n + 2) - 1))), (0, .int (-nI v)), (6, .int 0), (1, .int (nI (n + 2))), (2, .ref d)]) X.ex X.co dJ6_getChars_ba4f3_73 hl (k := 2) rfl (n_dec (by omega)) (by decide) rfl (fun ls hl => ?_)
        refine lv_iload X.ex X.co dJ6_getChars_ba4f3_76 (lv_at hl 0 rfl) ?_
        refine va_gets X.ex X.co (zD.1) (hS.up hAg) X.ow (X.ts _ m_1043) (fun _ h => h) dJ6_getChars_ba4f3_78 ?_
        refine lv_iload_n X.ex X.co dJ6_getChars_ba4f3_81 rfl (lv_at hl 1 rfl) ?_
        refine lv_ineg X.ex X.co dJ6_getChars_ba4f3_82 (top_eq (y := nI v) Int32.neg_neg ?_)
        refine va_tb X.ex X.co zD.2 (hS.up hAg) (i := nI v) (vp_in_nI (show v < 100 by omega) (by omega)) (v := .int (nI (48 + v % 10))) (by rw [nI_clamp (show v < 2 ^ 31 by omega)]) dJ6_getChars_ba4f3_83 ?_
        refine f_bast X hK F hS hk hak hek (x := nI ((n + 2) - 1)) (vp_in_nI (show (n + 2) - 1 < m0 by omega) (by omega)) dJ6_getChars_ba4f3_84 (fun H locs F hS => ?_)
        rw [nI_clamp (show (n + 2) - 1 < 2 ^ 31 by omega), nar_b (show 48 + v % 10 < 128 by omega)] at F
        have F : fw G.1 lv ad (iup en k (.inl (G.2.1 3, m0, .inl (upd f ((n + 2) - 1) (nI (48 + v % 10)))))) A H := F
        refine lv_iload_n X.ex X.co dJ6_getChars_ba4f3_85 rfl (lv_at hl 1 rfl) ?_
        refine lv_bipush (v := (-9)) X.ex X.co dJ6_getChars_ba4f3_86 (by decide) ?_
        refine lv_icmp_ge (tgt := 104) X.ex X.co dJ6_getChars_ba4f3_88 (by decide) (fun c_4 => ?_) (fun c_4 => ?_)
        · exact absurd c_4 (lt9 v hv h9)
        · refine lv_aload_n X.ex X.co dJ6_getChars_ba4f3_91 rfl (lv_at hl 4 rfl) ?_
          refine lv_iinc (v := nI (((n + 2) - 1) - 1)) (lv' := [(5, .int (nI (((n + 2) - 1) - 1))), (0, .int (-nI v)), (6, .int 0), (1, .int (nI (n + 2))), (2, .ref d)]) X.ex X.co dJ6_getChars_ba4f3_92 hl (k := 0) rfl (n_dec (by omega)) (by decide) rfl (fun ls hl => ?_)
          refine lv_iload X.ex X.co dJ6_getChars_ba4f3_95 (lv_at hl 0 rfl) ?_
          refine va_gets X.ex X.co (zT.1) (hS.up hAg) X.ow (X.ts _ m_1045) (fun _ h => h) dJ6_getChars_ba4f3_97 ?_
          refine lv_iload_n X.ex X.co dJ6_getChars_ba4f3_100 rfl (lv_at hl 1 rfl) ?_
          refine lv_ineg X.ex X.co dJ6_getChars_ba4f3_101 (top_eq (y := nI v) Int32.neg_neg ?_)
          refine va_tb X.ex X.co zT.2 (hS.up hAg) (i := nI v) (vp_in_nI (show v < 100 by omega) (by omega)) (v := .int (nI (48 + v / 10))) (by rw [nI_clamp (show v < 2 ^ 31 by omega)]) dJ6_getChars_ba4f3_102 ?_
          refine f_bast X hK F hS hk hak (iup_s _ _ _) (x := nI (((n + 2) - 1) - 1)) (vp_in_nI (show ((n + 2) - 1) - 1 < m0 by omega) (by omega)) dJ6_getChars_ba4f3_103 (fun H locs F hS => ?_)
          rw [nI_clamp (show ((n + 2) - 1) - 1 < 2 ^ 31 by omega), nar_b (show 48 + v / 10 < 128 by omega)] at F
          rw [iup_iup] at F
          have F : fw G.1 lv ad (iup en k (.inl (G.2.1 3, m0, .inl (upd (upd f ((n + 2) - 1) (nI (48 + v % 10))) (((n + 2) - 1) - 1) (nI (48 + v / 10)))))) A H := F
          refine lv_iload X.ex X.co dJ6_getChars_ba4f3_104 (lv_at hl 2 rfl) ?_
          refine lv_if_eq (tgt := 118) X.ex X.co dJ6_getChars_ba4f3_106 (by decide) (fun c_5 => ?_) (fun c_5 => ?_)
          · refine lv_iload X.ex X.co dJ6_getChars_ba4f3_118 (lv_at hl 0 rfl) ?_
            exact c_i X hS rfl rfl ⟨(by first | rfl | (rw [show ((n + 2) - 1) - 1 = n by omega])), _, dg_2 hv h9, F⟩ (by omega) (by omega) dJ6_getChars_ba4f3_120
          · exact absurd (by decide) c_5
      · exact absurd (gt100 v (by omega)) c_3
  · exact c_1.elim
set_option maxHeartbeats 4000000 in
set_option maxRecDepth 100000 in
theorem c_gc3 (l : Launch) (G : GT) (A : Nat → Prop) (hAg : ∀ q, A q → gA G q) (lv : I2 → Prop) (ad : I2 → Nat) (en : I2 → va_E) (k : I2) (hk : lv k) (d m0 n v : Nat) (f : Nat → Int32) (hak : ad k = d) (hek : en k = SBA G m0 f) (hm : m0 ≤ 100) (hn : n + 3 ≤ m0) (hv : v = 100) : cM l yJ6_getChars_ba4f3 cJ6_getChars_ba4f3 7 ((Option.some FieldType.int)) 0 0 0 G [.int 100, .int (nI (n + 3)), .ref d] (fw G.1 lv ad en A) (eB (some (.int (nI n))) (fun H => ∃ f2, dgP f n v f2 ∧ fw G.1 lv ad (iup en k (SBA G m0 f2)) A H)) A := by
  refine mk_m (by decide) (Nat.le_of_ble_eq_true rfl) ?_
  intro p e s m args below meth c X ls hl g0 F hnm
  have hK := g0.1
  have hS : va_S A s.heap s.heap [] := va_S.rf
  have zD := g0.2.2.2.2.2.1
  have zT := g0.2.2.2.2.2.2.1
  have hl : lv_has ls 7 [(0, .int 100), (1, .int (nI (n + 3))), (2, .ref d)] := hl
  show W p l e (RM 0 0 0) s m args below meth c s.heap [] 0 0 (MQ below (cQ (eB (some (.int (nI n))) (fun H => ∃ f2, dgP f n v f2 ∧ fw G.1 lv ad (iup en k (SBA G m0 f2)) A H)) A) args s 0 0 A) (F0 m 0 ls [])
  refine lv_iload_n X.ex X.co dJ6_getChars_ba4f3_0 rfl (lv_at hl 1 rfl) ?_
  refine lv_istore (lv' := [(5, .int (nI (n + 3))), (0, .int 100), (1, .int (nI (n + 3))), (2, .ref d)]) X.ex X.co dJ6_getChars_ba4f3_1 hl (by decide) rfl (fun ls hl => ?_)
  refine lv_iload_n X.ex X.co dJ6_getChars_ba4f3_3 rfl (lv_at hl 1 rfl) ?_
  refine lv_if_ge (tgt := 11) X.ex X.co dJ6_getChars_ba4f3_4 (by decide) (fun c_1 => ?_) (fun c_1 => ?_)
  · refine lv_iconst (v := 0) X.ex X.co dJ6_getChars_ba4f3_11 (by decide) ?_
    refine lv_istore (lv' := [(6, .int 0), (5, .int (nI (n + 3))), (0, .int 100), (1, .int (nI (n + 3))), (2, .ref d)]) X.ex X.co dJ6_getChars_ba4f3_12 hl (by decide) rfl (fun ls hl => ?_)
    refine lv_iload X.ex X.co dJ6_getChars_ba4f3_14 (lv_at hl 0 rfl) ?_
    refine lv_if_ne (tgt := 22) X.ex X.co dJ6_getChars_ba4f3_16 (by decide) (fun c_2 => ?_) (fun c_2 => ?_)
    · exact absurd (by decide) c_2
    · refine lv_iload_n X.ex X.co dJ6_getChars_ba4f3_19 rfl (lv_at hl 2 rfl) ?_
      refine lv_ineg X.ex X.co dJ6_getChars_ba4f3_20 (top_eq (y := (-100)) (by decide) ?_)
      refine lv_istore_n (lv' := [(0, .int (-100)), (6, .int 0), (5, .int (nI (n + 3))), (1, .int (nI (n + 3))), (2, .ref d)]) X.ex X.co dJ6_getChars_ba4f3_21 rfl hl (by decide) rfl (fun ls hl => ?_)
      refine lv_iload_n X.ex X.co dJ6_getChars_ba4f3_22 rfl (lv_at hl 0 rfl) ?_
      refine lv_bipush (v := (-100)) X.ex X.co dJ6_getChars_ba4f3_23 (by decide) ?_
      refine lv_icmp_gt (tgt := 72) X.ex X.co dJ6_getChars_ba4f3_25 (by decide) (fun c_3 => ?_) (fun c_3 => ?_)
      · exact absurd c_3 (by decide)
      · refine lv_iload_n X.ex X.co dJ6_getChars_ba4f3_28 rfl (lv_at hl 0 rfl) ?_
        refine lv_bipush (v := 100) X.ex X.co dJ6_getChars_ba4f3_29 (by decide) ?_
        refine lv_idiv X.ex X.co dJ6_getChars_ba4f3_31 (by decide) (top_eq (y := (-1)) (by decide) ?_)
        refine lv_istore_n (lv' := [(3, .int (-1)), (0, .int (-100)), (6, .int 0), (5, .int (nI (n + 3))), (1, .int (nI (n + 3))), (2, .ref d)]) X.ex X.co dJ6_getChars_ba4f3_32 rfl hl (by decide) rfl (fun ls hl => ?_)
        refine lv_iload_n X.ex X.co dJ6_getChars_ba4f3_33 rfl (lv_at hl 0 rfl) ?_
        refine lv_bipush (v := 100) X.ex X.co dJ6_getChars_ba4f3_34 (by decide) ?_
        refine lv_imul X.ex X.co dJ6_getChars_ba4f3_36 (top_eq (y := (-100)) (by decide) ?_)
        refine lv_iload_n X.ex X.co dJ6_getChars_ba4f3_37 rfl (lv_at hl 1 rfl) ?_
        refine lv_isub X.ex X.co dJ6_getChars_ba4f3_38 (top_eq (y := 0) (by decide) ?_)
        refine lv_istore (lv' := [(4, .int 0), (3, .int (-1)), (0, .int (-100)), (6, .int 0), (5, .int (nI (n + 3))), (1, .int (nI (n + 3))), (2, .ref d)]) X.ex X.co dJ6_getChars_ba4f3_39 hl (by decide) rfl (fun ls hl => ?_)
        refine lv_iload_n X.ex X.co dJ6_getChars_ba4f3_41 rfl (lv_at hl 1 rfl) ?_
        refine lv_istore_n (lv' := [(0, .int (-1)), (4, .int 0), (3, .int (-1)), (6, .int 0), (5, .int (nI (n + 3))), (1, .int (nI (n + 3))), (2, .ref d)]) X.ex X.co dJ6_getChars_ba4f3_42 rfl hl (by decide) rfl (fun ls hl => ?_)
        refine lv_aload_n X.ex X.co dJ6_getChars_ba4f3_43 rfl (lv_at hl 6 rfl) ?_
        refine lv_iinc (v := nI ((n + 3) - 1)) (lv' := [(5, .int (nI ((n + 3) - 1))), (0, .int (-1)), (4, .int 0), (3, .int (-1)), (6, .int 0), (1, .int (nI (n + 3))), (2, .ref d)]) X.ex X.co dJ6_getChars_ba4f3_44 hl (k := 4) rfl (n_dec (by omega)) (by decide) rfl (fun ls hl => ?_)
        refine lv_iload X.ex X.co dJ6_getChars_ba4f3_47 (lv_at hl 0 rfl) ?_
        refine va_gets X.ex X.co (zD.1) (hS.up hAg) X.ow (X.ts _ m_1043) (fun _ h => h) dJ6_getChars_ba4f3_49 ?_
        refine lv_iload X.ex X.co dJ6_getChars_ba4f3_52 (lv_at hl 2 rfl) ?_
        refine va_tb X.ex X.co zD.2 (hS.up hAg) (i := nI 0) (vp_in_nI (show 0 < 100 by omega) (by omega)) (v := .int (nI (48 + 0 % 10))) (by rw [nI_clamp (show 0 < 2 ^ 31 by omega)]) dJ6_getChars_ba4f3_54 ?_
        refine f_bast X hK F hS hk hak hek (x := nI ((n + 3) - 1)) (vp_in_nI (show (n + 3) - 1 < m0 by omega) (by omega)) dJ6_getChars_ba4f3_55 (fun H locs F hS => ?_)
        rw [nI_clamp (show (n + 3) - 1 < 2 ^ 31 by omega), nar_b (show 48 + 0 % 10 < 128 by omega)] at F
        have F : fw G.1 lv ad (iup en k (.inl (G.2.1 3, m0, .inl (upd f ((n + 3) - 1) (nI (48 + 0 % 10)))))) A H := F
        refine lv_aload_n X.ex X.co dJ6_getChars_ba4f3_56 rfl (lv_at hl 6 rfl) ?_
        refine lv_iinc (v := nI (((n + 3) - 1) - 1)) (lv' := [(5, .int (nI (((n + 3) - 1) - 1))), (0, .int (-1)), (4, .int 0), (3, .int (-1)), (6, .int 0), (1, .int (nI (n + 3))), (2, .ref d)]) X.ex X.co dJ6_getChars_ba4f3_57 hl (k := 0) rfl (n_dec (by omega)) (by decide) rfl (fun ls hl => ?_)
        refine lv_iload X.ex X.co dJ6_getChars_ba4f3_60 (lv_at hl 0 rfl) ?_
        refine va_gets X.ex X.co (zT.1) (hS.up hAg) X.ow (X.ts _ m_1045) (fun _ h => h) dJ6_getChars_ba4f3_62 ?_
        refine lv_iload X.ex X.co dJ6_getChars_ba4f3_65 (lv_at hl 2 rfl) ?_
        refine va_tb X.ex X.co zT.2 (hS.up hAg) (i := nI 0) (vp_in_nI (show 0 < 100 by omega) (by omega)) (v := .int (nI (48 + 0 / 10))) (by rw [nI_clamp (show 0 < 2 ^ 31 by omega)]) dJ6_getChars_ba4f3_67 ?_
        refine f_bast X hK F hS hk hak (iup_s _ _ _) (x := nI (((n + 3) - 1) - 1)) (vp_in_nI (show ((n + 3) - 1) - 1 < m0 by omega) (by omega)) dJ6_getChars_ba4f3_68 (fun H locs F hS => ?_)
        rw [nI_clamp (show ((n + 3) - 1) - 1 < 2 ^ 31 by omega), nar_b (show 48 + 0 / 10 < 128 by omega)] at F
        rw [iup_iup] at F
        have F : fw G.1 lv ad (iup en k (.inl (G.2.1 3, m0, .inl (upd (upd f ((n + 3) - 1) (nI (48 + 0 % 10))) (((n + 3) - 1) - 1) (nI (48 + 0 / 10)))))) A H := F
        refine lv_goto (tgt := 22) X.ex X.co dJ6_getChars_ba4f3_69 (by decide) ?_
        refine lv_iload_n X.ex X.co dJ6_getChars_ba4f3_22 rfl (lv_at hl 1 rfl) ?_
        refine lv_bipush (v := (-100)) X.ex X.co dJ6_getChars_ba4f3_23 (by decide) ?_
        refine lv_icmp_gt (tgt := 72) X.ex X.co dJ6_getChars_ba4f3_25 (by decide) (fun c_4 => ?_) (fun c_4 => ?_)
        · refine lv_aload_n X.ex X.co dJ6_getChars_ba4f3_72 rfl (lv_at hl 6 rfl) ?_
          refine lv_iinc (v := nI ((((n + 3) - 1) - 1) - 1)) (lv' := [(5, .int (nI ((((n + 3) - 1) - 1) - 1))), (0, .int (-1)), (4, .int 0), (3, .int (-1)), (6, .int 0), (1, .int (nI (n + 3))), (2, .ref d)]) X.ex X.co dJ6_getChars_ba4f3_73 hl (k := 0) rfl (n_dec (by omega)) (by decide) rfl (fun ls hl => ?_)
          refine lv_iload X.ex X.co dJ6_getChars_ba4f3_76 (lv_at hl 0 rfl) ?_
          refine va_gets X.ex X.co (zD.1) (hS.up hAg) X.ow (X.ts _ m_1043) (fun _ h => h) dJ6_getChars_ba4f3_78 ?_
          refine lv_iload_n X.ex X.co dJ6_getChars_ba4f3_81 rfl (lv_at hl 1 rfl) ?_
          refine lv_ineg X.ex X.co dJ6_getChars_ba4f3_82 (top_eq (y := 1) (by decide) ?_)
          refine va_tb X.ex X.co zD.2 (hS.up hAg) (i := nI 1) (vp_in_nI (show 1 < 100 by omega) (by omega)) (v := .int (nI (48 + 1 % 10))) (by rw [nI_clamp (show 1 < 2 ^ 31 by omega)]) dJ6_getChars_ba4f3_83 ?_
          refine f_bast X hK F hS hk hak (iup_s _ _ _) (x := nI ((((n + 3) - 1) - 1) - 1)) (vp_in_nI (show (((n + 3) - 1) - 1) - 1 < m0 by omega) (by omega)) dJ6_getChars_ba4f3_84 (fun H locs F hS => ?_)
          rw [nI_clamp (show (((n + 3) - 1) - 1) - 1 < 2 ^ 31 by omega), nar_b (show 48 + 1 % 10 < 128 by omega)] at F
          rw [iup_iup] at F
          have F : fw G.1 lv ad (iup en k (.inl (G.2.1 3, m0, .inl (upd (upd (upd f ((n + 3) - 1) (nI (48 + 0 % 10))) (((n + 3) - 1) - 1) (nI (48 + 0 / 10))) ((((n + 3) - 1) - 1) - 1) (nI (48 + 1 % 10)))))) A H := F
          refine lv_iload_n X.ex X.co dJ6_getChars_ba4f3_85 rfl (lv_at hl 1 rfl) ?_
          refine lv_bipush (v := (-9)) X.ex X.co dJ6_getChars_ba4f3_86 (by decide) ?_
          refine lv_icmp_ge (tgt := 104) X.ex X.co dJ6_getChars_ba4f3_88 (by decide) (fun c_5 => ?_) (fun c_5 => ?_)
          · refine lv_iload X.ex X.co dJ6_getChars_ba4f3_104 (lv_at hl 4 rfl) ?_
            refine lv_if_eq (tgt := 118) X.ex X.co dJ6_getChars_ba4f3_106 (by decide) (fun c_6 => ?_) (fun c_6 => ?_)
            · refine lv_iload X.ex X.co dJ6_getChars_ba4f3_118 (lv_at hl 0 rfl) ?_
              exact c_i X hS rfl rfl ⟨(by first | rfl | (rw [show (((n + 3) - 1) - 1) - 1 = n by omega])), _, dg_3 hv, F⟩ (by omega) (by omega) dJ6_getChars_ba4f3_120
            · exact absurd (by decide) c_6
          · exact absurd (by decide) c_5
        · exact absurd (by decide) c_4
  · exact absurd (by decide) c_1
theorem c_gc (l : Launch) (G : GT) (A : Nat → Prop) (hAg : ∀ q, A q → gA G q) (lv : I2 → Prop) (ad : I2 → Nat) (en : I2 → va_E) (k : I2) (hk : lv k) (d m0 n v : Nat) (f : Nat → Int32) (hak : ad k = d) (hek : en k = SBA G m0 f) (hm : m0 ≤ 100) (hn : n + dgN v ≤ m0) (hv : v ≤ 100) : cM l yJ6_getChars_ba4f3 cJ6_getChars_ba4f3 7 ((Option.some FieldType.int)) 0 0 0 G [.int (nI v), .int (nI (n + dgN v)), .ref d] (fw G.1 lv ad en A) (eB (some (.int (nI n))) (fun H => ∃ f2, dgP f n v f2 ∧ fw G.1 lv ad (iup en k (SBA G m0 f2)) A H)) A := by
  rcases Nat.lt_or_ge v 10 with h | h
  · have e : dgN v = 1 := if_pos h
    rw [e] at hn ⊢
    exact c_gc1 l G A hAg lv ad en k hk d m0 n v f hak hek hm hn h
  · rcases Nat.lt_or_ge v 100 with h2 | h2
    · have e : dgN v = 2 := (if_neg (by omega)).trans (if_pos h2)
      rw [e] at hn ⊢
      exact c_gc2 l G A hAg lv ad en k hk d m0 n v f hak hek hm hn h2 h
    · have e : dgN v = 3 := (if_neg (by omega)).trans (if_neg (by omega))
      rw [e] at hn ⊢
      have e2 : nI v = 100 := by rw [show v = 100 by omega]; rfl
      rw [e2]
      exact c_gc3 l G A hAg lv ad en k hk d m0 n v f hak hek hm hn (by omega)
