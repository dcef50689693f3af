set_option maxHeartbeats 4000000 in
set_option maxRecDepth 100000 in
theorem c_L_cell (l : Launch) (G : GT) (b L : Nat) (xs : Nat → Int32) (i : Nat) (hL : L ≤ 2560) (hi : i ≤ 2560) : Met l yL_cell (wof yL_cell cL_cell 3 (some .int)) (RM 0 0 0) (cPreX [.ref b, .int (nI i)] G b L xs) (rQ (some (.int (cellV xs L i)))) 0 0 (fun _ => False) := by
  refine mk_mX (by decide) (Nat.le_of_ble_eq_true rfl) ?_
  intro p e s m args below meth c X ls hl g0 hX
  have hbl : b < s.heap.size := by
    obtain ⟨scr, h1, -⟩ := hX
    exact (Array.getElem?_eq_some_iff.mp h1).1
  have hl : lv_has ls 3 [(0, .ref b), (1, .int (nI i))] := hl
  refine lv_ldc X.ex X.co X.ow (X.ts _ mn_12) dL_cell_0 ?_
  refine lv_iload_n X.ex X.co dL_cell_2 rfl (lv_at hl 1 rfl) ?_
  refine lv_aload_n X.ex X.co dL_cell_3 rfl (lv_at hl 0 rfl) ?_
  refine va_slen (A := fun _ => False) X.ex X.co hX hbl (fun z => z) va_S.rf dL_cell_4 ?_
  refine n_cmp_ge X (x := i) (y := L) (tgt := 14) (by omega) (by omega) dL_cell_5 (by decide) (fun c_1 => ?_) (fun c_1 => ?_)
  · refine lv_iconst (v := 0) X.ex X.co dL_cell_14 (by decide) ?_
    refine lv_sipush (v := 1009) X.ex X.co dL_cell_15 (by decide) ?_
    refine lv_iload_n X.ex X.co dL_cell_18 rfl (lv_at hl 1 rfl) ?_
    refine n_mul X (x := 1009) (y := i) dL_cell_19 ?_
    refine lv_iadd X.ex X.co dL_cell_20 ?_
    refine lv_imul X.ex X.co dL_cell_21 ?_
    refine lv_sipush (v := 12345) X.ex X.co dL_cell_22 (by decide) ?_
    refine lv_iadd X.ex X.co dL_cell_25 ?_
    refine lv_topi (fun h26 eh26 => ?_)
    refine lv_istore_n (lv' := [(2, .int h26), (0, .ref b), (1, .int (nI i))]) X.ex X.co dL_cell_26 rfl hl (by decide) rfl (fun ls hl => ?_)
    refine lv_iload_n X.ex X.co dL_cell_27 rfl (lv_at hl 0 rfl) ?_
    refine lv_iload_n X.ex X.co dL_cell_28 rfl (lv_at hl 0 rfl) ?_
    refine lv_bipush (v := 13) X.ex X.co dL_cell_29 (by decide) ?_
    refine lv_iushr (v := shU h26 13) X.ex X.co dL_cell_31 rfl ?_
    refine lv_ixor X.ex X.co dL_cell_32 ?_
    refine lv_ldc X.ex X.co X.ow (X.ts _ mn_13) dL_cell_33 ?_
    refine lv_imul X.ex X.co dL_cell_35 ?_
    refine lv_topi (fun h36 eh36 => ?_)
    refine lv_istore_n (lv' := [(2, .int h36), (0, .ref b), (1, .int (nI i))]) X.ex X.co dL_cell_36 rfl hl (by decide) rfl (fun ls hl => ?_)
    refine lv_iload_n X.ex X.co dL_cell_37 rfl (lv_at hl 0 rfl) ?_
    refine lv_iload_n X.ex X.co dL_cell_38 rfl (lv_at hl 0 rfl) ?_
    refine lv_bipush (v := 16) X.ex X.co dL_cell_39 (by decide) ?_
    refine lv_iushr (v := shU h36 16) X.ex X.co dL_cell_41 rfl ?_
    refine lv_ixor X.ex X.co dL_cell_42 ?_
    exact r_i X rfl rfl (by rw [cellV, if_neg (by omega), eh36, eh26]; rfl) dL_cell_43
  · refine lv_aload_n X.ex X.co dL_cell_8 rfl (lv_at hl 0 rfl) ?_
    refine lv_iload_n X.ex X.co dL_cell_9 rfl (lv_at hl 1 rfl) ?_
    refine va_sld (A := fun _ => False) X.ex X.co hX hbl (fun z => z) va_S.rf (i := nI i) (vp_in_nI c_1 (by omega)) dL_cell_10 ?_
    rw [nI_clamp (show i < 2 ^ 31 by omega)]
    refine lv_goto (tgt := 15) X.ex X.co dL_cell_11 (by decide) ?_
    refine lv_sipush (v := 1009) X.ex X.co dL_cell_15 (by decide) ?_
    refine lv_iload_n X.ex X.co dL_cell_18 rfl (lv_at hl 1 rfl) ?_
    refine n_mul X (x := 1009) (y := i) dL_cell_19 ?_
    refine lv_iadd X.ex X.co dL_cell_20 ?_
    refine lv_imul X.ex X.co dL_cell_21 ?_
    refine lv_sipush (v := 12345) X.ex X.co dL_cell_22 (by decide) ?_
    refine lv_iadd X.ex X.co dL_cell_25 ?_
    refine lv_topi (fun h26 eh26 => ?_)
    refine lv_istore_n (lv' := [(2, .int h26), (0, .ref b), (1, .int (nI i))]) X.ex X.co dL_cell_26 rfl hl (by decide) rfl (fun ls hl => ?_)
    refine lv_iload_n X.ex X.co dL_cell_27 rfl (lv_at hl 0 rfl) ?_
    refine lv_iload_n X.ex X.co dL_cell_28 rfl (lv_at hl 0 rfl) ?_
    refine lv_bipush (v := 13) X.ex X.co dL_cell_29 (by decide) ?_
    refine lv_iushr (v := shU h26 13) X.ex X.co dL_cell_31 rfl ?_
    refine lv_ixor X.ex X.co dL_cell_32 ?_
    refine lv_ldc X.ex X.co X.ow (X.ts _ mn_13) dL_cell_33 ?_
    refine lv_imul X.ex X.co dL_cell_35 ?_
    refine lv_topi (fun h36 eh36 => ?_)
    refine lv_istore_n (lv' := [(2, .int h36), (0, .ref b), (1, .int (nI i))]) X.ex X.co dL_cell_36 rfl hl (by decide) rfl (fun ls hl => ?_)
    refine lv_iload_n X.ex X.co dL_cell_37 rfl (lv_at hl 0 rfl) ?_
    refine lv_iload_n X.ex X.co dL_cell_38 rfl (lv_at hl 0 rfl) ?_
    refine lv_bipush (v := 16) X.ex X.co dL_cell_39 (by decide) ?_
    refine lv_iushr (v := shU h36 16) X.ex X.co dL_cell_41 rfl ?_
    refine lv_ixor X.ex X.co dL_cell_42 ?_
    exact r_i X rfl rfl (by rw [cellV, if_pos (by omega), eh36, eh26]; rfl) dL_cell_43
set_option maxHeartbeats 4000000 in
set_option maxRecDepth 100000 in
theorem c_L_pick (l : Launch) (G : GT) (b L : Nat) (xs : Nat → Int32) (i k : Nat) (hL : L ≤ 2560) (hi : i ≤ 2560) (hk : 0 < k) (hk2 : k < 2 ^ 31) : Met l yL_pick (wof yL_pick cL_pick 3 (some .int)) (RM 1 0 0) (cPreX [.ref b, .int (nI i), .int (nI k)] G b L xs) (rQ (some (.int (nI (pkN xs L i k))))) 0 0 (fun _ => False) := by
  refine mk_mX (by decide) (Nat.le_of_ble_eq_true rfl) ?_
  intro p e s m args below meth c X ls hl g0 hX
  have hb9 : (cellV xs L i).toBitVec.toNat / 2 ^ 8 < 2 ^ 31 := by
    have := (cellV xs L i).toBitVec.isLt
    omega
  have hl : lv_has ls 3 [(0, .ref b), (1, .int (nI i)), (2, .int (nI k))] := hl
  refine lv_aload_n X.ex X.co dL_pick_0 rfl (lv_at hl 0 rfl) ?_
  refine lv_iload_n X.ex X.co dL_pick_1 rfl (lv_at hl 1 rfl) ?_
  refine q_rSX X ce_L_cell mn_9 (c_L_cell l G b L xs i hL hi) g0 hX (by omega) rfl hl.1 rfl (Nat.le_of_ble_eq_true rfl) dL_pick_2 (by omega) (by omega) ?_
  refine lv_bipush (v := 8) X.ex X.co dL_pick_5 (by decide) ?_
  refine lv_iushr (v := shU (cellV xs L i) 8) X.ex X.co dL_pick_7 rfl ?_
  rw [shU_8]
  refine lv_iload_n X.ex X.co dL_pick_8 rfl (lv_at hl 2 rfl) ?_
  refine n_rem X (x := (cellV xs L i).toBitVec.toNat / 2 ^ 8) (y := k) hb9 hk hk2 dL_pick_9 ?_
  exact r_i X rfl rfl rfl dL_pick_10
set_option maxHeartbeats 4000000 in
set_option maxRecDepth 100000 in
theorem c_L_told (l : Launch) (G : GT) (x : Int32) (hx : x = 0 ∨ x = 1) : rM l yL_told cL_told 1 (some .int) 0 G [.int x] (fun _ => True) (some (.int x)) := by
  refine mk_m (by decide) (Nat.le_of_ble_eq_true rfl) ?_
  intro p e s m args below meth c X ls hl g0 F hnm
  have hl : lv_has ls 1 [(0, .int x)] := hl
  refine lv_iload_n X.ex X.co dL_told_0 rfl (lv_at hl 0 rfl) ?_
  refine lv_if_eq (tgt := 8) X.ex X.co dL_told_1 (by decide) (fun c_1 => ?_) (fun c_1 => ?_)
  · refine lv_iconst (v := 0) X.ex X.co dL_told_8 (by decide) ?_
    exact r_i X rfl rfl (by rw [c_1]) dL_told_9
  · refine lv_iconst (v := 1) X.ex X.co dL_told_4 (by decide) ?_
    refine lv_goto (tgt := 9) X.ex X.co dL_told_5 (by decide) ?_
    exact r_i X rfl rfl (by rw [hx.resolve_left c_1]) dL_told_9
