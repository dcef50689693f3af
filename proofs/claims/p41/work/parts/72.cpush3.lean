set_option maxHeartbeats 4000000 in
set_option maxRecDepth 100000 in
theorem c_X5_init (l : Launch) (G : GT) (A : Nat → Prop) (hAg : ∀ q, A q → gA G q) (lv : I2 → Prop) (ad : I2 → Nat) (en : I2 → va_E) (io : I2) (hio : lv io) (a : Nat) (hao : ad io = a) (heo : en io = .inr (10, [.int 0, .int 0, .null, .int 0])) (x y : Int32) (il : I2) (hil : ¬ lv il) (hne : io ≠ il) : cM l yX5_init cX5_init 3 ((Option.none : Option FieldType)) 3 1 3 G [.ref a, .int x, .int y] (fun H => fw G.1 lv ad en A H ∧ ∀ q, H.size ≤ q → A q) (fun r H => r = none ∧ ∃ q2, fw G.1 (fun j => lv j ∨ j = il) (iup ad il q2) (iup (iup en il (LO 0 (G.2.2 0) 0)) io (.inr (10, [.int x, .int y, .ref q2, .int 0]))) A H) A := by
  refine mk_m (by decide) (Nat.le_of_ble_eq_true rfl) ?_
  intro p e s m args below meth c X ls hl g0 F hnm
  have hK := g0.1
  have hS : va_S A s.heap s.heap [] := va_S.rf
  obtain ⟨F, hfr⟩ := F
  have hl : lv_has ls 3 [(0, .ref a), (1, .int x), (2, .int y)] := hl
  show W p l e (RM 3 1 3) s m args below meth c s.heap [] 0 0 (MQ below (cQ (fun r H => r = none ∧ ∃ q2, fw G.1 (fun j => lv j ∨ j = il) (iup ad il q2) (iup (iup en il (LO 0 (G.2.2 0) 0)) io (.inr (10, [.int x, .int y, .ref q2, .int 0]))) A H) A) args s 1 3 A) (F0 m 0 ls [])
  refine lv_aload_n X.ex X.co dX5_init_0 rfl (lv_at hl 0 rfl) ?_
  refine f_obj X hl.1 m_522 dX5_init_1 (Nat.le_of_ble_eq_true rfl) (Nat.le_of_ble_eq_true rfl) ?_
  refine lv_aload_n X.ex X.co dX5_init_4 rfl (lv_at hl 0 rfl) ?_
  refine f_new X hK F hS hfr il hil (ci := 4) okAL rfl m_523 m_48 m_4 [.int 0, .null, .int 0] (by intro j hj; match j, hj with | 0, _ => rfl | 1, _ => rfl | 2, _ => rfl | n + 3, h => exact absurd h (by omega)) (by show _ ≤ 1; omega) (by show _ ≤ 3; omega) dX5_init_5 (fun q_1 H F hS => ?_)
  have F : fw G.1 (fun j => lv j ∨ j = il) (iup ad il q_1) (iup en il (.inr (4, [.int 0, .null, .int 0]))) A H := F
  refine lv_dup X.ex X.co dX5_init_8 rfl ?_
  refine q_vI X ce_Jx4a65c_init_da8c8 m_524 (c_Jx4a65c_init_da8c8 l G A hAg (fun j => lv j ∨ j = il) (iup ad il q_1) (iup en il (.inr (4, [.int 0, .null, .int 0]))) il (Or.inr rfl) q_1 (iup_s _ _ _) (iup_s _ _ _)) (g0.step hS hAg) F (by decide) rfl hl.1 rfl (Nat.le_of_ble_eq_true rfl) dX5_init_9 (by show _ ≤ 1; omega) (by show _ ≤ 3; omega) hS (fun _ h => h) (fun H locs F hz hk9 hS => ?_)
  rw [iup_iup] at F
  have F : fw G.1 (fun j => lv j ∨ j = il) (iup ad il q_1) (iup en il (LO 0 (G.2.2 0) 0)) A H := F
  refine f_putF X hnm hK F hS (Or.inl (hio)) ((iup_n _ _ hne).trans hao) (ci := 10) (fs := [.int 0, .int 0, .null, .int 0]) ((iup_n _ _ hne).trans heo) okX5 rfl 2 (by decide) m_529 (fun _ h => h) rfl rfl (v := .ref q_1) rfl rfl rfl (Nat.le_of_ble_eq_true rfl) dX5_init_12 (fun H locs F hS => ?_)
  have F : fw G.1 (fun j => lv j ∨ j = il) (iup ad il q_1) (iup (iup en il (LO 0 (G.2.2 0) 0)) io (.inr (10, [.int 0, .int 0, .ref q_1, .int 0]))) A H := F
  refine lv_aload_n X.ex X.co dX5_init_15 rfl (lv_at hl 0 rfl) ?_
  refine lv_iload_n X.ex X.co dX5_init_16 rfl (lv_at hl 1 rfl) ?_
  refine f_putF X hnm hK F hS (Or.inl (hio)) ((iup_n _ _ hne).trans hao) (ci := 10) (fs := [.int 0, .int 0, .ref q_1, .int 0]) (iup_s _ _ _) okX5 rfl 0 (by decide) m_525 (fun _ h => h) rfl rfl (v := .int x) rfl rfl rfl (Nat.le_of_ble_eq_true rfl) dX5_init_17 (fun H locs F hS => ?_)
  rw [iup_iup] at F
  have F : fw G.1 (fun j => lv j ∨ j = il) (iup ad il q_1) (iup (iup en il (LO 0 (G.2.2 0) 0)) io (.inr (10, [.int x, .int 0, .ref q_1, .int 0]))) A H := F
  refine lv_aload_n X.ex X.co dX5_init_20 rfl (lv_at hl 0 rfl) ?_
  refine lv_iload_n X.ex X.co dX5_init_21 rfl (lv_at hl 2 rfl) ?_
  refine f_putF X hnm hK F hS (Or.inl (hio)) ((iup_n _ _ hne).trans hao) (ci := 10) (fs := [.int x, .int 0, .ref q_1, .int 0]) (iup_s _ _ _) okX5 rfl 1 (by decide) m_527 (fun _ h => h) rfl rfl (v := .int y) rfl rfl rfl (Nat.le_of_ble_eq_true rfl) dX5_init_22 (fun H locs F hS => ?_)
  rw [iup_iup] at F
  have F : fw G.1 (fun j => lv j ∨ j = il) (iup ad il q_1) (iup (iup en il (LO 0 (G.2.2 0) 0)) io (.inr (10, [.int x, .int y, .ref q_1, .int 0]))) A H := F
  exact c_v X hS rfl ⟨rfl, _, F⟩ (by omega) (by omega) dX5_init_25
set_option maxHeartbeats 4000000 in
set_option maxRecDepth 100000 in
theorem c_X4_init (l : Launch) (G : GT) (A : Nat → Prop) (hAg : ∀ q, A q → gA G q) (lv : I2 → Prop) (ad : I2 → Nat) (en : I2 → va_E) (io : I2) (hio : lv io) (a : Nat) (hao : ad io = a) (heo : en io = .inr (9, [.int 0, .null, .int 0, .null, .null, .null, .null, .int 0, .int 0])) (x : Int32) (r1 r2 : Nat) (z : Int32) (i3 i4 il : I2) (h3 : ¬ lv i3) (h4 : ¬ lv i4) (hil : ¬ lv il) (n0 : io ≠ i3) (n1 : io ≠ i4) (n2 : io ≠ il) (n3 : i3 ≠ i4) (n4 : i3 ≠ il) (n5 : i4 ≠ il) : cM l yX4_init cX4_init 5 ((Option.none : Option FieldType)) 3 3 15 G [.ref a, .int x, .ref r1, .ref r2, .int z] (fun H => fw G.1 lv ad en A H ∧ ∀ q, H.size ≤ q → A q) (fun r H => r = none ∧ ∃ q3 q4 q5, fw G.1 (fun j => (fun j => (fun j => lv j ∨ j = i3) j ∨ j = i4) j ∨ j = il) (iup (iup (iup ad i3 q3) i4 q4) il q5) (iup (iup (iup (iup (iup (iup en i3 (.inl (G.2.1 0, 6, .inl (fun _ => 0)))) io (.inr (9, [.int 0, .null, .int 0, .ref q3, .null, .null, .null, .int 0, .int 0]))) i4 (.inl (G.2.1 0, 6, .inl (fun _ => 0)))) io (.inr (9, [.int 0, .null, .int 0, .ref q3, .ref q4, .null, .null, .int 0, .int 0]))) il (LO 0 (G.2.2 0) 0)) io (.inr (9, [.int x, .ref r1, .int z, .ref q3, .ref q4, .ref q5, .ref r2, .int 0, .int 0]))) A H) A := by
  refine mk_m (by decide) (Nat.le_of_ble_eq_true rfl) ?_
  intro p e s m args below meth c X ls hl g0 F hnm
  have hK := g0.1
  have hS : va_S A s.heap s.heap [] := va_S.rf
  obtain ⟨F, hfr⟩ := F
  have hl : lv_has ls 5 [(0, .ref a), (1, .int x), (2, .ref r1), (3, .ref r2), (4, .int z)] := hl
  show W p l e (RM 3 3 15) s m args below meth c s.heap [] 0 0 (MQ below (cQ (fun r H => r = none ∧ ∃ q3 q4 q5, fw G.1 (fun j => (fun j => (fun j => lv j ∨ j = i3) j ∨ j = i4) j ∨ j = il) (iup (iup (iup ad i3 q3) i4 q4) il q5) (iup (iup (iup (iup (iup (iup en i3 (.inl (G.2.1 0, 6, .inl (fun _ => 0)))) io (.inr (9, [.int 0, .null, .int 0, .ref q3, .null, .null, .null, .int 0, .int 0]))) i4 (.inl (G.2.1 0, 6, .inl (fun _ => 0)))) io (.inr (9, [.int 0, .null, .int 0, .ref q3, .ref q4, .null, .null, .int 0, .int 0]))) il (LO 0 (G.2.2 0) 0)) io (.inr (9, [.int x, .ref r1, .int z, .ref q3, .ref q4, .ref q5, .ref r2, .int 0, .int 0]))) A H) A) args s 3 15 A) (F0 m 0 ls [])
  refine lv_aload_n X.ex X.co dX4_init_0 rfl (lv_at hl 0 rfl) ?_
  refine f_obj X hl.1 m_578 dX4_init_1 (Nat.le_of_ble_eq_true rfl) (Nat.le_of_ble_eq_true rfl) ?_
  refine lv_aload_n X.ex X.co dX4_init_4 rfl (lv_at hl 0 rfl) ?_
  refine lv_bipush (v := 6) X.ex X.co dX4_init_5 (by decide) ?_
  refine f_newa (atype := .int) X hK F hS hfr i3 h3 0 rfl rfl (fun _ => by intro z; cases z) m_618 (a0 := (6, .inl (fun _ => 0))) (fun _ => rfl) (by decide) (by decide) (by decide) (by show _ ≤ 3; omega) (by show _ ≤ 15; omega) dX4_init_7 (fun q_1 H F hS => ?_)
  have F : fw G.1 (fun j => lv j ∨ j = i3) (iup ad i3 q_1) (iup en i3 (.inl (G.2.1 0, 6, .inl (fun _ => 0)))) A H := F
  refine f_putF X hnm hK F hS (Or.inl (hio)) ((iup_n _ _ n0).trans hao) (ci := 9) (fs := [.int 0, .null, .int 0, .null, .null, .null, .null, .int 0, .int 0]) ((iup_n _ _ n0).trans heo) okX4 rfl 3 (by decide) m_588 (fun _ h => h) rfl rfl (v := .ref q_1) rfl rfl rfl (Nat.le_of_ble_eq_true rfl) dX4_init_9 (fun H locs F hS => ?_)
  have F : fw G.1 (fun j => lv j ∨ j = i3) (iup ad i3 q_1) (iup (iup en i3 (.inl (G.2.1 0, 6, .inl (fun _ => 0)))) io (.inr (9, [.int 0, .null, .int 0, .ref q_1, .null, .null, .null, .int 0, .int 0]))) A H := F
  refine lv_aload_n X.ex X.co dX4_init_12 rfl (lv_at hl 0 rfl) ?_
  refine lv_bipush (v := 6) X.ex X.co dX4_init_13 (by decide) ?_
  refine f_newa (atype := .int) X hK F hS hfr i4 (fun z => z.elim h4 (Ne.symm n3)) 0 rfl rfl (fun _ => by intro z; cases z) m_618 (a0 := (6, .inl (fun _ => 0))) (fun _ => rfl) (by decide) (by decide) (by decide) (by show _ ≤ 3; omega) (by show _ ≤ 15; omega) dX4_init_15 (fun q_2 H F hS => ?_)
  have F : fw G.1 (fun j => (fun j => lv j ∨ j = i3) j ∨ j = i4) (iup (iup ad i3 q_1) i4 q_2) (iup (iup (iup en i3 (.inl (G.2.1 0, 6, .inl (fun _ => 0)))) io (.inr (9, [.int 0, .null, .int 0, .ref q_1, .null, .null, .null, .int 0, .int 0]))) i4 (.inl (G.2.1 0, 6, .inl (fun _ => 0)))) A H := F
  refine f_putF X hnm hK F hS (Or.inl (Or.inl (hio))) ((iup_n _ _ n1).trans ((iup_n _ _ n0).trans hao)) (ci := 9) (fs := [.int 0, .null, .int 0, .ref q_1, .null, .null, .null, .int 0, .int 0]) ((iup_n _ _ n1).trans (iup_s _ _ _)) okX4 rfl 4 (by decide) m_589 (fun _ h => h) rfl rfl (v := .ref q_2) rfl rfl rfl (Nat.le_of_ble_eq_true rfl) dX4_init_17 (fun H locs F hS => ?_)
  have F : fw G.1 (fun j => (fun j => lv j ∨ j = i3) j ∨ j = i4) (iup (iup ad i3 q_1) i4 q_2) (iup (iup (iup (iup en i3 (.inl (G.2.1 0, 6, .inl (fun _ => 0)))) io (.inr (9, [.int 0, .null, .int 0, .ref q_1, .null, .null, .null, .int 0, .int 0]))) i4 (.inl (G.2.1 0, 6, .inl (fun _ => 0)))) io (.inr (9, [.int 0, .null, .int 0, .ref q_1, .ref q_2, .null, .null, .int 0, .int 0]))) A H := F
  refine lv_aload_n X.ex X.co dX4_init_20 rfl (lv_at hl 0 rfl) ?_
  refine f_new X hK F hS hfr il (fun z => z.elim (fun z => z.elim hil (Ne.symm n4)) (Ne.symm n5)) (ci := 4) okAL rfl m_579 m_48 m_4 [.int 0, .null, .int 0] (by intro j hj; match j, hj with | 0, _ => rfl | 1, _ => rfl | 2, _ => rfl | n + 3, h => exact absurd h (by omega)) (by show _ ≤ 3; omega) (by show _ ≤ 15; omega) dX4_init_21 (fun q_3 H F hS => ?_)
  have F : fw G.1 (fun j => (fun j => (fun j => lv j ∨ j = i3) j ∨ j = i4) j ∨ j = il) (iup (iup (iup ad i3 q_1) i4 q_2) il q_3) (iup (iup (iup (iup (iup en i3 (.inl (G.2.1 0, 6, .inl (fun _ => 0)))) io (.inr (9, [.int 0, .null, .int 0, .ref q_1, .null, .null, .null, .int 0, .int 0]))) i4 (.inl (G.2.1 0, 6, .inl (fun _ => 0)))) io (.inr (9, [.int 0, .null, .int 0, .ref q_1, .ref q_2, .null, .null, .int 0, .int 0]))) il (.inr (4, [.int 0, .null, .int 0]))) A H := F
  refine lv_dup X.ex X.co dX4_init_24 rfl ?_
  refine q_vI X ce_Jx4a65c_init_da8c8 m_580 (c_Jx4a65c_init_da8c8 l G A hAg (fun j => (fun j => (fun j => lv j ∨ j = i3) j ∨ j = i4) j ∨ j = il) (iup (iup (iup ad i3 q_1) i4 q_2) il q_3) (iup (iup (iup (iup (iup en i3 (.inl (G.2.1 0, 6, .inl (fun _ => 0)))) io (.inr (9, [.int 0, .null, .int 0, .ref q_1, .null, .null, .null, .int 0, .int 0]))) i4 (.inl (G.2.1 0, 6, .inl (fun _ => 0)))) io (.inr (9, [.int 0, .null, .int 0, .ref q_1, .ref q_2, .null, .null, .int 0, .int 0]))) il (.inr (4, [.int 0, .null, .int 0]))) il (Or.inr rfl) q_3 (iup_s _ _ _) (iup_s _ _ _)) (g0.step hS hAg) F (by decide) rfl hl.1 rfl (Nat.le_of_ble_eq_true rfl) dX4_init_25 (by show _ ≤ 3; omega) (by show _ ≤ 15; omega) hS (fun _ h => h) (fun H locs F hz hk9 hS => ?_)
  rw [iup_iup] at F
  have F : fw G.1 (fun j => (fun j => (fun j => lv j ∨ j = i3) j ∨ j = i4) j ∨ j = il) (iup (iup (iup ad i3 q_1) i4 q_2) il q_3) (iup (iup (iup (iup (iup en i3 (.inl (G.2.1 0, 6, .inl (fun _ => 0)))) io (.inr (9, [.int 0, .null, .int 0, .ref q_1, .null, .null, .null, .int 0, .int 0]))) i4 (.inl (G.2.1 0, 6, .inl (fun _ => 0)))) io (.inr (9, [.int 0, .null, .int 0, .ref q_1, .ref q_2, .null, .null, .int 0, .int 0]))) il (LO 0 (G.2.2 0) 0)) A H := F
  refine f_putF X hnm hK F hS (Or.inl (Or.inl (Or.inl (hio)))) ((iup_n _ _ n2).trans ((iup_n _ _ n1).trans ((iup_n _ _ n0).trans hao))) (ci := 9) (fs := [.int 0, .null, .int 0, .ref q_1, .ref q_2, .null, .null, .int 0, .int 0]) ((iup_n _ _ n2).trans (iup_s _ _ _)) okX4 rfl 5 (by decide) m_590 (fun _ h => h) rfl rfl (v := .ref q_3) rfl rfl rfl (Nat.le_of_ble_eq_true rfl) dX4_init_28 (fun H locs F hS => ?_)
  have F : fw G.1 (fun j => (fun j => (fun j => lv j ∨ j = i3) j ∨ j = i4) j ∨ j = il) (iup (iup (iup ad i3 q_1) i4 q_2) il q_3) (iup (iup (iup (iup (iup (iup en i3 (.inl (G.2.1 0, 6, .inl (fun _ => 0)))) io (.inr (9, [.int 0, .null, .int 0, .ref q_1, .null, .null, .null, .int 0, .int 0]))) i4 (.inl (G.2.1 0, 6, .inl (fun _ => 0)))) io (.inr (9, [.int 0, .null, .int 0, .ref q_1, .ref q_2, .null, .null, .int 0, .int 0]))) il (LO 0 (G.2.2 0) 0)) io (.inr (9, [.int 0, .null, .int 0, .ref q_1, .ref q_2, .ref q_3, .null, .int 0, .int 0]))) A H := F
  refine lv_aload_n X.ex X.co dX4_init_31 rfl (lv_at hl 0 rfl) ?_
  refine lv_iload_n X.ex X.co dX4_init_32 rfl (lv_at hl 1 rfl) ?_
  refine f_putF X hnm hK F hS (Or.inl (Or.inl (Or.inl (hio)))) ((iup_n _ _ n2).trans ((iup_n _ _ n1).trans ((iup_n _ _ n0).trans hao))) (ci := 9) (fs := [.int 0, .null, .int 0, .ref q_1, .ref q_2, .ref q_3, .null, .int 0, .int 0]) (iup_s _ _ _) okX4 rfl 0 (by decide) m_581 (fun _ h => h) rfl rfl (v := .int x) rfl rfl rfl (Nat.le_of_ble_eq_true rfl) dX4_init_33 (fun H locs F hS => ?_)
  rw [iup_iup] at F
  have F : fw G.1 (fun j => (fun j => (fun j => lv j ∨ j = i3) j ∨ j = i4) j ∨ j = il) (iup (iup (iup ad i3 q_1) i4 q_2) il q_3) (iup (iup (iup (iup (iup (iup en i3 (.inl (G.2.1 0, 6, .inl (fun _ => 0)))) io (.inr (9, [.int 0, .null, .int 0, .ref q_1, .null, .null, .null, .int 0, .int 0]))) i4 (.inl (G.2.1 0, 6, .inl (fun _ => 0)))) io (.inr (9, [.int 0, .null, .int 0, .ref q_1, .ref q_2, .null, .null, .int 0, .int 0]))) il (LO 0 (G.2.2 0) 0)) io (.inr (9, [.int x, .null, .int 0, .ref q_1, .ref q_2, .ref q_3, .null, .int 0, .int 0]))) A H := F
  refine lv_aload_n X.ex X.co dX4_init_36 rfl (lv_at hl 0 rfl) ?_
  refine lv_aload_n X.ex X.co dX4_init_37 rfl (lv_at hl 2 rfl) ?_
  refine f_putF X hnm hK F hS (Or.inl (Or.inl (Or.inl (hio)))) ((iup_n _ _ n2).trans ((iup_n _ _ n1).trans ((iup_n _ _ n0).trans hao))) (ci := 9) (fs := [.int x, .null, .int 0, .ref q_1, .ref q_2, .ref q_3, .null, .int 0, .int 0]) (iup_s _ _ _) okX4 rfl 1 (by decide) m_584 (fun _ h => h) rfl rfl (v := .ref r1) rfl rfl rfl (Nat.le_of_ble_eq_true rfl) dX4_init_38 (fun H locs F hS => ?_)
  rw [iup_iup] at F
  have F : fw G.1 (fun j => (fun j => (fun j => lv j ∨ j = i3) j ∨ j = i4) j ∨ j = il) (iup (iup (iup ad i3 q_1) i4 q_2) il q_3) (iup (iup (iup (iup (iup (iup en i3 (.inl (G.2.1 0, 6, .inl (fun _ => 0)))) io (.inr (9, [.int 0, .null, .int 0, .ref q_1, .null, .null, .null, .int 0, .int 0]))) i4 (.inl (G.2.1 0, 6, .inl (fun _ => 0)))) io (.inr (9, [.int 0, .null, .int 0, .ref q_1, .ref q_2, .null, .null, .int 0, .int 0]))) il (LO 0 (G.2.2 0) 0)) io (.inr (9, [.int x, .ref r1, .int 0, .ref q_1, .ref q_2, .ref q_3, .null, .int 0, .int 0]))) A H := F
  refine lv_aload_n X.ex X.co dX4_init_41 rfl (lv_at hl 0 rfl) ?_
  refine lv_aload_n X.ex X.co dX4_init_42 rfl (lv_at hl 3 rfl) ?_
  refine f_put X hK F hS (Or.inl (Or.inl (Or.inl (hio)))) ((iup_n _ _ n2).trans ((iup_n _ _ n1).trans ((iup_n _ _ n0).trans hao))) (ci := 9) (fs := [.int x, .ref r1, .int 0, .ref q_1, .ref q_2, .ref q_3, .null, .int 0, .int 0]) (iup_s _ _ _) okX4 rfl 6 (by decide) m_592 (fun _ h => h) rfl (v := .ref r2) rfl rfl rfl (Nat.le_of_ble_eq_true rfl) dX4_init_43 (fun H locs F hS => ?_)
  rw [iup_iup] at F
  have F : fw G.1 (fun j => (fun j => (fun j => lv j ∨ j = i3) j ∨ j = i4) j ∨ j = il) (iup (iup (iup ad i3 q_1) i4 q_2) il q_3) (iup (iup (iup (iup (iup (iup en i3 (.inl (G.2.1 0, 6, .inl (fun _ => 0)))) io (.inr (9, [.int 0, .null, .int 0, .ref q_1, .null, .null, .null, .int 0, .int 0]))) i4 (.inl (G.2.1 0, 6, .inl (fun _ => 0)))) io (.inr (9, [.int 0, .null, .int 0, .ref q_1, .ref q_2, .null, .null, .int 0, .int 0]))) il (LO 0 (G.2.2 0) 0)) io (.inr (9, [.int x, .ref r1, .int 0, .ref q_1, .ref q_2, .ref q_3, .ref r2, .int 0, .int 0]))) A H := F
  refine lv_aload_n X.ex X.co dX4_init_46 rfl (lv_at hl 0 rfl) ?_
  refine lv_iload X.ex X.co dX4_init_47 (lv_at hl 4 rfl) ?_
  refine f_putF X hnm hK F hS (Or.inl (Or.inl (Or.inl (hio)))) ((iup_n _ _ n2).trans ((iup_n _ _ n1).trans ((iup_n _ _ n0).trans hao))) (ci := 9) (fs := [.int x, .ref r1, .int 0, .ref q_1, .ref q_2, .ref q_3, .ref r2, .int 0, .int 0]) (iup_s _ _ _) okX4 rfl 2 (by decide) m_587 (fun _ h => h) rfl rfl (v := .int z) rfl rfl rfl (Nat.le_of_ble_eq_true rfl) dX4_init_49 (fun H locs F hS => ?_)
  rw [iup_iup] at F
  have F : fw G.1 (fun j => (fun j => (fun j => lv j ∨ j = i3) j ∨ j = i4) j ∨ j = il) (iup (iup (iup ad i3 q_1) i4 q_2) il q_3) (iup (iup (iup (iup (iup (iup en i3 (.inl (G.2.1 0, 6, .inl (fun _ => 0)))) io (.inr (9, [.int 0, .null, .int 0, .ref q_1, .null, .null, .null, .int 0, .int 0]))) i4 (.inl (G.2.1 0, 6, .inl (fun _ => 0)))) io (.inr (9, [.int 0, .null, .int 0, .ref q_1, .ref q_2, .null, .null, .int 0, .int 0]))) il (LO 0 (G.2.2 0) 0)) io (.inr (9, [.int x, .ref r1, .int z, .ref q_1, .ref q_2, .ref q_3, .ref r2, .int 0, .int 0]))) A H := F
  exact c_v X hS rfl ⟨rfl, _, _, _, F⟩ (by omega) (by omega) dX4_init_52
set_option maxHeartbeats 2000000 in
theorem push6 {G : GT} {g : CG} {A : Nat → Prop} {ad : I2 → Nat} {σ : Sg} {L : Nat → List I2} {H : Heap} {q q2 q3 q4 q5 lx : Nat} {f a gr : Int32} (hI0 : MI0 σ) (hL : okL g σ L) (hLn : L (17 + nEx σ) = []) (hcs : cas σ (nEx σ) = 0) (hle : nLe σ ≤ 8) (F : fw G.1 (fun j => (fun j => (fun j => (fun j => (fun j => cLv g σ j ∨ j = (6, nEx σ)) j ∨ j = (11, nEx σ)) j ∨ j = (13, nEx σ)) j ∨ j = (14, nEx σ)) j ∨ j = (1, 17 + nEx σ)) (iup (iup (iup (iup (iup ad (6, nEx σ) q) (11, nEx σ) q2) (13, nEx σ) q3) (14, nEx σ) q4) (1, 17 + nEx σ) q5) (iup (iup (iup (iup (iup (iup (iup (iup (cEnL G g ad σ L) (6, nEx σ) (.inr (9, [.int 0, .null, .int 0, .null, .null, .null, .null, .int 0, .int 0]))) (11, nEx σ) (.inr (12, [.int f, .int a]))) (13, nEx σ) (.inl (G.2.1 0, 6, .inl (fun _ => 0)))) (6, nEx σ) (.inr (9, [.int 0, .null, .int 0, .ref q3, .null, .null, .null, .int 0, .int 0]))) (14, nEx σ) (.inl (G.2.1 0, 6, .inl (fun _ => 0)))) (6, nEx σ) (.inr (9, [.int 0, .null, .int 0, .ref q3, .ref q4, .null, .null, .int 0, .int 0]))) (1, 17 + nEx σ) (LO 0 (G.2.2 0) 0)) (6, nEx σ) (.inr (9, [.int (nI (nEx σ)), .ref (ad (5, lx)), .int gr, .ref q3, .ref q4, .ref q5, .ref q2, .int 0, .int 0]))) A H) : cwL G (gls g (17 + nEx σ) 0 0) A (iup (iup (iup (iup (iup ad (6, nEx σ) q) (11, nEx σ) q2) (13, nEx σ) q3) (14, nEx σ) q4) (1, 17 + nEx σ) q5) (sN (sV (sV (sV (sN σ 12 (nEx σ) lx) 13 (nEx σ) f) 14 (nEx σ) a) 15 (nEx σ) gr) 11 0 (nEx σ + 1)) L H := by
  exact fw.sub F (cwAll (g := (gls g (17 + nEx σ) 0 0)) (σ := (sN (sV (sV (sV (sN σ 12 (nEx σ) lx) 13 (nEx σ) f) 14 (nEx σ) a) 15 (nEx σ) gr) 11 0 (nEx σ + 1))) (⟨Or.inl (Or.inl (Or.inl (Or.inl (Or.inl rfl)))), rfl, eBe_w (ad := ad) (ad' := (iup (iup (iup (iup (iup ad (6, nEx σ) q) (11, nEx σ) q2) (13, nEx σ) q3) (14, nEx σ) q4) (1, 17 + nEx σ) q5)) (fun k hk => iup_n _ _ (ine (by omega))) rfl rfl⟩) (fun k hk => by
      by_cases hk9 : k = 17 + nEx σ
      · subst hk9
        refine ⟨Or.inr rfl, rfl, ?_⟩
        rw [iup_n _ _ (kne (by decide)), iup_s]
        show (LO (if 17 + nEx σ = 17 + nEx σ then 0 else g.2.1 (17 + nEx σ)) (if (if 17 + nEx σ = 17 + nEx σ then 0 else g.1 (17 + nEx σ)) = 0 then G.2.2 0 else _) (L (17 + nEx σ)).length : va_E) = _
        rw [if_pos rfl, if_pos rfl, if_pos rfl, hLn]
        rfl
      · have h1 : lsB σ k := by
          rcases hk with h2 | h2
          · exact Or.inl h2
          · exact Or.inr ⟨h2.1, by have h3 : k < 17 + (nEx σ + 1) := h2.2; omega⟩
        refine ⟨Or.inl (Or.inl (Or.inl (Or.inl (Or.inl h1)))), rfl, ?_⟩
        have hne : ¬ k = 17 + nEx σ := hk9
        rw [iup_n _ _ (kne (by decide)), iup_n _ _ (ine hne), iup_n _ _ (kne (by decide)), iup_n _ _ (kne (by decide)), iup_n _ _ (kne (by decide)), iup_n _ _ (kne (by decide)), iup_n _ _ (kne (by decide)), iup_n _ _ (kne (by decide))]
        show (LO (if k = 17 + nEx σ then 0 else g.2.1 k) (if (if k = 17 + nEx σ then 0 else g.1 k) = 0 then G.2.2 0 else _) (L k).length : va_E) = _
        rw [if_neg hk9, if_neg hk9]
        rfl) (fun k hk h0 => by
      by_cases hk9 : k = 17 + nEx σ
      · subst hk9
        have h2 : 0 < (if 17 + nEx σ = 17 + nEx σ then 0 else g.1 (17 + nEx σ)) := h0
        rw [if_pos rfl] at h2
        exact absurd h2 (by omega)
      · have h1 : lsB σ k := by
          rcases hk with h2 | h2
          · exact Or.inl h2
          · exact Or.inr ⟨h2.1, by have h3 : k < 17 + (nEx σ + 1) := h2.2; omega⟩
        have h2 : 0 < (if k = 17 + nEx σ then 0 else g.1 k) := h0
        rw [if_neg hk9] at h2
        refine ⟨Or.inl (Or.inl (Or.inl (Or.inl (Or.inl ⟨h1, h2⟩)))), rfl, ?_⟩
        rw [iup_n _ _ (kne (by decide)), iup_n _ _ (kne (by decide)), iup_n _ _ (kne (by decide)), iup_n _ _ (kne (by decide)), iup_n _ _ (kne (by decide)), iup_n _ _ (kne (by decide)), iup_n _ _ (kne (by decide)), iup_n _ _ (kne (by decide))]
        show (LA G (if k = 17 + nEx σ then 0 else g.1 k) (cont (L k) _) : va_E) = LA G (g.1 k) (cont (L k) ad)
        rw [if_neg hk9, cont_ad fun j hj => ((iup_n _ _ (notin1 hL h1 (a := 1) (b := 17 + nEx σ) (Or.inl (by decide)) j hj)).trans ((iup_n _ _ (notin1 hL h1 (a := 14) (b := nEx σ) (Or.inr (by decide)) j hj)).trans ((iup_n _ _ (notin1 hL h1 (a := 13) (b := nEx σ) (Or.inr (by decide)) j hj)).trans ((iup_n _ _ (notin1 hL h1 (a := 11) (b := nEx σ) (Or.inr (by decide)) j hj)).trans (iup_n _ _ (notin hL h1 (n := (6, nEx σ)) (show ¬ nEx σ < nEx σ by omega) j hj))))))]) (fun i h => ⟨Or.inl (Or.inl (Or.inl (Or.inl (Or.inl h)))), rfl, rfl⟩) (fun i h => ⟨Or.inl (Or.inl (Or.inl (Or.inl (Or.inl h)))), rfl, rfl⟩) (fun i h => ⟨Or.inl (Or.inl (Or.inl (Or.inl (Or.inl h)))), rfl, eLe_w (ad := ad) (ad' := (iup (iup (iup (iup (iup ad (6, nEx σ) q) (11, nEx σ) q2) (13, nEx σ) q3) (14, nEx σ) q4) (1, 17 + nEx σ) q5)) (σ := σ) (τ := (sN (sV (sV (sV (sN σ 12 (nEx σ) lx) 13 (nEx σ) f) 14 (nEx σ) a) 15 (nEx σ) gr) 11 0 (nEx σ + 1))) (i := i) rfl rfl (iup_n _ _ (ine (by have h9 : i < nLe σ := h; omega))) rfl⟩) (fun i h => by
      rcases Nat.lt_succ_iff_lt_or_eq.mp (show i < nEx σ + 1 from h) with h1 | h1
      · have hne : ¬ i = nEx σ := by omega
        exact ⟨Or.inl (Or.inl (Or.inl (Or.inl (Or.inl h1)))), rfl, by rw [iup_n _ _ (ine hne), iup_n _ _ (kne (by decide)), iup_n _ _ (ine hne), iup_n _ _ (kne (by decide)), iup_n _ _ (ine hne), iup_n _ _ (kne (by decide)), iup_n _ _ (kne (by decide)), iup_n _ _ (ine hne)]; exact eEx_w (ad := ad) (ad' := (iup (iup (iup (iup (iup ad (6, nEx σ) q) (11, nEx σ) q2) (13, nEx σ) q3) (14, nEx σ) q4) (1, 17 + nEx σ) q5)) (σ := σ) (τ := (sN (sV (sV (sV (sN σ 12 (nEx σ) lx) 13 (nEx σ) f) 14 (nEx σ) a) 15 (nEx σ) gr) 11 0 (nEx σ + 1))) (i := i) rfl rfl (congrArg (fun z => ad (5, z)) (sN_no σ lx hne)) (sV_no (sV (sV (sN σ 12 (nEx σ) lx) 13 (nEx σ) f) 14 (nEx σ) a) gr hne) ((iup_n _ _ (kne (by decide))).trans ((iup_n _ _ (kne (by decide))).trans ((iup_n _ _ (ine hne)).trans ((iup_n _ _ (kne (by decide))).trans ((iup_n _ _ (kne (by decide))).trans (rfl)))))) ((iup_n _ _ (kne (by decide))).trans ((iup_n _ _ (ine hne)).trans ((iup_n _ _ (kne (by decide))).trans ((iup_n _ _ (kne (by decide))).trans ((iup_n _ _ (kne (by decide))).trans (rfl)))))) (iup_n _ _ (ine (by omega))) ((iup_n _ _ (kne (by decide))).trans ((iup_n _ _ (kne (by decide))).trans ((iup_n _ _ (kne (by decide))).trans ((iup_n _ _ (ine hne)).trans ((iup_n _ _ (kne (by decide))).trans (rfl))))))⟩
      · subst h1
        exact ⟨Or.inl (Or.inl (Or.inl (Or.inl (Or.inr rfl)))), rfl, by rw [iup_s]; simp [cEnL, iup, les, cas, sN, sV, allS, show σ.1 16 (nEx σ) = 0 from hcs, show nI 0 = 0 from rfl]⟩) (fun i h => ⟨Or.inl (Or.inl (Or.inl (Or.inl (Or.inl h)))), rfl, eAn_w (g := g) (g' := (gls g (17 + nEx σ) 0 0)) (ad := ad) (ad' := (iup (iup (iup (iup (iup ad (6, nEx σ) q) (11, nEx σ) q2) (13, nEx σ) q3) (14, nEx σ) q4) (1, 17 + nEx σ) q5)) (σ := σ) (τ := (sN (sV (sV (sV (sN σ 12 (nEx σ) lx) 13 (nEx σ) f) 14 (nEx σ) a) 15 (nEx σ) gr) 11 0 (nEx σ + 1))) (i := i) rfl ((iup_n _ _ (kne (by decide))).trans ((iup_n _ _ (kne (by decide))).trans ((iup_n _ _ (kne (by decide))).trans ((iup_n _ _ (kne (by decide))).trans (iup_n _ _ (ine (show exe σ i ≠ nEx σ by have := hI0.an (i := i) h; omega))))))) rfl rfl rfl rfl rfl rfl rfl⟩) (fun i h => ⟨Or.inl (Or.inl (Or.inl (Or.inl (Or.inl h)))), rfl, rfl⟩) (fun i h => ⟨Or.inl (Or.inl (Or.inl (Or.inl (Or.inl h)))), rfl, eCe_w (ad := ad) (ad' := (iup (iup (iup (iup (iup ad (6, nEx σ) q) (11, nEx σ) q2) (13, nEx σ) q3) (14, nEx σ) q4) (1, 17 + nEx σ) q5)) (σ := σ) (τ := (sN (sV (sV (sV (sN σ 12 (nEx σ) lx) 13 (nEx σ) f) 14 (nEx σ) a) 15 (nEx σ) gr) 11 0 (nEx σ + 1))) (i := i) rfl rfl rfl rfl⟩) (fun i h => ⟨Or.inl (Or.inl (Or.inl (Or.inl (Or.inl h)))), rfl, rfl⟩) (fun i h => by
      rcases Nat.lt_succ_iff_lt_or_eq.mp (show i < nEx σ + 1 from h) with h1 | h1
      · have hne : ¬ i = nEx σ := by omega
        exact ⟨Or.inl (Or.inl (Or.inl (Or.inl (Or.inl h1)))), rfl, by rw [iup_n _ _ (kne (by decide)), iup_n _ _ (kne (by decide)), iup_n _ _ (kne (by decide)), iup_n _ _ (kne (by decide)), iup_n _ _ (kne (by decide)), iup_n _ _ (kne (by decide)), iup_n _ _ (ine hne), iup_n _ _ (kne (by decide))]; simp [cEnL, sN, sV, hne]⟩
      · subst h1
        exact ⟨Or.inl (Or.inl (Or.inl (Or.inr rfl))), rfl, by rw [iup_n _ _ (kne (by decide)), iup_n _ _ (kne (by decide)), iup_n _ _ (kne (by decide)), iup_n _ _ (kne (by decide)), iup_n _ _ (kne (by decide)), iup_n _ _ (kne (by decide)), iup_s]; simp [cEnL, sN, sV]⟩) (fun i h => ⟨Or.inl (Or.inl (Or.inl (Or.inl (Or.inl h)))), rfl, rfl⟩) (fun i h => by
      rcases Nat.lt_succ_iff_lt_or_eq.mp (show i < nEx σ + 1 from h) with h1 | h1
      · have hne : ¬ i = nEx σ := by omega
        exact ⟨Or.inl (Or.inl (Or.inl (Or.inl (Or.inl h1)))), rfl, by rw [iup_n _ _ (kne (by decide)), iup_n _ _ (kne (by decide)), iup_n _ _ (kne (by decide)), iup_n _ _ (kne (by decide)), iup_n _ _ (kne (by decide)), iup_n _ _ (ine hne), iup_n _ _ (kne (by decide)), iup_n _ _ (kne (by decide))]; rfl⟩
      · subst h1
        exact ⟨Or.inl (Or.inl (Or.inr rfl)), rfl, by rw [iup_n _ _ (kne (by decide)), iup_n _ _ (kne (by decide)), iup_n _ _ (kne (by decide)), iup_n _ _ (kne (by decide)), iup_n _ _ (kne (by decide)), iup_s]; exact congrArg (fun f9 => (.inl (G.2.1 0, 6, .inl f9) : va_E)) (funext (fun z => if_neg (fun q9 : z < cas σ (nEx σ) => by omega)))⟩) (fun i h => by
      rcases Nat.lt_succ_iff_lt_or_eq.mp (show i < nEx σ + 1 from h) with h1 | h1
      · have hne : ¬ i = nEx σ := by omega
        exact ⟨Or.inl (Or.inl (Or.inl (Or.inl (Or.inl h1)))), rfl, by rw [iup_n _ _ (kne (by decide)), iup_n _ _ (kne (by decide)), iup_n _ _ (kne (by decide)), iup_n _ _ (ine hne), iup_n _ _ (kne (by decide)), iup_n _ _ (kne (by decide)), iup_n _ _ (kne (by decide)), iup_n _ _ (kne (by decide))]; rfl⟩
      · subst h1
        exact ⟨Or.inl (Or.inr rfl), rfl, by rw [iup_n _ _ (kne (by decide)), iup_n _ _ (kne (by decide)), iup_n _ _ (kne (by decide)), iup_s]; exact congrArg (fun f9 => (.inl (G.2.1 0, 6, .inl f9) : va_E)) (funext (fun z => if_neg (fun q9 : z < cas σ (nEx σ) => by omega)))⟩) ⟨Or.inl (Or.inl (Or.inl (Or.inl (Or.inl rfl)))), rfl, rfl⟩ ⟨Or.inl (Or.inl (Or.inl (Or.inl (Or.inl rfl)))), rfl, rfl⟩)
set_option maxHeartbeats 2000000 in
theorem upA {G : GT} {g : CG} {A : Nat → Prop} {ad : I2 → Nat} {σ : Sg} {L : Nat → List I2} {H : Heap} {ai : Nat} {gr p w d fl : Int32} (F : fw G.1 (cLv g σ) ad (iup (cEnL G g ad σ L) (7, ai) (.inr (5, [.int (nI ai), .ref (ad (4, stu σ ai)), .ref (ad (6, exe σ ai)), .ref (ad (12, ai)), .int (σ.2 24 ai), .int gr, .int p, .int w, .int d, .int fl]))) A H) : cwL G (gAn g ai gr w fl) A ad (sV (sV σ 25 ai p) 26 ai d) L H := by
  exact fw.sub F (cwAll (g := (gAn g ai gr w fl)) (σ := (sV (sV σ 25 ai p) 26 ai d)) ⟨rfl, rfl, rfl⟩ (fun i h => ⟨h, rfl, rfl⟩) (fun k h h0 => ⟨⟨h, h0⟩, rfl, rfl⟩) (fun i h => ⟨h, rfl, rfl⟩) (fun i h => ⟨h, rfl, rfl⟩) (fun i h => ⟨h, rfl, rfl⟩) (fun i h => ⟨h, rfl, eEx_w (ad := ad) (ad' := ad) (σ := σ) (τ := (sV (sV σ 25 ai p) 26 ai d)) (i := i) rfl rfl rfl rfl rfl rfl rfl rfl⟩) (fun i h => by
      by_cases hne : i = ai
      · subst hne
        exact ⟨h, rfl, by rw [iup_s]; simp [cEnL, stu, exe, sN, sV, gAn]⟩
      · exact ⟨h, rfl, by rw [iup_n _ _ (ine hne)]; exact eAn_w (g := g) (g' := (gAn g ai gr w fl)) (ad := ad) (ad' := ad) (σ := σ) (τ := (sV (sV σ 25 ai p) 26 ai d)) (i := i) rfl rfl rfl rfl (gAn_no hne) (sV_no σ p hne) (gAn_no hne) (sV_no (sV σ 25 ai p) d hne) (gAn_no hne)⟩) (fun i h => ⟨h, rfl, rfl⟩) (fun i h => ⟨h, rfl, rfl⟩) (fun i h => ⟨h, rfl, rfl⟩) (fun i h => ⟨h, rfl, rfl⟩) (fun i h => ⟨h, rfl, rfl⟩) (fun i h => ⟨h, rfl, rfl⟩) (fun i h => ⟨h, rfl, rfl⟩) (⟨rfl, rfl, by show (SBO _ _ _ : va_E) = SBO _ _ _; rw [show (gAn g ai gr w fl).2.2.1 3 0 = g.2.2.1 3 0 from gAn_3 (by decide) (by decide) (by decide)]; rfl⟩) ⟨rfl, rfl, rfl⟩)
set_option maxHeartbeats 2000000 in
theorem upD {G : GT} {g : CG} {A : Nat → Prop} {ad : I2 → Nat} {σ : Sg} {L : Nat → List I2} {H : Heap} {d : Int32} (F : fw G.1 (cLv g σ) ad (iup (cEnL G g ad σ L) (0, 0) (eBe ad d)) A H) : cwL G g A ad (sV σ 1 0 d) L H := by
  exact fw.sub F (cwAll (g := g) (σ := (sV σ 1 0 d)) (⟨rfl, rfl, by rw [iup_s]; rfl⟩) (fun i h => ⟨h, rfl, rfl⟩) (fun k h h0 => ⟨⟨h, h0⟩, rfl, rfl⟩) (fun i h => ⟨h, rfl, rfl⟩) (fun i h => ⟨h, rfl, rfl⟩) (fun i h => ⟨h, rfl, rfl⟩) (fun i h => ⟨h, rfl, eEx_w (ad := ad) (ad' := ad) (σ := σ) (τ := (sV σ 1 0 d)) (i := i) rfl rfl rfl rfl rfl rfl rfl rfl⟩) (fun i h => ⟨h, rfl, rfl⟩) (fun i h => ⟨h, rfl, rfl⟩) (fun i h => ⟨h, rfl, rfl⟩) (fun i h => ⟨h, rfl, rfl⟩) (fun i h => ⟨h, rfl, rfl⟩) (fun i h => ⟨h, rfl, rfl⟩) (fun i h => ⟨h, rfl, rfl⟩) (fun i h => ⟨h, rfl, rfl⟩) ⟨rfl, rfl, rfl⟩ ⟨rfl, rfl, rfl⟩)
set_option maxHeartbeats 2000000 in
theorem upM {G : GT} {g : CG} {A : Nat → Prop} {ad : I2 → Nat} {σ : Sg} {L : Nat → List I2} {H : Heap} {lx : Nat} {v : Int32} (F : fw G.1 (cLv g σ) ad (iup (cEnL G g ad σ L) (5, lx) (.inr (10, [.int (σ.2 8 lx), .int (σ.2 9 lx), .ref (ad (1, 9 + lx)), .int v]))) A H) : cwL G g A ad (sV σ 10 lx v) L H := by
  exact fw.sub F (cwAll (g := g) (σ := (sV σ 10 lx v)) ⟨rfl, rfl, rfl⟩ (fun i h => ⟨h, rfl, rfl⟩) (fun k h h0 => ⟨⟨h, h0⟩, rfl, rfl⟩) (fun i h => ⟨h, rfl, rfl⟩) (fun i h => ⟨h, rfl, rfl⟩) (fun i h => by
      by_cases hne : i = lx
      · subst hne
        exact ⟨h, rfl, by rw [iup_s]; simp [cEnL, sV]⟩
      · exact ⟨h, rfl, by rw [iup_n _ _ (ine hne)]; exact eLe_w (ad := ad) (ad' := ad) (σ := σ) (τ := (sV σ 10 lx v)) (i := i) rfl rfl rfl (sV_no σ v hne)⟩) (fun i h => ⟨h, rfl, eEx_w (ad := ad) (ad' := ad) (σ := σ) (τ := (sV σ 10 lx v)) (i := i) rfl rfl rfl rfl rfl rfl rfl rfl⟩) (fun i h => ⟨h, rfl, rfl⟩) (fun i h => ⟨h, rfl, rfl⟩) (fun i h => ⟨h, rfl, rfl⟩) (fun i h => ⟨h, rfl, rfl⟩) (fun i h => ⟨h, rfl, rfl⟩) (fun i h => ⟨h, rfl, rfl⟩) (fun i h => ⟨h, rfl, rfl⟩) (fun i h => ⟨h, rfl, rfl⟩) ⟨rfl, rfl, rfl⟩ ⟨rfl, rfl, rfl⟩)
set_option maxHeartbeats 2000000 in
theorem upS {G : GT} {g : CG} {A : Nat → Prop} {ad : I2 → Nat} {σ : Sg} {L : Nat → List I2} {H : Heap} {cx : Nat} (F : fw G.1 (cLv g σ) ad (iup (cEnL G g ad σ L) (9, cx) (.inr (6, [.int (nI cx), .ref (ad (4, hol σ cx)), .ref (ad (8, cou σ cx)), .ref (ad (10, cx)), .int 0]))) A H) : cwL G g A ad (sV σ 41 cx 1) L H := by
  exact fw.sub F (cwAll (g := g) (σ := (sV σ 41 cx 1)) ⟨rfl, rfl, rfl⟩ (fun i h => ⟨h, rfl, rfl⟩) (fun k h h0 => ⟨⟨h, h0⟩, rfl, rfl⟩) (fun i h => ⟨h, rfl, rfl⟩) (fun i h => ⟨h, rfl, rfl⟩) (fun i h => ⟨h, rfl, rfl⟩) (fun i h => ⟨h, rfl, eEx_w (ad := ad) (ad' := ad) (σ := σ) (τ := (sV σ 41 cx 1)) (i := i) rfl rfl rfl rfl rfl rfl rfl rfl⟩) (fun i h => ⟨h, rfl, rfl⟩) (fun i h => ⟨h, rfl, rfl⟩) (fun i h => by
      by_cases hne : i = cx
      · subst hne
        exact ⟨h, rfl, by rw [iup_s]; simp [cEnL, hol, cou, sV, bI]⟩
      · exact ⟨h, rfl, by rw [iup_n _ _ (ine hne)]; exact eCe_w (ad := ad) (ad' := ad) (σ := σ) (τ := (sV σ 41 cx 1)) (i := i) rfl rfl rfl (sV_no σ 1 hne)⟩) (fun i h => ⟨h, rfl, rfl⟩) (fun i h => ⟨h, rfl, rfl⟩) (fun i h => ⟨h, rfl, rfl⟩) (fun i h => ⟨h, rfl, rfl⟩) (fun i h => ⟨h, rfl, rfl⟩) ⟨rfl, rfl, rfl⟩ ⟨rfl, rfl, rfl⟩)
