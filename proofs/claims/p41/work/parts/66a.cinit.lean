theorem ce_X0_init : ceI yX0_init cX0_init 6 5 := ⟨m_709, rfl, m_30, m_710, ⟨by decide, by decide, by decide +kernel⟩, by decide⟩
theorem ce_X1_init : ceI yX1_init cX1_init 5 4 := ⟨m_1176, rfl, m_36, m_1177, ⟨by decide, by decide, by decide +kernel⟩, by decide⟩
theorem ce_X2_init : ceI yX2_init cX2_init 3 2 := ⟨m_365, rfl, m_15, m_366, ⟨by decide, by decide, by decide +kernel⟩, by decide⟩
theorem ce_X3_init : ceI yX3_init cX3_init 3 2 := ⟨m_1144, rfl, m_35, m_1145, ⟨by decide, by decide, by decide +kernel⟩, by decide⟩
theorem ce_X4_init : ceI yX4_init cX4_init 5 4 := ⟨m_576, rfl, m_26, m_577, ⟨by decide, by decide, by decide +kernel⟩, by decide⟩
theorem ce_X5_init : ceI yX5_init cX5_init 3 2 := ⟨m_520, rfl, m_25, m_521, ⟨by decide, by decide, by decide +kernel⟩, by decide⟩
theorem ce_X6_init : ceI yX6_init cX6_init 4 3 := ⟨m_213, rfl, m_28, m_214, ⟨by decide, by decide, by decide +kernel⟩, by decide⟩
theorem ce_X7_init : ceI yX7_init cX7_init 3 2 := ⟨m_563, rfl, m_27, m_564, ⟨by decide, by decide, by decide +kernel⟩, by decide⟩
theorem ce_X8_init : ceI yX8_init cX8_init 3 2 := ⟨m_489, rfl, m_22, m_490, ⟨by decide, by decide, by decide +kernel⟩, by decide⟩
set_option maxHeartbeats 4000000 in
set_option maxRecDepth 100000 in
theorem c_X2_init (l : Launch) (G : GT) (A : Nat → Prop) (hAg : ∀ q, A q → gA G q) (lv : I2 → Prop) (ad : I2 → Nat) (en : I2 → va_E) (io : I2) (hio : lv io) (a : Nat) (hao : ad io = a) (heo : en io = .inr (7, [.int 0, .int 0])) (x y : Int32) : cM l yX2_init cX2_init 3 ((Option.none : Option FieldType)) 0 0 0 G [.ref a, .int x, .int y] (fw G.1 lv ad en A) (eB none (fw G.1 lv ad (iup en io (.inr (7, [.int x, .int y]))) A)) A := by
  refine mk_m (by decide) (Nat.le_of_ble_eq_true rfl) ?_
  intro p e s m args below meth c X ls hl g0 F hnm
  have hK := g0.1
  have hS : va_S A s.heap s.heap [] := va_S.rf
  have hl : lv_has ls 3 [(0, .ref a), (1, .int x), (2, .int y)] := hl
  show W p l e (RM 0 0 0) s m args below meth c s.heap [] 0 0 (MQ below (cQ (eB none (fw G.1 lv ad (iup en io (.inr (7, [.int x, .int y]))) A)) A) args s 0 0 A) (F0 m 0 ls [])
  refine lv_aload_n X.ex X.co dX2_init_0 rfl (lv_at hl 0 rfl) ?_
  refine f_obj X hl.1 m_367 dX2_init_1 (Nat.le_of_ble_eq_true rfl) (Nat.le_of_ble_eq_true rfl) ?_
  refine lv_aload_n X.ex X.co dX2_init_4 rfl (lv_at hl 0 rfl) ?_
  refine lv_iload_n X.ex X.co dX2_init_5 rfl (lv_at hl 1 rfl) ?_
  refine f_putF X hnm hK F hS hio hao (ci := 7) (fs := [.int 0, .int 0]) heo okX2 rfl 0 (by decide) m_368 (fun _ h => h) rfl rfl (v := .int x) rfl rfl rfl (Nat.le_of_ble_eq_true rfl) dX2_init_6 (fun H locs F hS => ?_)
  have F : fw G.1 lv ad (iup en io (.inr (7, [.int x, .int 0]))) A H := F
  refine lv_aload_n X.ex X.co dX2_init_9 rfl (lv_at hl 0 rfl) ?_
  refine lv_iload_n X.ex X.co dX2_init_10 rfl (lv_at hl 2 rfl) ?_
  refine f_putF X hnm hK F hS hio hao (ci := 7) (fs := [.int x, .int 0]) (iup_s _ _ _) okX2 rfl 1 (by decide) m_370 (fun _ h => h) rfl rfl (v := .int y) rfl rfl rfl (Nat.le_of_ble_eq_true rfl) dX2_init_11 (fun H locs F hS => ?_)
  rw [iup_iup] at F
  have F : fw G.1 lv ad (iup en io (.inr (7, [.int x, .int y]))) A H := F
  exact c_v X hS rfl ⟨rfl, F⟩ (by omega) (by omega) dX2_init_14
set_option maxHeartbeats 4000000 in
set_option maxRecDepth 100000 in
theorem c_X3_init (l : Launch) (G : GT) (A : Nat → Prop) (hAg : ∀ q, A q → gA G q) (lv : I2 → Prop) (ad : I2 → Nat) (en : I2 → va_E) (io : I2) (hio : lv io) (a : Nat) (hao : ad io = a) (heo : en io = .inr (8, [.int 0, .int 0])) (x y : Int32) : cM l yX3_init cX3_init 3 ((Option.none : Option FieldType)) 0 0 0 G [.ref a, .int x, .int y] (fw G.1 lv ad en A) (eB none (fw G.1 lv ad (iup en io (.inr (8, [.int x, .int y]))) A)) A := by
  refine mk_m (by decide) (Nat.le_of_ble_eq_true rfl) ?_
  intro p e s m args below meth c X ls hl g0 F hnm
  have hK := g0.1
  have hS : va_S A s.heap s.heap [] := va_S.rf
  have hl : lv_has ls 3 [(0, .ref a), (1, .int x), (2, .int y)] := hl
  show W p l e (RM 0 0 0) s m args below meth c s.heap [] 0 0 (MQ below (cQ (eB none (fw G.1 lv ad (iup en io (.inr (8, [.int x, .int y]))) A)) A) args s 0 0 A) (F0 m 0 ls [])
  refine lv_aload_n X.ex X.co dX3_init_0 rfl (lv_at hl 0 rfl) ?_
  refine f_obj X hl.1 m_1146 dX3_init_1 (Nat.le_of_ble_eq_true rfl) (Nat.le_of_ble_eq_true rfl) ?_
  refine lv_aload_n X.ex X.co dX3_init_4 rfl (lv_at hl 0 rfl) ?_
  refine lv_iload_n X.ex X.co dX3_init_5 rfl (lv_at hl 1 rfl) ?_
  refine f_putF X hnm hK F hS hio hao (ci := 8) (fs := [.int 0, .int 0]) heo okX3 rfl 0 (by decide) m_1147 (fun _ h => h) rfl rfl (v := .int x) rfl rfl rfl (Nat.le_of_ble_eq_true rfl) dX3_init_6 (fun H locs F hS => ?_)
  have F : fw G.1 lv ad (iup en io (.inr (8, [.int x, .int 0]))) A H := F
  refine lv_aload_n X.ex X.co dX3_init_9 rfl (lv_at hl 0 rfl) ?_
  refine lv_iload_n X.ex X.co dX3_init_10 rfl (lv_at hl 2 rfl) ?_
  refine f_putF X hnm hK F hS hio hao (ci := 8) (fs := [.int x, .int 0]) (iup_s _ _ _) okX3 rfl 1 (by decide) m_1149 (fun _ h => h) rfl rfl (v := .int y) rfl rfl rfl (Nat.le_of_ble_eq_true rfl) dX3_init_11 (fun H locs F hS => ?_)
  rw [iup_iup] at F
  have F : fw G.1 lv ad (iup en io (.inr (8, [.int x, .int y]))) A H := F
  exact c_v X hS rfl ⟨rfl, F⟩ (by omega) (by omega) dX3_init_14
set_option maxHeartbeats 4000000 in
set_option maxRecDepth 100000 in
theorem c_X6_init (l : Launch) (G : GT) (A : Nat → Prop) (hAg : ∀ q, A q → gA G q) (lv : I2 → Prop) (ad : I2 → Nat) (en : I2 → va_E) (io : I2) (hio : lv io) (a : Nat) (hao : ad io = a) (heo : en io = .inr (11, [.int 0, .int 0, .int 0])) (x y z : Int32) : cM l yX6_init cX6_init 4 ((Option.none : Option FieldType)) 0 0 0 G [.ref a, .int x, .int y, .int z] (fw G.1 lv ad en A) (eB none (fw G.1 lv ad (iup en io (.inr (11, [.int x, .int y, .int z]))) A)) A := by
  refine mk_m (by decide) (Nat.le_of_ble_eq_true rfl) ?_
  intro p e s m args below meth c X ls hl g0 F hnm
  have hK := g0.1
  have hS : va_S A s.heap s.heap [] := va_S.rf
  have hl : lv_has ls 4 [(0, .ref a), (1, .int x), (2, .int y), (3, .int z)] := hl
  show W p l e (RM 0 0 0) s m args below meth c s.heap [] 0 0 (MQ below (cQ (eB none (fw G.1 lv ad (iup en io (.inr (11, [.int x, .int y, .int z]))) A)) A) args s 0 0 A) (F0 m 0 ls [])
  refine lv_aload_n X.ex X.co dX6_init_0 rfl (lv_at hl 0 rfl) ?_
  refine f_obj X hl.1 m_215 dX6_init_1 (Nat.le_of_ble_eq_true rfl) (Nat.le_of_ble_eq_true rfl) ?_
  refine lv_aload_n X.ex X.co dX6_init_4 rfl (lv_at hl 0 rfl) ?_
  refine lv_iload_n X.ex X.co dX6_init_5 rfl (lv_at hl 1 rfl) ?_
  refine f_putF X hnm hK F hS hio hao (ci := 11) (fs := [.int 0, .int 0, .int 0]) heo okX6 rfl 0 (by decide) m_216 (fun _ h => h) rfl rfl (v := .int x) rfl rfl rfl (Nat.le_of_ble_eq_true rfl) dX6_init_6 (fun H locs F hS => ?_)
  have F : fw G.1 lv ad (iup en io (.inr (11, [.int x, .int 0, .int 0]))) A H := F
  refine lv_aload_n X.ex X.co dX6_init_9 rfl (lv_at hl 0 rfl) ?_
  refine lv_iload_n X.ex X.co dX6_init_10 rfl (lv_at hl 2 rfl) ?_
  refine f_putF X hnm hK F hS hio hao (ci := 11) (fs := [.int x, .int 0, .int 0]) (iup_s _ _ _) okX6 rfl 1 (by decide) m_219 (fun _ h => h) rfl rfl (v := .int y) rfl rfl rfl (Nat.le_of_ble_eq_true rfl) dX6_init_11 (fun H locs F hS => ?_)
  rw [iup_iup] at F
  have F : fw G.1 lv ad (iup en io (.inr (11, [.int x, .int y, .int 0]))) A H := F
  refine lv_aload_n X.ex X.co dX6_init_14 rfl (lv_at hl 0 rfl) ?_
  refine lv_iload_n X.ex X.co dX6_init_15 rfl (lv_at hl 3 rfl) ?_
  refine f_putF X hnm hK F hS hio hao (ci := 11) (fs := [.int x, .int y, .int 0]) (iup_s _ _ _) okX6 rfl 2 (by decide) m_221 (fun _ h => h) rfl rfl (v := .int z) rfl rfl rfl (Nat.le_of_ble_eq_true rfl) dX6_init_16 (fun H locs F hS => ?_)
  rw [iup_iup] at F
  have F : fw G.1 lv ad (iup en io (.inr (11, [.int x, .int y, .int z]))) A H := F
  exact c_v X hS rfl ⟨rfl, F⟩ (by omega) (by omega) dX6_init_19
set_option maxHeartbeats 4000000 in
set_option maxRecDepth 100000 in
theorem c_X7_init (l : Launch) (G : GT) (A : Nat → Prop) (hAg : ∀ q, A q → gA G q) (lv : I2 → Prop) (ad : I2 → Nat) (en : I2 → va_E) (io : I2) (hio : lv io) (a : Nat) (hao : ad io = a) (heo : en io = .inr (12, [.int 0, .int 0])) (x y : Int32) : cM l yX7_init cX7_init 3 ((Option.none : Option FieldType)) 0 0 0 G [.ref a, .int x, .int y] (fw G.1 lv ad en A) (eB none (fw G.1 lv ad (iup en io (.inr (12, [.int x, .int y]))) A)) A := by
  refine mk_m (by decide) (Nat.le_of_ble_eq_true rfl) ?_
  intro p e s m args below meth c X ls hl g0 F hnm
  have hK := g0.1
  have hS : va_S A s.heap s.heap [] := va_S.rf
  have hl : lv_has ls 3 [(0, .ref a), (1, .int x), (2, .int y)] := hl
  show W p l e (RM 0 0 0) s m args below meth c s.heap [] 0 0 (MQ below (cQ (eB none (fw G.1 lv ad (iup en io (.inr (12, [.int x, .int y]))) A)) A) args s 0 0 A) (F0 m 0 ls [])
  refine lv_aload_n X.ex X.co dX7_init_0 rfl (lv_at hl 0 rfl) ?_
  refine f_obj X hl.1 m_565 dX7_init_1 (Nat.le_of_ble_eq_true rfl) (Nat.le_of_ble_eq_true rfl) ?_
  refine lv_aload_n X.ex X.co dX7_init_4 rfl (lv_at hl 0 rfl) ?_
  refine lv_iload_n X.ex X.co dX7_init_5 rfl (lv_at hl 1 rfl) ?_
  refine f_putF X hnm hK F hS hio hao (ci := 12) (fs := [.int 0, .int 0]) heo okX7 rfl 0 (by decide) m_566 (fun _ h => h) rfl rfl (v := .int x) rfl rfl rfl (Nat.le_of_ble_eq_true rfl) dX7_init_6 (fun H locs F hS => ?_)
  have F : fw G.1 lv ad (iup en io (.inr (12, [.int x, .int 0]))) A H := F
  refine lv_aload_n X.ex X.co dX7_init_9 rfl (lv_at hl 0 rfl) ?_
  refine lv_iload_n X.ex X.co dX7_init_10 rfl (lv_at hl 2 rfl) ?_
  refine f_putF X hnm hK F hS hio hao (ci := 12) (fs := [.int x, .int 0]) (iup_s _ _ _) okX7 rfl 1 (by decide) m_568 (fun _ h => h) rfl rfl (v := .int y) rfl rfl rfl (Nat.le_of_ble_eq_true rfl) dX7_init_11 (fun H locs F hS => ?_)
  rw [iup_iup] at F
  have F : fw G.1 lv ad (iup en io (.inr (12, [.int x, .int y]))) A H := F
  exact c_v X hS rfl ⟨rfl, F⟩ (by omega) (by omega) dX7_init_14
set_option maxHeartbeats 4000000 in
set_option maxRecDepth 100000 in
theorem c_X8_init (l : Launch) (G : GT) (A : Nat → Prop) (hAg : ∀ q, A q → gA G q) (lv : I2 → Prop) (ad : I2 → Nat) (en : I2 → va_E) (io : I2) (hio : lv io) (a : Nat) (hao : ad io = a) (heo : en io = .inr (13, [.int 0, .null])) (x : Int32) (r : Nat) : cM l yX8_init cX8_init 3 ((Option.none : Option FieldType)) 0 0 0 G [.ref a, .int x, .ref r] (fw G.1 lv ad en A) (eB none (fw G.1 lv ad (iup en io (.inr (13, [.int x, .ref r]))) A)) A := by
  refine mk_m (by decide) (Nat.le_of_ble_eq_true rfl) ?_
  intro p e s m args below meth c X ls hl g0 F hnm
  have hK := g0.1
  have hS : va_S A s.heap s.heap [] := va_S.rf
  have hl : lv_has ls 3 [(0, .ref a), (1, .int x), (2, .ref r)] := hl
  show W p l e (RM 0 0 0) s m args below meth c s.heap [] 0 0 (MQ below (cQ (eB none (fw G.1 lv ad (iup en io (.inr (13, [.int x, .ref r]))) A)) A) args s 0 0 A) (F0 m 0 ls [])
  refine lv_aload_n X.ex X.co dX8_init_0 rfl (lv_at hl 0 rfl) ?_
  refine f_obj X hl.1 m_491 dX8_init_1 (Nat.le_of_ble_eq_true rfl) (Nat.le_of_ble_eq_true rfl) ?_
  refine lv_aload_n X.ex X.co dX8_init_4 rfl (lv_at hl 0 rfl) ?_
  refine lv_iload_n X.ex X.co dX8_init_5 rfl (lv_at hl 1 rfl) ?_
  refine f_putF X hnm hK F hS hio hao (ci := 13) (fs := [.int 0, .null]) heo okX8 rfl 0 (by decide) m_492 (fun _ h => h) rfl rfl (v := .int x) rfl rfl rfl (Nat.le_of_ble_eq_true rfl) dX8_init_6 (fun H locs F hS => ?_)
  have F : fw G.1 lv ad (iup en io (.inr (13, [.int x, .null]))) A H := F
  refine lv_aload_n X.ex X.co dX8_init_9 rfl (lv_at hl 0 rfl) ?_
  refine lv_aload_n X.ex X.co dX8_init_10 rfl (lv_at hl 2 rfl) ?_
  refine f_putF X hnm hK F hS hio hao (ci := 13) (fs := [.int x, .null]) (iup_s _ _ _) okX8 rfl 1 (by decide) m_494 (fun _ h => h) rfl rfl (v := .ref r) rfl rfl rfl (Nat.le_of_ble_eq_true rfl) dX8_init_11 (fun H locs F hS => ?_)
  rw [iup_iup] at F
  have F : fw G.1 lv ad (iup en io (.inr (13, [.int x, .ref r]))) A H := F
  exact c_v X hS rfl ⟨rfl, F⟩ (by omega) (by omega) dX8_init_14
set_option maxHeartbeats 4000000 in
set_option maxRecDepth 100000 in
theorem c_X1_init (l : Launch) (G : GT) (A : Nat → Prop) (hAg : ∀ q, A q → gA G q) (lv : I2 → Prop) (ad : I2 → Nat) (en : I2 → va_E) (io : I2) (hio : lv io) (a : Nat) (hao : ad io = a) (heo : en io = .inr (6, [.int 0, .null, .null, .null, .int 0])) (x : Int32) (r1 r2 r3 : Nat) : cM l yX1_init cX1_init 5 ((Option.none : Option FieldType)) 0 0 0 G [.ref a, .int x, .ref r1, .ref r2, .ref r3] (fw G.1 lv ad en A) (eB none (fw G.1 lv ad (iup en io (.inr (6, [.int x, .ref r1, .ref r2, .ref r3, .int 1]))) A)) A := by
  refine mk_m (by decide) (Nat.le_of_ble_eq_true rfl) ?_
  intro p e s m args below meth c X ls hl g0 F hnm
  have hK := g0.1
  have hS : va_S A s.heap s.heap [] := va_S.rf
  have hl : lv_has ls 5 [(0, .ref a), (1, .int x), (2, .ref r1), (3, .ref r2), (4, .ref r3)] := hl
  show W p l e (RM 0 0 0) s m args below meth c s.heap [] 0 0 (MQ below (cQ (eB none (fw G.1 lv ad (iup en io (.inr (6, [.int x, .ref r1, .ref r2, .ref r3, .int 1]))) A)) A) args s 0 0 A) (F0 m 0 ls [])
  refine lv_aload_n X.ex X.co dX1_init_0 rfl (lv_at hl 0 rfl) ?_
  refine f_obj X hl.1 m_1178 dX1_init_1 (Nat.le_of_ble_eq_true rfl) (Nat.le_of_ble_eq_true rfl) ?_
  refine lv_aload_n X.ex X.co dX1_init_4 rfl (lv_at hl 0 rfl) ?_
  refine lv_iconst (v := 1) X.ex X.co dX1_init_5 (by decide) ?_
  refine f_put X hK F hS hio hao (ci := 6) (fs := [.int 0, .null, .null, .null, .int 0]) heo okX1 rfl 4 (by decide) m_1187 (fun _ h => h) rfl (v := .int 1) rfl rfl rfl (Nat.le_of_ble_eq_true rfl) dX1_init_6 (fun H locs F hS => ?_)
  have F : fw G.1 lv ad (iup en io (.inr (6, [.int 0, .null, .null, .null, .int 1]))) A H := F
  refine lv_aload_n X.ex X.co dX1_init_9 rfl (lv_at hl 0 rfl) ?_
  refine lv_iload_n X.ex X.co dX1_init_10 rfl (lv_at hl 1 rfl) ?_
  refine f_putF X hnm hK F hS hio hao (ci := 6) (fs := [.int 0, .null, .null, .null, .int 1]) (iup_s _ _ _) okX1 rfl 0 (by decide) m_1179 (fun _ h => h) rfl rfl (v := .int x) rfl rfl rfl (Nat.le_of_ble_eq_true rfl) dX1_init_11 (fun H locs F hS => ?_)
  rw [iup_iup] at F
  have F : fw G.1 lv ad (iup en io (.inr (6, [.int x, .null, .null, .null, .int 1]))) A H := F
  refine lv_aload_n X.ex X.co dX1_init_14 rfl (lv_at hl 0 rfl) ?_
  refine lv_aload_n X.ex X.co dX1_init_15 rfl (lv_at hl 2 rfl) ?_
  refine f_putF X hnm hK F hS hio hao (ci := 6) (fs := [.int x, .null, .null, .null, .int 1]) (iup_s _ _ _) okX1 rfl 1 (by decide) m_1181 (fun _ h => h) rfl rfl (v := .ref r1) rfl rfl rfl (Nat.le_of_ble_eq_true rfl) dX1_init_16 (fun H locs F hS => ?_)
  rw [iup_iup] at F
  have F : fw G.1 lv ad (iup en io (.inr (6, [.int x, .ref r1, .null, .null, .int 1]))) A H := F
  refine lv_aload_n X.ex X.co dX1_init_19 rfl (lv_at hl 0 rfl) ?_
  refine lv_aload_n X.ex X.co dX1_init_20 rfl (lv_at hl 3 rfl) ?_
  refine f_putF X hnm hK F hS hio hao (ci := 6) (fs := [.int x, .ref r1, .null, .null, .int 1]) (iup_s _ _ _) okX1 rfl 2 (by decide) m_1183 (fun _ h => h) rfl rfl (v := .ref r2) rfl rfl rfl (Nat.le_of_ble_eq_true rfl) dX1_init_21 (fun H locs F hS => ?_)
  rw [iup_iup] at F
  have F : fw G.1 lv ad (iup en io (.inr (6, [.int x, .ref r1, .ref r2, .null, .int 1]))) A H := F
  refine lv_aload_n X.ex X.co dX1_init_24 rfl (lv_at hl 0 rfl) ?_
  refine lv_aload X.ex X.co dX1_init_25 (lv_at hl 4 rfl) ?_
  refine f_putF X hnm hK F hS hio hao (ci := 6) (fs := [.int x, .ref r1, .ref r2, .null, .int 1]) (iup_s _ _ _) okX1 rfl 3 (by decide) m_1185 (fun _ h => h) rfl rfl (v := .ref r3) rfl rfl rfl (Nat.le_of_ble_eq_true rfl) dX1_init_27 (fun H locs F hS => ?_)
  rw [iup_iup] at F
  have F : fw G.1 lv ad (iup en io (.inr (6, [.int x, .ref r1, .ref r2, .ref r3, .int 1]))) A H := F
  exact c_v X hS rfl ⟨rfl, F⟩ (by omega) (by omega) dX1_init_30
set_option maxHeartbeats 4000000 in
set_option maxRecDepth 100000 in
theorem c_X0_init (l : Launch) (G : GT) (A : Nat → Prop) (hAg : ∀ q, A q → gA G q) (lv : I2 → Prop) (ad : I2 → Nat) (en : I2 → va_E) (io : I2) (hio : lv io) (a : Nat) (hao : ad io = a) (heo : en io = .inr (5, [.int 0, .null, .null, .null, .int 0, .int 0, .int 0, .int 0, .int 0, .int 0])) (x : Int32) (r1 r2 r3 : Nat) (z : Int32) : cM l yX0_init cX0_init 6 ((Option.none : Option FieldType)) 0 0 0 G [.ref a, .int x, .ref r1, .ref r2, .ref r3, .int z] (fw G.1 lv ad en A) (eB none (fw G.1 lv ad (iup en io (.inr (5, [.int x, .ref r1, .ref r2, .ref r3, .int z, .int 0, .int 0, .int 0, .int 0, .int 0]))) A)) A := by
  refine mk_m (by decide) (Nat.le_of_ble_eq_true rfl) ?_
  intro p e s m args below meth c X ls hl g0 F hnm
  have hK := g0.1
  have hS : va_S A s.heap s.heap [] := va_S.rf
  have hl : lv_has ls 6 [(0, .ref a), (1, .int x), (2, .ref r1), (3, .ref r2), (4, .ref r3), (5, .int z)] := hl
  show W p l e (RM 0 0 0) s m args below meth c s.heap [] 0 0 (MQ below (cQ (eB none (fw G.1 lv ad (iup en io (.inr (5, [.int x, .ref r1, .ref r2, .ref r3, .int z, .int 0, .int 0, .int 0, .int 0, .int 0]))) A)) A) args s 0 0 A) (F0 m 0 ls [])
  refine lv_aload_n X.ex X.co dX0_init_0 rfl (lv_at hl 0 rfl) ?_
  refine f_obj X hl.1 m_711 dX0_init_1 (Nat.le_of_ble_eq_true rfl) (Nat.le_of_ble_eq_true rfl) ?_
  refine lv_aload_n X.ex X.co dX0_init_4 rfl (lv_at hl 0 rfl) ?_
  refine lv_iload_n X.ex X.co dX0_init_5 rfl (lv_at hl 1 rfl) ?_
  refine f_putF X hnm hK F hS hio hao (ci := 5) (fs := [.int 0, .null, .null, .null, .int 0, .int 0, .int 0, .int 0, .int 0, .int 0]) heo okX0 rfl 0 (by decide) m_712 (fun _ h => h) rfl rfl (v := .int x) rfl rfl rfl (Nat.le_of_ble_eq_true rfl) dX0_init_6 (fun H locs F hS => ?_)
  have F : fw G.1 lv ad (iup en io (.inr (5, [.int x, .null, .null, .null, .int 0, .int 0, .int 0, .int 0, .int 0, .int 0]))) A H := F
  refine lv_aload_n X.ex X.co dX0_init_9 rfl (lv_at hl 0 rfl) ?_
  refine lv_aload_n X.ex X.co dX0_init_10 rfl (lv_at hl 2 rfl) ?_
  refine f_putF X hnm hK F hS hio hao (ci := 5) (fs := [.int x, .null, .null, .null, .int 0, .int 0, .int 0, .int 0, .int 0, .int 0]) (iup_s _ _ _) okX0 rfl 1 (by decide) m_715 (fun _ h => h) rfl rfl (v := .ref r1) rfl rfl rfl (Nat.le_of_ble_eq_true rfl) dX0_init_11 (fun H locs F hS => ?_)
  rw [iup_iup] at F
  have F : fw G.1 lv ad (iup en io (.inr (5, [.int x, .ref r1, .null, .null, .int 0, .int 0, .int 0, .int 0, .int 0, .int 0]))) A H := F
  refine lv_aload_n X.ex X.co dX0_init_14 rfl (lv_at hl 0 rfl) ?_
  refine lv_aload_n X.ex X.co dX0_init_15 rfl (lv_at hl 3 rfl) ?_
  refine f_putF X hnm hK F hS hio hao (ci := 5) (fs := [.int x, .ref r1, .null, .null, .int 0, .int 0, .int 0, .int 0, .int 0, .int 0]) (iup_s _ _ _) okX0 rfl 2 (by decide) m_718 (fun _ h => h) rfl rfl (v := .ref r2) rfl rfl rfl (Nat.le_of_ble_eq_true rfl) dX0_init_16 (fun H locs F hS => ?_)
  rw [iup_iup] at F
  have F : fw G.1 lv ad (iup en io (.inr (5, [.int x, .ref r1, .ref r2, .null, .int 0, .int 0, .int 0, .int 0, .int 0, .int 0]))) A H := F
  refine lv_aload_n X.ex X.co dX0_init_19 rfl (lv_at hl 0 rfl) ?_
  refine lv_aload X.ex X.co dX0_init_20 (lv_at hl 4 rfl) ?_
  refine f_putF X hnm hK F hS hio hao (ci := 5) (fs := [.int x, .ref r1, .ref r2, .null, .int 0, .int 0, .int 0, .int 0, .int 0, .int 0]) (iup_s _ _ _) okX0 rfl 3 (by decide) m_720 (fun _ h => h) rfl rfl (v := .ref r3) rfl rfl rfl (Nat.le_of_ble_eq_true rfl) dX0_init_22 (fun H locs F hS => ?_)
  rw [iup_iup] at F
  have F : fw G.1 lv ad (iup en io (.inr (5, [.int x, .ref r1, .ref r2, .ref r3, .int 0, .int 0, .int 0, .int 0, .int 0, .int 0]))) A H := F
  refine lv_aload_n X.ex X.co dX0_init_25 rfl (lv_at hl 0 rfl) ?_
  refine lv_iload X.ex X.co dX0_init_26 (lv_at hl 5 rfl) ?_
  refine f_putF X hnm hK F hS hio hao (ci := 5) (fs := [.int x, .ref r1, .ref r2, .ref r3, .int 0, .int 0, .int 0, .int 0, .int 0, .int 0]) (iup_s _ _ _) okX0 rfl 4 (by decide) m_722 (fun _ h => h) rfl rfl (v := .int z) rfl rfl rfl (Nat.le_of_ble_eq_true rfl) dX0_init_28 (fun H locs F hS => ?_)
  rw [iup_iup] at F
  have F : fw G.1 lv ad (iup en io (.inr (5, [.int x, .ref r1, .ref r2, .ref r3, .int z, .int 0, .int 0, .int 0, .int 0, .int 0]))) A H := F
  exact c_v X hS rfl ⟨rfl, F⟩ (by omega) (by omega) dX0_init_31
set_option maxHeartbeats 4000000 in
set_option maxRecDepth 100000 in
theorem c_X9_now (l : Launch) (G : GT) (hst : True) (A : Nat → Prop) (hAg : ∀ q, A q → gA G q) (g : CG) (ad : I2 → Nat) (σ : Sg) (hI0 : MI0 σ) (hC : CL g σ) : cM l yX9_now cX9_now 1 ((Option.some (FieldType.object "CourseForge$Moment"))) 1 1 3 G [.ref (ad (0, 0))] (fun H => cw G g A ad σ H ∧ ∀ q, H.size ≤ q → A q) (fun r H => ∃ q, r = some (.ref q) ∧ fw G.1 (fun j => cLv g σ j ∨ j = (10, nCe σ)) (iup ad (10, nCe σ) q) (iup (cEnL G g ad σ (lstN σ)) (10, nCe σ) (eMo (dayV σ) (nEx σ) (nAn σ))) A H) A := by
  refine mk_m (by decide) (Nat.le_of_ble_eq_true rfl) ?_
  intro p e s m args below meth c X ls hl g0 F hnm
  have hK := g0.1
  obtain ⟨F, hfr⟩ := F
  obtain ⟨b1, b2, b3, b4, b5, b6, b7⟩ := hI0.1
  have hS : va_S A s.heap s.heap [] := va_S.rf
  have hl : lv_has ls 1 [(0, .ref (ad (0, 0)))] := hl
  show W p l e (RM 1 1 3) s m args below meth c s.heap [] 0 0 (MQ below (cQ (fun r H => ∃ q, r = some (.ref q) ∧ fw G.1 (fun j => cLv g σ j ∨ j = (10, nCe σ)) (iup ad (10, nCe σ) q) (iup (cEnL G g ad σ (lstN σ)) (10, nCe σ) (eMo (dayV σ) (nEx σ) (nAn σ))) A H) A) args s 1 3 A) (F0 m 0 ls [])
  refine f_new X hK F hS hfr (10, nCe σ) (show ¬ nCe σ < nCe σ by omega) (ci := 11) okX6 rfl m_210 m_211 m_28 [.int 0, .int 0, .int 0] (by intro j hj; match j, hj with | 0, _ => rfl | 1, _ => rfl | 2, _ => rfl | n + 3, h => exact absurd h (by omega)) (by show _ ≤ 1; omega) (by show _ ≤ 3; omega) dX9_now_0 (fun q_1 H F hS => ?_)
  have F : fw G.1 (fun j => (cLv g σ) j ∨ j = (10, nCe σ)) (iup ad (10, nCe σ) q_1) (iup (cEnL G g ad σ (lstN σ)) (10, nCe σ) (.inr (11, [.int 0, .int 0, .int 0]))) A H := F
  have Fc : cw G g A ad σ H := cw_drop (t := (10, nCe σ)) (show ¬ nCe σ < nCe σ by omega) F
  refine lv_dup X.ex X.co dX9_now_3 rfl ?_
  refine lv_aload_n X.ex X.co dX9_now_4 rfl (lv_at hl 0 rfl) ?_
  refine f_get X hK (cw_be Fc) okX9 rfl 10 (by decide) m_116 (fun _ h => h) (v := .int (dayV σ)) rfl dX9_now_5 ?_
  refine lv_aload_n X.ex X.co dX9_now_8 rfl (lv_at hl 0 rfl) ?_
  refine f_get X hK (cw_be Fc) okX9 rfl 3 (by decide) m_109 (fun _ h => h) (v := .ref (ad (1, 3))) rfl dX9_now_9 ?_
  refine q_rV X ce_Jx4a65c_size_8abf5 m_144 (c_Jx4a65c_size_8abf5 l G (ad (1, 3)) (g.2.1 (3)) (lrow G g ad (3)) (nEx σ)) (g0.step hS hAg) (cw_lsn Fc (k := 3) (n := nEx σ) (Or.inl (by omega)) rng_len) (cw_lsn Fc (k := 3) (n := nEx σ) (Or.inl (by omega)) rng_len) rfl (by decide) rfl hl.1 rfl (Nat.le_of_ble_eq_true rfl) dX9_now_12 (by omega) (by omega) ?_
  refine lv_aload_n X.ex X.co dX9_now_15 rfl (lv_at hl 0 rfl) ?_
  refine f_get X hK (cw_be Fc) okX9 rfl 4 (by decide) m_110 (fun _ h => h) (v := .ref (ad (1, 4))) rfl dX9_now_16 ?_
  refine q_rV X ce_Jx4a65c_size_8abf5 m_144 (c_Jx4a65c_size_8abf5 l G (ad (1, 4)) (g.2.1 (4)) (lrow G g ad (4)) (nAn σ)) (g0.step hS hAg) (cw_lsn Fc (k := 4) (n := nAn σ) (Or.inl (by omega)) rng_len) (cw_lsn Fc (k := 4) (n := nAn σ) (Or.inl (by omega)) rng_len) rfl (by decide) rfl hl.1 rfl (Nat.le_of_ble_eq_true rfl) dX9_now_19 (by omega) (by omega) ?_
  refine q_vI X ce_X6_init m_212 (c_X6_init l G A hAg (fun j => (cLv g σ) j ∨ j = (10, nCe σ)) (iup ad (10, nCe σ) q_1) (iup (cEnL G g ad σ (lstN σ)) (10, nCe σ) (.inr (11, [.int 0, .int 0, .int 0]))) (10, nCe σ) (Or.inr rfl) q_1 (iup_s _ _ _) (iup_s _ _ _) (dayV σ) (nI (nEx σ)) (nI (nAn σ))) (g0.step hS hAg) F (by decide) rfl hl.1 rfl (Nat.le_of_ble_eq_true rfl) dX9_now_22 (by show _ ≤ 1; omega) (by show _ ≤ 3; omega) hS (fun _ h => h) (fun H locs F hz hk9 hS => ?_)
  rw [iup_iup] at F
  have F : fw G.1 (fun j => (cLv g σ) j ∨ j = (10, nCe σ)) (iup ad (10, nCe σ) q_1) (iup (cEnL G g ad σ (lstN σ)) (10, nCe σ) (.inr (11, [.int (dayV σ), .int (nI (nEx σ)), .int (nI (nAn σ))]))) A H := F
  have Fc : cw G g A ad σ H := cw_drop (t := (10, nCe σ)) (show ¬ nCe σ < nCe σ by omega) F
  exact c_a X hS rfl (Or.inl ⟨_, rfl⟩) (Or.inr ⟨_, rfl⟩) ⟨_, rfl, F⟩ (by omega) (by omega) dX9_now_25
