def zb_z : Nat → Int32 := fun _ => 0
def zb_zl : Nat → Int64 := fun _ => 0
set_option maxRecDepth 20000 in
theorem b_oi : Cond.instanceMethod objectInit ∈ lw_good := zc_g1 23 rfl rfl
set_option maxRecDepth 20000 in
theorem b_oc : Cond.code objectInit ⟨#[0xb1]⟩ 1 none ∈ lw_good := zc_g1 24 rfl rfl
set_option maxRecDepth 20000 in
theorem ba_I : Cond.arrayClass .int ∈ lw_good := zc_g1 63 rfl rfl
set_option maxRecDepth 20000 in
theorem ba_Z : Cond.arrayClass .boolean ∈ lw_good := zc_g1 64 rfl rfl
set_option maxRecDepth 20000 in
theorem ba_J : Cond.arrayClass .long ∈ lw_good := zc_g2 1 rfl rfl
set_option maxRecDepth 20000 in
theorem bc_X1_init : Cond.code yX1_init cX1_init 1 none ∈ lw_good := zc_g1 69 rfl rfl
set_option maxRecDepth 20000 in
theorem bi_X1 : Cond.initialized RX1 ∈ lw_good := zc_g1 3 rfl rfl
set_option maxRecDepth 20000 in
theorem bm_X1_init : Cond.instanceMethod yX1_init ∈ lw_good := zc_g1 68 rfl rfl
set_option maxRecDepth 20000 in
theorem bn_X1 : Cond.instantiable RX1 4 ∈ lw_good := zc_g1 66 rfl rfl
theorem bd_X1 : ∀ j, j < 4 → defaultValue (tyX1 j) = vp_V [.int 0, .null, .null, .null] j := by
  intro j hj
  match j, hj with
  | 0, _ => rfl
  | 1, _ => rfl
  | 2, _ => rfl
  | 3, _ => rfl
  | n + 4, h => exact absurd h (by omega)
set_option maxRecDepth 20000 in
theorem bc_X4_init : Cond.code yX4_init cX4_init 1 none ∈ lw_good := zc_g1 29 rfl rfl
set_option maxRecDepth 20000 in
theorem bi_X4 : Cond.initialized RX4 ∈ lw_good := zc_g1 2 rfl rfl
set_option maxRecDepth 20000 in
theorem bm_X4_init : Cond.instanceMethod yX4_init ∈ lw_good := zc_g1 28 rfl rfl
set_option maxRecDepth 20000 in
theorem bn_X4 : Cond.instantiable RX4 8 ∈ lw_good := zc_g1 26 rfl rfl
theorem bd_X4 : ∀ j, j < 8 → defaultValue (tyX4 j) = vp_V [.int 0, .int 0, .null, .null, .null, .null, .null, .null] j := by
  intro j hj
  match j, hj with
  | 0, _ => rfl
  | 1, _ => rfl
  | 2, _ => rfl
  | 3, _ => rfl
  | 4, _ => rfl
  | 5, _ => rfl
  | 6, _ => rfl
  | 7, _ => rfl
  | n + 8, h => exact absurd h (by omega)
set_option maxRecDepth 20000 in
theorem bc_X7_init : Cond.code yX7_init cX7_init 2 none ∈ lw_good := zc_g1 137 rfl rfl
set_option maxRecDepth 20000 in
theorem bi_X7 : Cond.initialized RX7 ∈ lw_good := zc_g1 6 rfl rfl
set_option maxRecDepth 20000 in
theorem bm_X7_init : Cond.instanceMethod yX7_init ∈ lw_good := zc_g1 136 rfl rfl
set_option maxRecDepth 20000 in
theorem bn_X7 : Cond.instantiable RX7 3 ∈ lw_good := zc_g1 134 rfl rfl
theorem bd_X7 : ∀ j, j < 3 → defaultValue (tyX7 j) = vp_V [.null, .null, .int 0] j := by
  intro j hj
  match j, hj with
  | 0, _ => rfl
  | 1, _ => rfl
  | 2, _ => rfl
  | n + 3, h => exact absurd h (by omega)
set_option maxRecDepth 20000 in
theorem bc_X6_init : Cond.code yX6_init cX6_init 1 none ∈ lw_good := zc_g1 97 rfl rfl
set_option maxRecDepth 20000 in
theorem bi_X6 : Cond.initialized RX6 ∈ lw_good := zc_g1 4 rfl rfl
set_option maxRecDepth 20000 in
theorem bm_X6_init : Cond.instanceMethod yX6_init ∈ lw_good := zc_g1 96 rfl rfl
set_option maxRecDepth 20000 in
theorem bn_X6 : Cond.instantiable RX6 7 ∈ lw_good := zc_g1 94 rfl rfl
theorem bd_X6 : ∀ j, j < 7 → defaultValue (tyX6 j) = vp_V [.null, .int 0, .null, .int 0, .int 0, .int 0, .int 0] j := by
  intro j hj
  match j, hj with
  | 0, _ => rfl
  | 1, _ => rfl
  | 2, _ => rfl
  | 3, _ => rfl
  | 4, _ => rfl
  | 5, _ => rfl
  | 6, _ => rfl
  | n + 7, h => exact absurd h (by omega)
set_option maxRecDepth 20000 in
theorem bc_X3_init : Cond.code yX3_init cX3_init 3 none ∈ lw_good := zc_g1 131 rfl rfl
set_option maxRecDepth 20000 in
theorem bi_X3 : Cond.initialized RX3 ∈ lw_good := zc_g1 5 rfl rfl
set_option maxRecDepth 20000 in
theorem bm_X3_init : Cond.instanceMethod yX3_init ∈ lw_good := zc_g1 130 rfl rfl
set_option maxRecDepth 20000 in
theorem bn_X3 : Cond.instantiable RX3 14 ∈ lw_good := zc_g1 128 rfl rfl
theorem bd_X3 : ∀ j, j < 14 → defaultValue (tyX3 j) = vp_V [.null, .null, .null, .int 0, .int 0, .null, .null, .int 0, .int 0, .null, .int 0, .null, .int 0, .int 0] j := by
  intro j hj
  match j, hj with
  | 0, _ => rfl
  | 1, _ => rfl
  | 2, _ => rfl
  | 3, _ => rfl
  | 4, _ => rfl
  | 5, _ => rfl
  | 6, _ => rfl
  | 7, _ => rfl
  | 8, _ => rfl
  | 9, _ => rfl
  | 10, _ => rfl
  | 11, _ => rfl
  | 12, _ => rfl
  | 13, _ => rfl
  | n + 14, h => exact absurd h (by omega)
set_option maxRecDepth 20000 in
theorem bc_X0_init : Cond.code yX0_init cX0_init 2 none ∈ lw_good := zc_g1 204 rfl rfl
set_option maxRecDepth 20000 in
theorem bi_X0 : Cond.initialized RX0 ∈ lw_good := zc_g1 7 rfl rfl
set_option maxRecDepth 20000 in
theorem bm_X0_init : Cond.instanceMethod yX0_init ∈ lw_good := zc_g1 203 rfl rfl
set_option maxRecDepth 20000 in
theorem bn_X0 : Cond.instantiable RX0 10 ∈ lw_good := zc_g1 201 rfl rfl
theorem bd_X0 : ∀ j, j < 10 → defaultValue (tyX0 j) = vp_V [.null, .null, .int 0, .null, .null, .null, .int 0, .int 0, .null, .null] j := by
  intro j hj
  match j, hj with
  | 0, _ => rfl
  | 1, _ => rfl
  | 2, _ => rfl
  | 3, _ => rfl
  | 4, _ => rfl
  | 5, _ => rfl
  | 6, _ => rfl
  | 7, _ => rfl
  | 8, _ => rfl
  | 9, _ => rfl
  | n + 10, h => exact absurd h (by omega)
set_option maxRecDepth 20000 in
theorem bc_X2_init : Cond.code yX2_init cX2_init 1 none ∈ lw_good := zc_g2 6 rfl rfl
set_option maxRecDepth 20000 in
theorem bi_X2 : Cond.initialized RX2 ∈ lw_good := zc_g1 8 rfl rfl
set_option maxRecDepth 20000 in
theorem bm_X2_init : Cond.instanceMethod yX2_init ∈ lw_good := zc_g2 5 rfl rfl
set_option maxRecDepth 20000 in
theorem bn_X2 : Cond.instantiable RX2 8 ∈ lw_good := zc_g2 3 rfl rfl
theorem bd_X2 : ∀ j, j < 8 → defaultValue (tyX2 j) = vp_V [.int 0, .null, .null, .null, .null, .null, .null, .null] j := by
  intro j hj
  match j, hj with
  | 0, _ => rfl
  | 1, _ => rfl
  | 2, _ => rfl
  | 3, _ => rfl
  | 4, _ => rfl
  | 5, _ => rfl
  | 6, _ => rfl
  | 7, _ => rfl
  | n + 8, h => exact absurd h (by omega)
set_option maxRecDepth 20000 in
theorem bc_X5_init : Cond.code yX5_init cX5_init 1 none ∈ lw_good := zc_g2 45 rfl rfl
set_option maxRecDepth 20000 in
theorem bi_X5 : Cond.initialized RX5 ∈ lw_good := zc_g1 9 rfl rfl
set_option maxRecDepth 20000 in
theorem bm_X5_init : Cond.instanceMethod yX5_init ∈ lw_good := zc_g2 44 rfl rfl
set_option maxRecDepth 20000 in
theorem bn_X5 : Cond.instantiable RX5 4 ∈ lw_good := zc_g2 42 rfl rfl
theorem bd_X5 : ∀ j, j < 4 → defaultValue (tyX5 j) = vp_V [.null, .null, .null, .int 0] j := by
  intro j hj
  match j, hj with
  | 0, _ => rfl
  | 1, _ => rfl
  | 2, _ => rfl
  | 3, _ => rfl
  | n + 4, h => exact absurd h (by omega)
set_option maxRecDepth 20000 in
theorem bc_X8_init : Cond.code yX8_init cX8_init 3 none ∈ lw_good := zc_g1 21 rfl rfl
set_option maxRecDepth 20000 in
theorem bi_X8 : Cond.initialized RX8 ∈ lw_good := zc_g1 1 rfl rfl
set_option maxRecDepth 20000 in
theorem bm_X8_init : Cond.instanceMethod yX8_init ∈ lw_good := zc_g1 20 rfl rfl
set_option maxRecDepth 20000 in
theorem bn_X8 : Cond.instantiable RX8 7 ∈ lw_good := zc_g1 18 rfl rfl
theorem bd_X8 : ∀ j, j < 7 → defaultValue (tyX8 j) = vp_V [.null, .null, .null, .null, .null, .null, .null] j := by
  intro j hj
  match j, hj with
  | 0, _ => rfl
  | 1, _ => rfl
  | 2, _ => rfl
  | 3, _ => rfl
  | 4, _ => rfl
  | 5, _ => rfl
  | 6, _ => rfl
  | n + 7, h => exact absurd h (by omega)
set_option maxRecDepth 20000 in
theorem bc_X9_init : Cond.code yX9_init cX9_init 1 none ∈ lw_good := zc_g4 123 rfl rfl
set_option maxRecDepth 20000 in
theorem bi_X9 : Cond.initialized RX9 ∈ lw_good := zc_g1 10 rfl rfl
set_option maxRecDepth 20000 in
theorem bm_X9_init : Cond.instanceMethod yX9_init ∈ lw_good := zc_g4 122 rfl rfl
set_option maxRecDepth 20000 in
theorem bn_X9 : Cond.instantiable RX9 40 ∈ lw_good := zc_g4 120 rfl rfl
theorem bd_X9 : ∀ j, j < 40 → defaultValue (tyX9 j) = vp_V [.null, .int 0, .int 0, .null, .null, .null, .int 0, .int 0, .int 0, .int 0, .int 0, .int 0, .int 0, .int 0, .null, .null, .null, .int 0, .null, .null, .null, .int 0, .null, .null, .null, .null, .null, .null, .int 0, .null, .null, .null, .null, .null, .null, .null, .null, .null, .null, .int 0] j := by
  intro j hj
  match j, hj with
  | 0, _ => rfl
  | 1, _ => rfl
  | 2, _ => rfl
  | 3, _ => rfl
  | 4, _ => rfl
  | 5, _ => rfl
  | 6, _ => rfl
  | 7, _ => rfl
  | 8, _ => rfl
  | 9, _ => rfl
  | 10, _ => rfl
  | 11, _ => rfl
  | 12, _ => rfl
  | 13, _ => rfl
  | 14, _ => rfl
  | 15, _ => rfl
  | 16, _ => rfl
  | 17, _ => rfl
  | 18, _ => rfl
  | 19, _ => rfl
  | 20, _ => rfl
  | 21, _ => rfl
  | 22, _ => rfl
  | 23, _ => rfl
  | 24, _ => rfl
  | 25, _ => rfl
  | 26, _ => rfl
  | 27, _ => rfl
  | 28, _ => rfl
  | 29, _ => rfl
  | 30, _ => rfl
  | 31, _ => rfl
  | 32, _ => rfl
  | 33, _ => rfl
  | 34, _ => rfl
  | 35, _ => rfl
  | 36, _ => rfl
  | 37, _ => rfl
  | 38, _ => rfl
  | 39, _ => rfl
  | n + 40, h => exact absurd h (by omega)
set_option maxRecDepth 20000 in
theorem bo_X1 : Cond.methodLink RX1 3 objectInit ∈ lw_good := zc_g1 70 rfl rfl
set_option maxRecDepth 20000 in
theorem bf_X1_9 : Cond.fieldLink RX1 9 RX1 "kind" "[I" ∈ lw_good := zc_g1 75 rfl rfl
set_option maxRecDepth 20000 in
theorem bf_X1_15 : Cond.fieldLink RX1 15 RX1 "first" "[I" ∈ lw_good := zc_g1 78 rfl rfl
set_option maxRecDepth 20000 in
theorem bf_X1_18 : Cond.fieldLink RX1 18 RX1 "second" "[I" ∈ lw_good := zc_g1 81 rfl rfl
theorem b_X1 (K : zc_K) (h  : Nat) : zb_M K yX1_init cX1_init 1 { frames := 1, cells := 3, slots := 18, locals := 20 } 3 18 [.ref h] [(h, .inr (1, [.int 0, .null, .null, .null]))] (fun q => [(h, .inr (1, [.int 0, .ref (q 0), .ref (q 1), .ref (q 2)])), ((q 0), .inl (K.2.2.1 0, 6, .inl zb_z)), ((q 1), .inl (K.2.2.1 0, 6, .inl zb_z)), ((q 2), .inl (K.2.2.1 0, 6, .inl zb_z))]) := by
  refine zb_start RX1 pfX1_init rfl (Nat.le_of_ble_eq_true rfl) rfl (fun G A hG hA hD => ?_)
  have hB : ∀ k n, zc_B 1 RX1 cX1_init (zg_up G k n) := fun _ _ => hG.1
  refine zr_aload_n (hB 0 0) 0 dX1_init_0 rfl ?_
  refine zb_objInit hG dX1_init_1 bo_X1 b_oi b_oc (Nat.le_of_ble_eq_true rfl) (Nat.le_of_ble_eq_true rfl) ?_
  refine zr_aload_n (hB 0 0) 0 dX1_init_4 rfl ?_
  refine zr_bipush (hB 0 0) dX1_init_5 rfl (fun z1 hz1 => ?_)
  refine zb_newa hG hA (t := 0) (ty := .int) (N := 6) (a0 := (6, .inl zb_z)) dX1_init_7 hD ba_I rfl rfl zb_raI (fun _ => rfl) (by omega) (by decide) (Nat.le_of_ble_eq_true rfl) (Nat.le_of_ble_eq_true rfl) (fun q2 hD => ?_)
  refine zb_putF hG (ws' := [(h, .inr (1, [.int 0, .ref q2, .null, .null])), (q2, .inl (K.2.2.1 0, 6, .inl zb_z))]) 0 1 dX1_init_9 hD rfl rfl (by decide) gwX1 tyX1_ok nmX1 bf_X1_9 rfl rfl (tyX1_ok 1 (by decide)) rfl rfl (Nat.le_of_ble_eq_true rfl) rfl (fun hD => ?_)
  refine zr_aload_n (hB 1 6) 0 dX1_init_12 rfl ?_
  refine zr_bipush (hB 1 6) dX1_init_13 rfl (fun z3 hz3 => ?_)
  refine zb_newa hG hA (t := 0) (ty := .int) (N := 6) (a0 := (6, .inl zb_z)) dX1_init_15 hD ba_I rfl rfl zb_raI (fun _ => rfl) (by omega) (by decide) (Nat.le_of_ble_eq_true rfl) (Nat.le_of_ble_eq_true rfl) (fun q4 hD => ?_)
  refine zb_putF hG (ws' := [(h, .inr (1, [.int 0, .ref q2, .ref q4, .null])), (q2, .inl (K.2.2.1 0, 6, .inl zb_z)), (q4, .inl (K.2.2.1 0, 6, .inl zb_z))]) 0 2 dX1_init_17 hD rfl rfl (by decide) gwX1 tyX1_ok nmX1 bf_X1_15 rfl rfl (tyX1_ok 2 (by decide)) rfl rfl (Nat.le_of_ble_eq_true rfl) rfl (fun hD => ?_)
  refine zr_aload_n (hB 2 12) 0 dX1_init_20 rfl ?_
  refine zr_bipush (hB 2 12) dX1_init_21 rfl (fun z5 hz5 => ?_)
  refine zb_newa hG hA (t := 0) (ty := .int) (N := 6) (a0 := (6, .inl zb_z)) dX1_init_23 hD ba_I rfl rfl zb_raI (fun _ => rfl) (by omega) (by decide) (Nat.le_of_ble_eq_true rfl) (Nat.le_of_ble_eq_true rfl) (fun q6 hD => ?_)
  refine zb_putF hG (ws' := [(h, .inr (1, [.int 0, .ref q2, .ref q4, .ref q6])), (q2, .inl (K.2.2.1 0, 6, .inl zb_z)), (q4, .inl (K.2.2.1 0, 6, .inl zb_z)), (q6, .inl (K.2.2.1 0, 6, .inl zb_z))]) 0 3 dX1_init_25 hD rfl rfl (by decide) gwX1 tyX1_ok nmX1 bf_X1_18 rfl rfl (tyX1_ok 3 (by decide)) rfl rfl (Nat.le_of_ble_eq_true rfl) rfl (fun hD => ?_)
  exact zb_vret hG dX1_init_28 hD (fun i => ([q2, q4, q6] : List Nat).getD i 0) [0, 1, 2, 3] rfl rfl rfl

set_option maxRecDepth 20000 in
theorem bo_X4 : Cond.methodLink RX4 3 objectInit ∈ lw_good := zc_g1 30 rfl rfl
set_option maxRecDepth 20000 in
theorem bf_X4_9 : Cond.fieldLink RX4 9 RX4 "latest" "[I" ∈ lw_good := zc_g1 37 rfl rfl
set_option maxRecDepth 20000 in
theorem bf_X4_15 : Cond.fieldLink RX4 15 RX4 "earlier" "[I" ∈ lw_good := zc_g1 38 rfl rfl
set_option maxRecDepth 20000 in
theorem bf_X4_18 : Cond.fieldLink RX4 18 RX4 "toldOn" "[I" ∈ lw_good := zc_g1 39 rfl rfl
set_option maxRecDepth 20000 in
theorem bf_X4_21 : Cond.fieldLink RX4 21 RX4 "value" "[I" ∈ lw_good := zc_g1 40 rfl rfl
set_option maxRecDepth 20000 in
theorem bf_X4_24 : Cond.fieldLink RX4 24 RX4 "feasts" "[Z" ∈ lw_good := zc_g1 41 rfl rfl
set_option maxRecDepth 20000 in
theorem bf_X4_28 : Cond.fieldLink RX4 28 RX4 "deeds" "[Z" ∈ lw_good := zc_g1 43 rfl rfl
theorem b_X4 (K : zc_K) (h  : Nat) : zb_M K yX4_init cX4_init 1 { frames := 1, cells := 6, slots := 984, locals := 20 } 6 984 [.ref h] [(h, .inr (4, [.int 0, .int 0, .null, .null, .null, .null, .null, .null]))] (fun q => [(h, .inr (4, [.int 0, .int 0, .ref (q 0), .ref (q 1), .ref (q 2), .ref (q 3), .ref (q 4), .ref (q 5)])), ((q 0), .inl (K.2.2.1 0, 256, .inl zb_z)), ((q 1), .inl (K.2.2.1 0, 200, .inl zb_z)), ((q 2), .inl (K.2.2.1 0, 200, .inl zb_z)), ((q 3), .inl (K.2.2.1 0, 200, .inl zb_z)), ((q 4), .inl (K.2.2.1 1, 64, .inl zb_z)), ((q 5), .inl (K.2.2.1 1, 64, .inl zb_z))]) := by
  refine zb_start RX4 pfX4_init rfl (Nat.le_of_ble_eq_true rfl) rfl (fun G A hG hA hD => ?_)
  have hB : ∀ k n, zc_B 1 RX4 cX4_init (zg_up G k n) := fun _ _ => hG.1
  refine zr_aload_n (hB 0 0) 0 dX4_init_0 rfl ?_
  refine zb_objInit hG dX4_init_1 bo_X4 b_oi b_oc (Nat.le_of_ble_eq_true rfl) (Nat.le_of_ble_eq_true rfl) ?_
  refine zr_aload_n (hB 0 0) 0 dX4_init_4 rfl ?_
  refine zr_sipush (hB 0 0) dX4_init_5 rfl (fun z1 hz1 => ?_)
  refine zb_newa hG hA (t := 0) (ty := .int) (N := 256) (a0 := (256, .inl zb_z)) dX4_init_8 hD ba_I rfl rfl zb_raI (fun _ => rfl) (by omega) (by decide) (Nat.le_of_ble_eq_true rfl) (Nat.le_of_ble_eq_true rfl) (fun q2 hD => ?_)
  refine zb_putF hG (ws' := [(h, .inr (4, [.int 0, .int 0, .ref q2, .null, .null, .null, .null, .null])), (q2, .inl (K.2.2.1 0, 256, .inl zb_z))]) 0 2 dX4_init_10 hD rfl rfl (by decide) gwX4 tyX4_ok nmX4 bf_X4_9 rfl rfl (tyX4_ok 2 (by decide)) rfl rfl (Nat.le_of_ble_eq_true rfl) rfl (fun hD => ?_)
  refine zr_aload_n (hB 1 256) 0 dX4_init_13 rfl ?_
  refine zr_sipush (hB 1 256) dX4_init_14 rfl (fun z3 hz3 => ?_)
  refine zb_newa hG hA (t := 0) (ty := .int) (N := 200) (a0 := (200, .inl zb_z)) dX4_init_17 hD ba_I rfl rfl zb_raI (fun _ => rfl) (by omega) (by decide) (Nat.le_of_ble_eq_true rfl) (Nat.le_of_ble_eq_true rfl) (fun q4 hD => ?_)
  refine zb_putF hG (ws' := [(h, .inr (4, [.int 0, .int 0, .ref q2, .ref q4, .null, .null, .null, .null])), (q2, .inl (K.2.2.1 0, 256, .inl zb_z)), (q4, .inl (K.2.2.1 0, 200, .inl zb_z))]) 0 3 dX4_init_19 hD rfl rfl (by decide) gwX4 tyX4_ok nmX4 bf_X4_15 rfl rfl (tyX4_ok 3 (by decide)) rfl rfl (Nat.le_of_ble_eq_true rfl) rfl (fun hD => ?_)
  refine zr_aload_n (hB 2 456) 0 dX4_init_22 rfl ?_
  refine zr_sipush (hB 2 456) dX4_init_23 rfl (fun z5 hz5 => ?_)
  refine zb_newa hG hA (t := 0) (ty := .int) (N := 200) (a0 := (200, .inl zb_z)) dX4_init_26 hD ba_I rfl rfl zb_raI (fun _ => rfl) (by omega) (by decide) (Nat.le_of_ble_eq_true rfl) (Nat.le_of_ble_eq_true rfl) (fun q6 hD => ?_)
  refine zb_putF hG (ws' := [(h, .inr (4, [.int 0, .int 0, .ref q2, .ref q4, .ref q6, .null, .null, .null])), (q2, .inl (K.2.2.1 0, 256, .inl zb_z)), (q4, .inl (K.2.2.1 0, 200, .inl zb_z)), (q6, .inl (K.2.2.1 0, 200, .inl zb_z))]) 0 4 dX4_init_28 hD rfl rfl (by decide) gwX4 tyX4_ok nmX4 bf_X4_18 rfl rfl (tyX4_ok 4 (by decide)) rfl rfl (Nat.le_of_ble_eq_true rfl) rfl (fun hD => ?_)
  refine zr_aload_n (hB 3 656) 0 dX4_init_31 rfl ?_
  refine zr_sipush (hB 3 656) dX4_init_32 rfl (fun z7 hz7 => ?_)
  refine zb_newa hG hA (t := 0) (ty := .int) (N := 200) (a0 := (200, .inl zb_z)) dX4_init_35 hD ba_I rfl rfl zb_raI (fun _ => rfl) (by omega) (by decide) (Nat.le_of_ble_eq_true rfl) (Nat.le_of_ble_eq_true rfl) (fun q8 hD => ?_)
  refine zb_putF hG (ws' := [(h, .inr (4, [.int 0, .int 0, .ref q2, .ref q4, .ref q6, .ref q8, .null, .null])), (q2, .inl (K.2.2.1 0, 256, .inl zb_z)), (q4, .inl (K.2.2.1 0, 200, .inl zb_z)), (q6, .inl (K.2.2.1 0, 200, .inl zb_z)), (q8, .inl (K.2.2.1 0, 200, .inl zb_z))]) 0 5 dX4_init_37 hD rfl rfl (by decide) gwX4 tyX4_ok nmX4 bf_X4_21 rfl rfl (tyX4_ok 5 (by decide)) rfl rfl (Nat.le_of_ble_eq_true rfl) rfl (fun hD => ?_)
  refine zr_aload_n (hB 4 856) 0 dX4_init_40 rfl ?_
  refine zr_bipush (hB 4 856) dX4_init_41 rfl (fun z9 hz9 => ?_)
  refine zb_newa hG hA (t := 1) (ty := .boolean) (N := 64) (a0 := (64, .inl zb_z)) dX4_init_43 hD ba_Z rfl rfl zb_raZ (fun _ => rfl) (by omega) (by decide) (Nat.le_of_ble_eq_true rfl) (Nat.le_of_ble_eq_true rfl) (fun q10 hD => ?_)
  refine zb_putF hG (ws' := [(h, .inr (4, [.int 0, .int 0, .ref q2, .ref q4, .ref q6, .ref q8, .ref q10, .null])), (q2, .inl (K.2.2.1 0, 256, .inl zb_z)), (q4, .inl (K.2.2.1 0, 200, .inl zb_z)), (q6, .inl (K.2.2.1 0, 200, .inl zb_z)), (q8, .inl (K.2.2.1 0, 200, .inl zb_z)), (q10, .inl (K.2.2.1 1, 64, .inl zb_z))]) 0 6 dX4_init_45 hD rfl rfl (by decide) gwX4 tyX4_ok nmX4 bf_X4_24 rfl rfl (tyX4_ok 6 (by decide)) rfl rfl (Nat.le_of_ble_eq_true rfl) rfl (fun hD => ?_)
  refine zr_aload_n (hB 5 920) 0 dX4_init_48 rfl ?_
  refine zr_bipush (hB 5 920) dX4_init_49 rfl (fun z11 hz11 => ?_)
  refine zb_newa hG hA (t := 1) (ty := .boolean) (N := 64) (a0 := (64, .inl zb_z)) dX4_init_51 hD ba_Z rfl rfl zb_raZ (fun _ => rfl) (by omega) (by decide) (Nat.le_of_ble_eq_true rfl) (Nat.le_of_ble_eq_true rfl) (fun q12 hD => ?_)
  refine zb_putF hG (ws' := [(h, .inr (4, [.int 0, .int 0, .ref q2, .ref q4, .ref q6, .ref q8, .ref q10, .ref q12])), (q2, .inl (K.2.2.1 0, 256, .inl zb_z)), (q4, .inl (K.2.2.1 0, 200, .inl zb_z)), (q6, .inl (K.2.2.1 0, 200, .inl zb_z)), (q8, .inl (K.2.2.1 0, 200, .inl zb_z)), (q10, .inl (K.2.2.1 1, 64, .inl zb_z)), (q12, .inl (K.2.2.1 1, 64, .inl zb_z))]) 0 7 dX4_init_53 hD rfl rfl (by decide) gwX4 tyX4_ok nmX4 bf_X4_28 rfl rfl (tyX4_ok 7 (by decide)) rfl rfl (Nat.le_of_ble_eq_true rfl) rfl (fun hD => ?_)
  exact zb_vret hG dX4_init_56 hD (fun i => ([q2, q4, q6, q8, q10, q12] : List Nat).getD i 0) [0, 1, 2, 3, 4, 5, 6] rfl rfl rfl

set_option maxRecDepth 20000 in
theorem bo_X7 : Cond.methodLink RX7 3 objectInit ∈ lw_good := zc_g1 138 rfl rfl
set_option maxRecDepth 20000 in
theorem bf_X7_9 : Cond.fieldLink RX7 9 RX7 "figures" "[I" ∈ lw_good := zc_g1 140 rfl rfl
set_option maxRecDepth 20000 in
theorem bf_X7_15 : Cond.fieldLink RX7 15 RX7 "rows" "LNextFigures$Rows;" ∈ lw_good := zc_g1 139 rfl rfl
theorem b_X7 (K : zc_K) (h r1 : Nat) : zb_M K yX7_init cX7_init 2 { frames := 1, cells := 1, slots := 64, locals := 20 } 1 64 [.ref h, .ref r1] [(h, .inr (7, [.null, .null, .int 0]))] (fun q => [(h, .inr (7, [.ref r1, .ref (q 0), .int 0])), ((q 0), .inl (K.2.2.1 0, 64, .inl zb_z))]) := by
  refine zb_start RX7 pfX7_init rfl (Nat.le_of_ble_eq_true rfl) rfl (fun G A hG hA hD => ?_)
  have hB : ∀ k n, zc_B 2 RX7 cX7_init (zg_up G k n) := fun _ _ => hG.1
  refine zr_aload_n (hB 0 0) 0 dX7_init_0 rfl ?_
  refine zb_objInit hG dX7_init_1 bo_X7 b_oi b_oc (Nat.le_of_ble_eq_true rfl) (Nat.le_of_ble_eq_true rfl) ?_
  refine zr_aload_n (hB 0 0) 0 dX7_init_4 rfl ?_
  refine zr_bipush (hB 0 0) dX7_init_5 rfl (fun z1 hz1 => ?_)
  refine zb_newa hG hA (t := 0) (ty := .int) (N := 64) (a0 := (64, .inl zb_z)) dX7_init_7 hD ba_I rfl rfl zb_raI (fun _ => rfl) (by omega) (by decide) (Nat.le_of_ble_eq_true rfl) (Nat.le_of_ble_eq_true rfl) (fun q2 hD => ?_)
  refine zb_putF hG (ws' := [(h, .inr (7, [.null, .ref q2, .int 0])), (q2, .inl (K.2.2.1 0, 64, .inl zb_z))]) 0 1 dX7_init_9 hD rfl rfl (by decide) gwX7 tyX7_ok nmX7 bf_X7_9 rfl rfl (tyX7_ok 1 (by decide)) rfl rfl (Nat.le_of_ble_eq_true rfl) rfl (fun hD => ?_)
  refine zr_aload_n (hB 1 64) 0 dX7_init_12 rfl ?_
  refine zr_aload_n (hB 1 64) 1 dX7_init_13 rfl ?_
  refine zb_putF hG (ws' := [(h, .inr (7, [.ref r1, .ref q2, .int 0])), (q2, .inl (K.2.2.1 0, 64, .inl zb_z))]) 0 0 dX7_init_14 hD rfl rfl (by decide) gwX7 tyX7_ok nmX7 bf_X7_15 rfl rfl (tyX7_ok 0 (by decide)) rfl rfl (Nat.le_of_ble_eq_true rfl) rfl (fun hD => ?_)
  exact zb_vret hG dX7_init_17 hD (fun i => ([q2] : List Nat).getD i 0) [0, 1] rfl rfl rfl

set_option maxRecDepth 20000 in
theorem bo_X6 : Cond.methodLink RX6 3 objectInit ∈ lw_good := zc_g1 98 rfl rfl
set_option maxRecDepth 20000 in
theorem bf_X6_9 : Cond.fieldLink RX6 9 RX6 "bytes" "[I" ∈ lw_good := zc_g1 101 rfl rfl
set_option maxRecDepth 20000 in
theorem bk_X6_15 : Cond.classLink RX6 15 RX1 ∈ lw_good := zc_g1 99 rfl rfl
set_option maxRecDepth 20000 in
theorem bl_X6_17 : Cond.methodLinkNest RX6 17 yX1_init "NextFigures" ∈ lw_nest := zc_n1 100 rfl rfl
set_option maxRecDepth 20000 in
theorem bf_X6_18 : Cond.fieldLink RX6 18 RX6 "lines" "LNextFigures$Lines;" ∈ lw_good := zc_g1 104 rfl rfl
theorem b_X6 (K : zc_K) (h  : Nat) : zb_M K yX6_init cX6_init 1 { frames := 2, cells := 5, slots := 142, locals := 40 } 5 142 [.ref h] [(h, .inr (6, [.null, .int 0, .null, .int 0, .int 0, .int 0, .int 0]))] (fun q => [(h, .inr (6, [.ref (q 0), .int 0, .ref (q 1), .int 0, .int 0, .int 0, .int 0])), ((q 0), .inl (K.2.2.1 0, 120, .inl zb_z)), ((q 1), .inr (1, [.int 0, .ref (q 2), .ref (q 3), .ref (q 4)])), ((q 2), .inl (K.2.2.1 0, 6, .inl zb_z)), ((q 3), .inl (K.2.2.1 0, 6, .inl zb_z)), ((q 4), .inl (K.2.2.1 0, 6, .inl zb_z))]) := by
  refine zb_start RX6 pfX6_init rfl (Nat.le_of_ble_eq_true rfl) rfl (fun G A hG hA hD => ?_)
  have hB : ∀ k n, zc_B 1 RX6 cX6_init (zg_up G k n) := fun _ _ => hG.1
  refine zr_aload_n (hB 0 0) 0 dX6_init_0 rfl ?_
  refine zb_objInit hG dX6_init_1 bo_X6 b_oi b_oc (Nat.le_of_ble_eq_true rfl) (Nat.le_of_ble_eq_true rfl) ?_
  refine zr_aload_n (hB 0 0) 0 dX6_init_4 rfl ?_
  refine zr_bipush (hB 0 0) dX6_init_5 rfl (fun z1 hz1 => ?_)
  refine zb_newa hG hA (t := 0) (ty := .int) (N := 120) (a0 := (120, .inl zb_z)) dX6_init_7 hD ba_I rfl rfl zb_raI (fun _ => rfl) (by omega) (by decide) (Nat.le_of_ble_eq_true rfl) (Nat.le_of_ble_eq_true rfl) (fun q2 hD => ?_)
  refine zb_putF hG (ws' := [(h, .inr (6, [.ref q2, .int 0, .null, .int 0, .int 0, .int 0, .int 0])), (q2, .inl (K.2.2.1 0, 120, .inl zb_z))]) 0 0 dX6_init_9 hD rfl rfl (by decide) gwX6 tyX6_ok nmX6 bf_X6_9 rfl rfl (tyX6_ok 0 (by decide)) rfl rfl (Nat.le_of_ble_eq_true rfl) rfl (fun hD => ?_)
  refine zr_aload_n (hB 1 120) 0 dX6_init_12 rfl ?_
  refine zb_new hG hA (ci := 1) (fs := [.int 0, .null, .null, .null]) dX6_init_13 hD gwX1 tyX1_ok bk_X6_15 bn_X1 bi_X1 rfl bd_X1 (Nat.le_of_ble_eq_true rfl) (Nat.le_of_ble_eq_true rfl) (fun q3 hD => ?_)
  refine zr_dup (hB 2 124) dX6_init_16 rfl ?_
  refine zb_callI hG hA (nn := 0) (rest := [.ref q3, .ref h]) (As := []) (wr := [(h, .inr (6, [.ref q2, .int 0, .null, .int 0, .int 0, .int 0, .int 0])), (q2, .inl (K.2.2.1 0, 120, .inl zb_z))]) 2 [0, 1] dX6_init_17 hD bc_X1_init bi_X1 ⟨by decide +kernel, by decide +kernel, by decide +kernel⟩ bl_X6_17 bm_X1_init rfl (b_X1 K q3 ) rfl rfl (Nat.le_of_ble_eq_true rfl) ⟨(Nat.le_of_ble_eq_true rfl), (Nat.le_of_ble_eq_true rfl), rfl, rfl⟩ (Nat.le_of_ble_eq_true rfl) (Nat.le_of_ble_eq_true rfl) rfl rfl rfl (by decide) (fun q4 hD => ?_)
  refine zb_putF hG (ws' := [(h, .inr (6, [.ref q2, .int 0, .ref q3, .int 0, .int 0, .int 0, .int 0])), (q2, .inl (K.2.2.1 0, 120, .inl zb_z)), (q3, .inr (1, [.int 0, .ref (q4 0), .ref (q4 1), .ref (q4 2)])), ((q4 0), .inl (K.2.2.1 0, 6, .inl zb_z)), ((q4 1), .inl (K.2.2.1 0, 6, .inl zb_z)), ((q4 2), .inl (K.2.2.1 0, 6, .inl zb_z))]) 0 2 dX6_init_20 hD rfl rfl (by decide) gwX6 tyX6_ok nmX6 bf_X6_18 rfl rfl (tyX6_ok 2 (by decide)) rfl rfl (Nat.le_of_ble_eq_true rfl) rfl (fun hD => ?_)
  exact zb_vret hG dX6_init_23 hD (fun i => ([q2, q3, (q4 0), (q4 1), (q4 2)] : List Nat).getD i 0) [0, 1, 2, 3, 4, 5] rfl rfl rfl

set_option maxRecDepth 20000 in
theorem bo_X3 : Cond.methodLink RX3 3 objectInit ∈ lw_good := zc_g1 132 rfl rfl
set_option maxRecDepth 20000 in
theorem bf_X3_9 : Cond.fieldLink RX3 9 RX3 "told" "[I" ∈ lw_good := zc_g1 156 rfl rfl
set_option maxRecDepth 20000 in
theorem bf_X3_15 : Cond.fieldLink RX3 15 RX3 "differences" "[I" ∈ lw_good := zc_g1 157 rfl rfl
set_option maxRecDepth 20000 in
theorem bf_X3_18 : Cond.fieldLink RX3 18 RX3 "sorted" "[I" ∈ lw_good := zc_g1 162 rfl rfl
set_option maxRecDepth 20000 in
theorem bf_X3_21 : Cond.fieldLink RX3 21 RX3 "choice" "[I" ∈ lw_good := zc_g1 165 rfl rfl
set_option maxRecDepth 20000 in
theorem bf_X3_24 : Cond.fieldLink RX3 24 RX3 "rows" "LNextFigures$Rows;" ∈ lw_good := zc_g1 151 rfl rfl
set_option maxRecDepth 20000 in
theorem bf_X3_28 : Cond.fieldLink RX3 28 RX3 "tellers" "LNextFigures$Lines;" ∈ lw_good := zc_g1 152 rfl rfl
set_option maxRecDepth 20000 in
theorem bk_X3_32 : Cond.classLink RX3 32 RX7 ∈ lw_good := zc_g1 133 rfl rfl
set_option maxRecDepth 20000 in
theorem bl_X3_34 : Cond.methodLinkNest RX3 34 yX7_init "NextFigures" ∈ lw_nest := zc_n1 135 rfl rfl
set_option maxRecDepth 20000 in
theorem bf_X3_37 : Cond.fieldLink RX3 37 RX3 "view" "LNextFigures$View;" ∈ lw_good := zc_g1 153 rfl rfl
theorem b_X3 (K : zc_K) (h r1 r2 : Nat) : zb_M K yX3_init cX3_init 3 { frames := 2, cells := 6, slots := 643, locals := 41 } 6 643 [.ref h, .ref r1, .ref r2] [(h, .inr (3, [.null, .null, .null, .int 0, .int 0, .null, .null, .int 0, .int 0, .null, .int 0, .null, .int 0, .int 0]))] (fun q => [(h, .inr (3, [.ref r1, .ref r2, .ref (q 4), .int 0, .int 0, .ref (q 0), .ref (q 1), .int 0, .int 0, .ref (q 2), .int 0, .ref (q 3), .int 0, .int 0])), ((q 0), .inl (K.2.2.1 0, 384, .inl zb_z)), ((q 1), .inl (K.2.2.1 0, 64, .inl zb_z)), ((q 2), .inl (K.2.2.1 0, 64, .inl zb_z)), ((q 3), .inl (K.2.2.1 0, 64, .inl zb_z)), ((q 4), .inr (7, [.ref r1, .ref (q 5), .int 0])), ((q 5), .inl (K.2.2.1 0, 64, .inl zb_z))]) := by
  refine zb_start RX3 pfX3_init rfl (Nat.le_of_ble_eq_true rfl) rfl (fun G A hG hA hD => ?_)
  have hB : ∀ k n, zc_B 3 RX3 cX3_init (zg_up G k n) := fun _ _ => hG.1
  refine zr_aload_n (hB 0 0) 0 dX3_init_0 rfl ?_
  refine zb_objInit hG dX3_init_1 bo_X3 b_oi b_oc (Nat.le_of_ble_eq_true rfl) (Nat.le_of_ble_eq_true rfl) ?_
  refine zr_aload_n (hB 0 0) 0 dX3_init_4 rfl ?_
  refine zr_sipush (hB 0 0) dX3_init_5 rfl (fun z1 hz1 => ?_)
  refine zb_newa hG hA (t := 0) (ty := .int) (N := 384) (a0 := (384, .inl zb_z)) dX3_init_8 hD ba_I rfl rfl zb_raI (fun _ => rfl) (by omega) (by decide) (Nat.le_of_ble_eq_true rfl) (Nat.le_of_ble_eq_true rfl) (fun q2 hD => ?_)
  refine zb_putF hG (ws' := [(h, .inr (3, [.null, .null, .null, .int 0, .int 0, .ref q2, .null, .int 0, .int 0, .null, .int 0, .null, .int 0, .int 0])), (q2, .inl (K.2.2.1 0, 384, .inl zb_z))]) 0 5 dX3_init_10 hD rfl rfl (by decide) gwX3 tyX3_ok nmX3 bf_X3_9 rfl rfl (tyX3_ok 5 (by decide)) rfl rfl (Nat.le_of_ble_eq_true rfl) rfl (fun hD => ?_)
  refine zr_aload_n (hB 1 384) 0 dX3_init_13 rfl ?_
  refine zr_bipush (hB 1 384) dX3_init_14 rfl (fun z3 hz3 => ?_)
  refine zb_newa hG hA (t := 0) (ty := .int) (N := 64) (a0 := (64, .inl zb_z)) dX3_init_16 hD ba_I rfl rfl zb_raI (fun _ => rfl) (by omega) (by decide) (Nat.le_of_ble_eq_true rfl) (Nat.le_of_ble_eq_true rfl) (fun q4 hD => ?_)
  refine zb_putF hG (ws' := [(h, .inr (3, [.null, .null, .null, .int 0, .int 0, .ref q2, .ref q4, .int 0, .int 0, .null, .int 0, .null, .int 0, .int 0])), (q2, .inl (K.2.2.1 0, 384, .inl zb_z)), (q4, .inl (K.2.2.1 0, 64, .inl zb_z))]) 0 6 dX3_init_18 hD rfl rfl (by decide) gwX3 tyX3_ok nmX3 bf_X3_15 rfl rfl (tyX3_ok 6 (by decide)) rfl rfl (Nat.le_of_ble_eq_true rfl) rfl (fun hD => ?_)
  refine zr_aload_n (hB 2 448) 0 dX3_init_21 rfl ?_
  refine zr_bipush (hB 2 448) dX3_init_22 rfl (fun z5 hz5 => ?_)
  refine zb_newa hG hA (t := 0) (ty := .int) (N := 64) (a0 := (64, .inl zb_z)) dX3_init_24 hD ba_I rfl rfl zb_raI (fun _ => rfl) (by omega) (by decide) (Nat.le_of_ble_eq_true rfl) (Nat.le_of_ble_eq_true rfl) (fun q6 hD => ?_)
  refine zb_putF hG (ws' := [(h, .inr (3, [.null, .null, .null, .int 0, .int 0, .ref q2, .ref q4, .int 0, .int 0, .ref q6, .int 0, .null, .int 0, .int 0])), (q2, .inl (K.2.2.1 0, 384, .inl zb_z)), (q4, .inl (K.2.2.1 0, 64, .inl zb_z)), (q6, .inl (K.2.2.1 0, 64, .inl zb_z))]) 0 9 dX3_init_26 hD rfl rfl (by decide) gwX3 tyX3_ok nmX3 bf_X3_18 rfl rfl (tyX3_ok 9 (by decide)) rfl rfl (Nat.le_of_ble_eq_true rfl) rfl (fun hD => ?_)
  refine zr_aload_n (hB 3 512) 0 dX3_init_29 rfl ?_
  refine zr_bipush (hB 3 512) dX3_init_30 rfl (fun z7 hz7 => ?_)
  refine zb_newa hG hA (t := 0) (ty := .int) (N := 64) (a0 := (64, .inl zb_z)) dX3_init_32 hD ba_I rfl rfl zb_raI (fun _ => rfl) (by omega) (by decide) (Nat.le_of_ble_eq_true rfl) (Nat.le_of_ble_eq_true rfl) (fun q8 hD => ?_)
  refine zb_putF hG (ws' := [(h, .inr (3, [.null, .null, .null, .int 0, .int 0, .ref q2, .ref q4, .int 0, .int 0, .ref q6, .int 0, .ref q8, .int 0, .int 0])), (q2, .inl (K.2.2.1 0, 384, .inl zb_z)), (q4, .inl (K.2.2.1 0, 64, .inl zb_z)), (q6, .inl (K.2.2.1 0, 64, .inl zb_z)), (q8, .inl (K.2.2.1 0, 64, .inl zb_z))]) 0 11 dX3_init_34 hD rfl rfl (by decide) gwX3 tyX3_ok nmX3 bf_X3_21 rfl rfl (tyX3_ok 11 (by decide)) rfl rfl (Nat.le_of_ble_eq_true rfl) rfl (fun hD => ?_)
  refine zr_aload_n (hB 4 576) 0 dX3_init_37 rfl ?_
  refine zr_aload_n (hB 4 576) 1 dX3_init_38 rfl ?_
  refine zb_putF hG (ws' := [(h, .inr (3, [.ref r1, .null, .null, .int 0, .int 0, .ref q2, .ref q4, .int 0, .int 0, .ref q6, .int 0, .ref q8, .int 0, .int 0])), (q2, .inl (K.2.2.1 0, 384, .inl zb_z)), (q4, .inl (K.2.2.1 0, 64, .inl zb_z)), (q6, .inl (K.2.2.1 0, 64, .inl zb_z)), (q8, .inl (K.2.2.1 0, 64, .inl zb_z))]) 0 0 dX3_init_39 hD rfl rfl (by decide) gwX3 tyX3_ok nmX3 bf_X3_24 rfl rfl (tyX3_ok 0 (by decide)) rfl rfl (Nat.le_of_ble_eq_true rfl) rfl (fun hD => ?_)
  refine zr_aload_n (hB 4 576) 0 dX3_init_42 rfl ?_
  refine zr_aload_n (hB 4 576) 2 dX3_init_43 rfl ?_
  refine zb_putF hG (ws' := [(h, .inr (3, [.ref r1, .ref r2, .null, .int 0, .int 0, .ref q2, .ref q4, .int 0, .int 0, .ref q6, .int 0, .ref q8, .int 0, .int 0])), (q2, .inl (K.2.2.1 0, 384, .inl zb_z)), (q4, .inl (K.2.2.1 0, 64, .inl zb_z)), (q6, .inl (K.2.2.1 0, 64, .inl zb_z)), (q8, .inl (K.2.2.1 0, 64, .inl zb_z))]) 0 1 dX3_init_44 hD rfl rfl (by decide) gwX3 tyX3_ok nmX3 bf_X3_28 rfl rfl (tyX3_ok 1 (by decide)) rfl rfl (Nat.le_of_ble_eq_true rfl) rfl (fun hD => ?_)
  refine zr_aload_n (hB 4 576) 0 dX3_init_47 rfl ?_
  refine zb_new hG hA (ci := 7) (fs := [.null, .null, .int 0]) dX3_init_48 hD gwX7 tyX7_ok bk_X3_32 bn_X7 bi_X7 rfl bd_X7 (Nat.le_of_ble_eq_true rfl) (Nat.le_of_ble_eq_true rfl) (fun q9 hD => ?_)
  refine zr_dup (hB 5 579) dX3_init_51 rfl ?_
  refine zr_aload_n (hB 5 579) 1 dX3_init_52 rfl ?_
  refine zb_callI hG hA (nn := 1) (rest := [.ref q9, .ref h]) (As := [.ref r1]) (wr := [(h, .inr (3, [.ref r1, .ref r2, .null, .int 0, .int 0, .ref q2, .ref q4, .int 0, .int 0, .ref q6, .int 0, .ref q8, .int 0, .int 0])), (q2, .inl (K.2.2.1 0, 384, .inl zb_z)), (q4, .inl (K.2.2.1 0, 64, .inl zb_z)), (q6, .inl (K.2.2.1 0, 64, .inl zb_z)), (q8, .inl (K.2.2.1 0, 64, .inl zb_z))]) 5 [0, 1, 2, 3, 4] dX3_init_53 hD bc_X7_init bi_X7 ⟨by decide +kernel, by decide +kernel, by decide +kernel⟩ bl_X3_34 bm_X7_init rfl (b_X7 K q9 r1) rfl rfl (Nat.le_of_ble_eq_true rfl) ⟨(Nat.le_of_ble_eq_true rfl), (Nat.le_of_ble_eq_true rfl), rfl, rfl⟩ (Nat.le_of_ble_eq_true rfl) (Nat.le_of_ble_eq_true rfl) rfl rfl rfl (by decide) (fun q10 hD => ?_)
  refine zb_putF hG (ws' := [(h, .inr (3, [.ref r1, .ref r2, .ref q9, .int 0, .int 0, .ref q2, .ref q4, .int 0, .int 0, .ref q6, .int 0, .ref q8, .int 0, .int 0])), (q2, .inl (K.2.2.1 0, 384, .inl zb_z)), (q4, .inl (K.2.2.1 0, 64, .inl zb_z)), (q6, .inl (K.2.2.1 0, 64, .inl zb_z)), (q8, .inl (K.2.2.1 0, 64, .inl zb_z)), (q9, .inr (7, [.ref r1, .ref (q10 0), .int 0])), ((q10 0), .inl (K.2.2.1 0, 64, .inl zb_z))]) 0 2 dX3_init_56 hD rfl rfl (by decide) gwX3 tyX3_ok nmX3 bf_X3_37 rfl rfl (tyX3_ok 2 (by decide)) rfl rfl (Nat.le_of_ble_eq_true rfl) rfl (fun hD => ?_)
  exact zb_vret hG dX3_init_59 hD (fun i => ([q2, q4, q6, q8, q9, (q10 0)] : List Nat).getD i 0) [0, 1, 2, 3, 4, 5, 6] rfl rfl rfl

set_option maxRecDepth 20000 in
theorem bo_X0 : Cond.methodLink RX0 3 objectInit ∈ lw_good := zc_g1 205 rfl rfl
set_option maxRecDepth 20000 in
theorem bf_X0_9 : Cond.fieldLink RX0 9 RX0 "days" "[I" ∈ lw_good := zc_g1 211 rfl rfl
set_option maxRecDepth 20000 in
theorem bf_X0_15 : Cond.fieldLink RX0 15 RX0 "sums" "[I" ∈ lw_good := zc_g1 213 rfl rfl
set_option maxRecDepth 20000 in
theorem bf_X0_18 : Cond.fieldLink RX0 18 RX0 "followed" "[I" ∈ lw_good := zc_g1 215 rfl rfl
set_option maxRecDepth 20000 in
theorem bf_X0_21 : Cond.fieldLink RX0 21 RX0 "level" "[J" ∈ lw_good := zc_g1 218 rfl rfl
set_option maxRecDepth 20000 in
theorem bf_X0_25 : Cond.fieldLink RX0 25 RX0 "slope" "[J" ∈ lw_good := zc_g1 219 rfl rfl
set_option maxRecDepth 20000 in
theorem bf_X0_28 : Cond.fieldLink RX0 28 RX0 "rows" "LNextFigures$Rows;" ∈ lw_good := zc_g1 208 rfl rfl
set_option maxRecDepth 20000 in
theorem bk_X0_32 : Cond.classLink RX0 32 RX7 ∈ lw_good := zc_g1 206 rfl rfl
set_option maxRecDepth 20000 in
theorem bl_X0_34 : Cond.methodLinkNest RX0 34 yX7_init "NextFigures" ∈ lw_nest := zc_n1 207 rfl rfl
set_option maxRecDepth 20000 in
theorem bf_X0_37 : Cond.fieldLink RX0 37 RX0 "view" "LNextFigures$View;" ∈ lw_good := zc_g1 209 rfl rfl
theorem b_X0 (K : zc_K) (h r1 : Nat) : zb_M K yX0_init cX0_init 2 { frames := 2, cells := 7, slots := 615, locals := 41 } 7 615 [.ref h, .ref r1] [(h, .inr (0, [.null, .null, .int 0, .null, .null, .null, .int 0, .int 0, .null, .null]))] (fun q => [(h, .inr (0, [.ref r1, .ref (q 5), .int 0, .ref (q 0), .ref (q 1), .ref (q 2), .int 0, .int 0, .ref (q 3), .ref (q 4)])), ((q 0), .inl (K.2.2.1 0, 121, .inl zb_z)), ((q 1), .inl (K.2.2.1 0, 121, .inl zb_z)), ((q 2), .inl (K.2.2.1 0, 64, .inl zb_z)), ((q 3), .inl (K.2.2.1 2, 121, .inr (.inl zb_zl))), ((q 4), .inl (K.2.2.1 2, 121, .inr (.inl zb_zl))), ((q 5), .inr (7, [.ref r1, .ref (q 6), .int 0])), ((q 6), .inl (K.2.2.1 0, 64, .inl zb_z))]) := by
  refine zb_start RX0 pfX0_init rfl (Nat.le_of_ble_eq_true rfl) rfl (fun G A hG hA hD => ?_)
  have hB : ∀ k n, zc_B 2 RX0 cX0_init (zg_up G k n) := fun _ _ => hG.1
  refine zr_aload_n (hB 0 0) 0 dX0_init_0 rfl ?_
  refine zb_objInit hG dX0_init_1 bo_X0 b_oi b_oc (Nat.le_of_ble_eq_true rfl) (Nat.le_of_ble_eq_true rfl) ?_
  refine zr_aload_n (hB 0 0) 0 dX0_init_4 rfl ?_
  refine zr_bipush (hB 0 0) dX0_init_5 rfl (fun z1 hz1 => ?_)
  refine zb_newa hG hA (t := 0) (ty := .int) (N := 121) (a0 := (121, .inl zb_z)) dX0_init_7 hD ba_I rfl rfl zb_raI (fun _ => rfl) (by omega) (by decide) (Nat.le_of_ble_eq_true rfl) (Nat.le_of_ble_eq_true rfl) (fun q2 hD => ?_)
  refine zb_putF hG (ws' := [(h, .inr (0, [.null, .null, .int 0, .ref q2, .null, .null, .int 0, .int 0, .null, .null])), (q2, .inl (K.2.2.1 0, 121, .inl zb_z))]) 0 3 dX0_init_9 hD rfl rfl (by decide) gwX0 tyX0_ok nmX0 bf_X0_9 rfl rfl (tyX0_ok 3 (by decide)) rfl rfl (Nat.le_of_ble_eq_true rfl) rfl (fun hD => ?_)
  refine zr_aload_n (hB 1 121) 0 dX0_init_12 rfl ?_
  refine zr_bipush (hB 1 121) dX0_init_13 rfl (fun z3 hz3 => ?_)
  refine zb_newa hG hA (t := 0) (ty := .int) (N := 121) (a0 := (121, .inl zb_z)) dX0_init_15 hD ba_I rfl rfl zb_raI (fun _ => rfl) (by omega) (by decide) (Nat.le_of_ble_eq_true rfl) (Nat.le_of_ble_eq_true rfl) (fun q4 hD => ?_)
  refine zb_putF hG (ws' := [(h, .inr (0, [.null, .null, .int 0, .ref q2, .ref q4, .null, .int 0, .int 0, .null, .null])), (q2, .inl (K.2.2.1 0, 121, .inl zb_z)), (q4, .inl (K.2.2.1 0, 121, .inl zb_z))]) 0 4 dX0_init_17 hD rfl rfl (by decide) gwX0 tyX0_ok nmX0 bf_X0_15 rfl rfl (tyX0_ok 4 (by decide)) rfl rfl (Nat.le_of_ble_eq_true rfl) rfl (fun hD => ?_)
  refine zr_aload_n (hB 2 242) 0 dX0_init_20 rfl ?_
  refine zr_bipush (hB 2 242) dX0_init_21 rfl (fun z5 hz5 => ?_)
  refine zb_newa hG hA (t := 0) (ty := .int) (N := 64) (a0 := (64, .inl zb_z)) dX0_init_23 hD ba_I rfl rfl zb_raI (fun _ => rfl) (by omega) (by decide) (Nat.le_of_ble_eq_true rfl) (Nat.le_of_ble_eq_true rfl) (fun q6 hD => ?_)
  refine zb_putF hG (ws' := [(h, .inr (0, [.null, .null, .int 0, .ref q2, .ref q4, .ref q6, .int 0, .int 0, .null, .null])), (q2, .inl (K.2.2.1 0, 121, .inl zb_z)), (q4, .inl (K.2.2.1 0, 121, .inl zb_z)), (q6, .inl (K.2.2.1 0, 64, .inl zb_z))]) 0 5 dX0_init_25 hD rfl rfl (by decide) gwX0 tyX0_ok nmX0 bf_X0_18 rfl rfl (tyX0_ok 5 (by decide)) rfl rfl (Nat.le_of_ble_eq_true rfl) rfl (fun hD => ?_)
  refine zr_aload_n (hB 3 306) 0 dX0_init_28 rfl ?_
  refine zr_bipush (hB 3 306) dX0_init_29 rfl (fun z7 hz7 => ?_)
  refine zb_newa hG hA (t := 2) (ty := .long) (N := 121) (a0 := (121, .inr (.inl zb_zl))) dX0_init_31 hD ba_J rfl rfl zb_raJ (fun _ => rfl) (by omega) (by decide) (Nat.le_of_ble_eq_true rfl) (Nat.le_of_ble_eq_true rfl) (fun q8 hD => ?_)
  refine zb_putF hG (ws' := [(h, .inr (0, [.null, .null, .int 0, .ref q2, .ref q4, .ref q6, .int 0, .int 0, .ref q8, .null])), (q2, .inl (K.2.2.1 0, 121, .inl zb_z)), (q4, .inl (K.2.2.1 0, 121, .inl zb_z)), (q6, .inl (K.2.2.1 0, 64, .inl zb_z)), (q8, .inl (K.2.2.1 2, 121, .inr (.inl zb_zl)))]) 0 8 dX0_init_33 hD rfl rfl (by decide) gwX0 tyX0_ok nmX0 bf_X0_21 rfl rfl (tyX0_ok 8 (by decide)) rfl rfl (Nat.le_of_ble_eq_true rfl) rfl (fun hD => ?_)
  refine zr_aload_n (hB 4 427) 0 dX0_init_36 rfl ?_
  refine zr_bipush (hB 4 427) dX0_init_37 rfl (fun z9 hz9 => ?_)
  refine zb_newa hG hA (t := 2) (ty := .long) (N := 121) (a0 := (121, .inr (.inl zb_zl))) dX0_init_39 hD ba_J rfl rfl zb_raJ (fun _ => rfl) (by omega) (by decide) (Nat.le_of_ble_eq_true rfl) (Nat.le_of_ble_eq_true rfl) (fun q10 hD => ?_)
  refine zb_putF hG (ws' := [(h, .inr (0, [.null, .null, .int 0, .ref q2, .ref q4, .ref q6, .int 0, .int 0, .ref q8, .ref q10])), (q2, .inl (K.2.2.1 0, 121, .inl zb_z)), (q4, .inl (K.2.2.1 0, 121, .inl zb_z)), (q6, .inl (K.2.2.1 0, 64, .inl zb_z)), (q8, .inl (K.2.2.1 2, 121, .inr (.inl zb_zl))), (q10, .inl (K.2.2.1 2, 121, .inr (.inl zb_zl)))]) 0 9 dX0_init_41 hD rfl rfl (by decide) gwX0 tyX0_ok nmX0 bf_X0_25 rfl rfl (tyX0_ok 9 (by decide)) rfl rfl (Nat.le_of_ble_eq_true rfl) rfl (fun hD => ?_)
  refine zr_aload_n (hB 5 548) 0 dX0_init_44 rfl ?_
  refine zr_aload_n (hB 5 548) 1 dX0_init_45 rfl ?_
  refine zb_putF hG (ws' := [(h, .inr (0, [.ref r1, .null, .int 0, .ref q2, .ref q4, .ref q6, .int 0, .int 0, .ref q8, .ref q10])), (q2, .inl (K.2.2.1 0, 121, .inl zb_z)), (q4, .inl (K.2.2.1 0, 121, .inl zb_z)), (q6, .inl (K.2.2.1 0, 64, .inl zb_z)), (q8, .inl (K.2.2.1 2, 121, .inr (.inl zb_zl))), (q10, .inl (K.2.2.1 2, 121, .inr (.inl zb_zl)))]) 0 0 dX0_init_46 hD rfl rfl (by decide) gwX0 tyX0_ok nmX0 bf_X0_28 rfl rfl (tyX0_ok 0 (by decide)) rfl rfl (Nat.le_of_ble_eq_true rfl) rfl (fun hD => ?_)
  refine zr_aload_n (hB 5 548) 0 dX0_init_49 rfl ?_
  refine zb_new hG hA (ci := 7) (fs := [.null, .null, .int 0]) dX0_init_50 hD gwX7 tyX7_ok bk_X0_32 bn_X7 bi_X7 rfl bd_X7 (Nat.le_of_ble_eq_true rfl) (Nat.le_of_ble_eq_true rfl) (fun q11 hD => ?_)
  refine zr_dup (hB 6 551) dX0_init_53 rfl ?_
  refine zr_aload_n (hB 6 551) 1 dX0_init_54 rfl ?_
  refine zb_callI hG hA (nn := 1) (rest := [.ref q11, .ref h]) (As := [.ref r1]) (wr := [(h, .inr (0, [.ref r1, .null, .int 0, .ref q2, .ref q4, .ref q6, .int 0, .int 0, .ref q8, .ref q10])), (q2, .inl (K.2.2.1 0, 121, .inl zb_z)), (q4, .inl (K.2.2.1 0, 121, .inl zb_z)), (q6, .inl (K.2.2.1 0, 64, .inl zb_z)), (q8, .inl (K.2.2.1 2, 121, .inr (.inl zb_zl))), (q10, .inl (K.2.2.1 2, 121, .inr (.inl zb_zl)))]) 6 [0, 1, 2, 3, 4, 5] dX0_init_55 hD bc_X7_init bi_X7 ⟨by decide +kernel, by decide +kernel, by decide +kernel⟩ bl_X0_34 bm_X7_init rfl (b_X7 K q11 r1) rfl rfl (Nat.le_of_ble_eq_true rfl) ⟨(Nat.le_of_ble_eq_true rfl), (Nat.le_of_ble_eq_true rfl), rfl, rfl⟩ (Nat.le_of_ble_eq_true rfl) (Nat.le_of_ble_eq_true rfl) rfl rfl rfl (by decide) (fun q12 hD => ?_)
  refine zb_putF hG (ws' := [(h, .inr (0, [.ref r1, .ref q11, .int 0, .ref q2, .ref q4, .ref q6, .int 0, .int 0, .ref q8, .ref q10])), (q2, .inl (K.2.2.1 0, 121, .inl zb_z)), (q4, .inl (K.2.2.1 0, 121, .inl zb_z)), (q6, .inl (K.2.2.1 0, 64, .inl zb_z)), (q8, .inl (K.2.2.1 2, 121, .inr (.inl zb_zl))), (q10, .inl (K.2.2.1 2, 121, .inr (.inl zb_zl))), (q11, .inr (7, [.ref r1, .ref (q12 0), .int 0])), ((q12 0), .inl (K.2.2.1 0, 64, .inl zb_z))]) 0 1 dX0_init_58 hD rfl rfl (by decide) gwX0 tyX0_ok nmX0 bf_X0_37 rfl rfl (tyX0_ok 1 (by decide)) rfl rfl (Nat.le_of_ble_eq_true rfl) rfl (fun hD => ?_)
  exact zb_vret hG dX0_init_61 hD (fun i => ([q2, q4, q6, q8, q10, q11, (q12 0)] : List Nat).getD i 0) [0, 1, 2, 3, 4, 5, 6, 7] rfl rfl rfl

set_option maxRecDepth 20000 in
theorem bo_X2 : Cond.methodLink RX2 3 objectInit ∈ lw_good := zc_g2 7 rfl rfl
set_option maxRecDepth 20000 in
theorem bf_X2_9 : Cond.fieldLink RX2 9 RX2 "shop" "[I" ∈ lw_good := zc_g2 10 rfl rfl
set_option maxRecDepth 20000 in
theorem bf_X2_15 : Cond.fieldLink RX2 15 RX2 "teller" "[I" ∈ lw_good := zc_g2 12 rfl rfl
set_option maxRecDepth 20000 in
theorem bf_X2_18 : Cond.fieldLink RX2 18 RX2 "on" "[I" ∈ lw_good := zc_g2 14 rfl rfl
set_option maxRecDepth 20000 in
theorem bf_X2_21 : Cond.fieldLink RX2 21 RX2 "day" "[I" ∈ lw_good := zc_g2 16 rfl rfl
set_option maxRecDepth 20000 in
theorem bf_X2_24 : Cond.fieldLink RX2 24 RX2 "told" "[I" ∈ lw_good := zc_g2 18 rfl rfl
set_option maxRecDepth 20000 in
theorem bf_X2_27 : Cond.fieldLink RX2 27 RX2 "width" "[I" ∈ lw_good := zc_g2 20 rfl rfl
set_option maxRecDepth 20000 in
theorem bf_X2_30 : Cond.fieldLink RX2 30 RX2 "acted" "[Z" ∈ lw_good := zc_g2 22 rfl rfl
theorem b_X2 (K : zc_K) (h  : Nat) : zb_M K yX2_init cX2_init 1 { frames := 1, cells := 7, slots := 168, locals := 20 } 7 168 [.ref h] [(h, .inr (2, [.int 0, .null, .null, .null, .null, .null, .null, .null]))] (fun q => [(h, .inr (2, [.int 0, .ref (q 0), .ref (q 1), .ref (q 2), .ref (q 3), .ref (q 4), .ref (q 5), .ref (q 6)])), ((q 0), .inl (K.2.2.1 0, 24, .inl zb_z)), ((q 1), .inl (K.2.2.1 0, 24, .inl zb_z)), ((q 2), .inl (K.2.2.1 0, 24, .inl zb_z)), ((q 3), .inl (K.2.2.1 0, 24, .inl zb_z)), ((q 4), .inl (K.2.2.1 0, 24, .inl zb_z)), ((q 5), .inl (K.2.2.1 0, 24, .inl zb_z)), ((q 6), .inl (K.2.2.1 1, 24, .inl zb_z))]) := by
  refine zb_start RX2 pfX2_init rfl (Nat.le_of_ble_eq_true rfl) rfl (fun G A hG hA hD => ?_)
  have hB : ∀ k n, zc_B 1 RX2 cX2_init (zg_up G k n) := fun _ _ => hG.1
  refine zr_aload_n (hB 0 0) 0 dX2_init_0 rfl ?_
  refine zb_objInit hG dX2_init_1 bo_X2 b_oi b_oc (Nat.le_of_ble_eq_true rfl) (Nat.le_of_ble_eq_true rfl) ?_
  refine zr_aload_n (hB 0 0) 0 dX2_init_4 rfl ?_
  refine zr_bipush (hB 0 0) dX2_init_5 rfl (fun z1 hz1 => ?_)
  refine zb_newa hG hA (t := 0) (ty := .int) (N := 24) (a0 := (24, .inl zb_z)) dX2_init_7 hD ba_I rfl rfl zb_raI (fun _ => rfl) (by omega) (by decide) (Nat.le_of_ble_eq_true rfl) (Nat.le_of_ble_eq_true rfl) (fun q2 hD => ?_)
  refine zb_putF hG (ws' := [(h, .inr (2, [.int 0, .ref q2, .null, .null, .null, .null, .null, .null])), (q2, .inl (K.2.2.1 0, 24, .inl zb_z))]) 0 1 dX2_init_9 hD rfl rfl (by decide) gwX2 tyX2_ok nmX2 bf_X2_9 rfl rfl (tyX2_ok 1 (by decide)) rfl rfl (Nat.le_of_ble_eq_true rfl) rfl (fun hD => ?_)
  refine zr_aload_n (hB 1 24) 0 dX2_init_12 rfl ?_
  refine zr_bipush (hB 1 24) dX2_init_13 rfl (fun z3 hz3 => ?_)
  refine zb_newa hG hA (t := 0) (ty := .int) (N := 24) (a0 := (24, .inl zb_z)) dX2_init_15 hD ba_I rfl rfl zb_raI (fun _ => rfl) (by omega) (by decide) (Nat.le_of_ble_eq_true rfl) (Nat.le_of_ble_eq_true rfl) (fun q4 hD => ?_)
  refine zb_putF hG (ws' := [(h, .inr (2, [.int 0, .ref q2, .ref q4, .null, .null, .null, .null, .null])), (q2, .inl (K.2.2.1 0, 24, .inl zb_z)), (q4, .inl (K.2.2.1 0, 24, .inl zb_z))]) 0 2 dX2_init_17 hD rfl rfl (by decide) gwX2 tyX2_ok nmX2 bf_X2_15 rfl rfl (tyX2_ok 2 (by decide)) rfl rfl (Nat.le_of_ble_eq_true rfl) rfl (fun hD => ?_)
  refine zr_aload_n (hB 2 48) 0 dX2_init_20 rfl ?_
  refine zr_bipush (hB 2 48) dX2_init_21 rfl (fun z5 hz5 => ?_)
  refine zb_newa hG hA (t := 0) (ty := .int) (N := 24) (a0 := (24, .inl zb_z)) dX2_init_23 hD ba_I rfl rfl zb_raI (fun _ => rfl) (by omega) (by decide) (Nat.le_of_ble_eq_true rfl) (Nat.le_of_ble_eq_true rfl) (fun q6 hD => ?_)
  refine zb_putF hG (ws' := [(h, .inr (2, [.int 0, .ref q2, .ref q4, .ref q6, .null, .null, .null, .null])), (q2, .inl (K.2.2.1 0, 24, .inl zb_z)), (q4, .inl (K.2.2.1 0, 24, .inl zb_z)), (q6, .inl (K.2.2.1 0, 24, .inl zb_z))]) 0 3 dX2_init_25 hD rfl rfl (by decide) gwX2 tyX2_ok nmX2 bf_X2_18 rfl rfl (tyX2_ok 3 (by decide)) rfl rfl (Nat.le_of_ble_eq_true rfl) rfl (fun hD => ?_)
  refine zr_aload_n (hB 3 72) 0 dX2_init_28 rfl ?_
  refine zr_bipush (hB 3 72) dX2_init_29 rfl (fun z7 hz7 => ?_)
  refine zb_newa hG hA (t := 0) (ty := .int) (N := 24) (a0 := (24, .inl zb_z)) dX2_init_31 hD ba_I rfl rfl zb_raI (fun _ => rfl) (by omega) (by decide) (Nat.le_of_ble_eq_true rfl) (Nat.le_of_ble_eq_true rfl) (fun q8 hD => ?_)
  refine zb_putF hG (ws' := [(h, .inr (2, [.int 0, .ref q2, .ref q4, .ref q6, .ref q8, .null, .null, .null])), (q2, .inl (K.2.2.1 0, 24, .inl zb_z)), (q4, .inl (K.2.2.1 0, 24, .inl zb_z)), (q6, .inl (K.2.2.1 0, 24, .inl zb_z)), (q8, .inl (K.2.2.1 0, 24, .inl zb_z))]) 0 4 dX2_init_33 hD rfl rfl (by decide) gwX2 tyX2_ok nmX2 bf_X2_21 rfl rfl (tyX2_ok 4 (by decide)) rfl rfl (Nat.le_of_ble_eq_true rfl) rfl (fun hD => ?_)
  refine zr_aload_n (hB 4 96) 0 dX2_init_36 rfl ?_
  refine zr_bipush (hB 4 96) dX2_init_37 rfl (fun z9 hz9 => ?_)
  refine zb_newa hG hA (t := 0) (ty := .int) (N := 24) (a0 := (24, .inl zb_z)) dX2_init_39 hD ba_I rfl rfl zb_raI (fun _ => rfl) (by omega) (by decide) (Nat.le_of_ble_eq_true rfl) (Nat.le_of_ble_eq_true rfl) (fun q10 hD => ?_)
  refine zb_putF hG (ws' := [(h, .inr (2, [.int 0, .ref q2, .ref q4, .ref q6, .ref q8, .ref q10, .null, .null])), (q2, .inl (K.2.2.1 0, 24, .inl zb_z)), (q4, .inl (K.2.2.1 0, 24, .inl zb_z)), (q6, .inl (K.2.2.1 0, 24, .inl zb_z)), (q8, .inl (K.2.2.1 0, 24, .inl zb_z)), (q10, .inl (K.2.2.1 0, 24, .inl zb_z))]) 0 5 dX2_init_41 hD rfl rfl (by decide) gwX2 tyX2_ok nmX2 bf_X2_24 rfl rfl (tyX2_ok 5 (by decide)) rfl rfl (Nat.le_of_ble_eq_true rfl) rfl (fun hD => ?_)
  refine zr_aload_n (hB 5 120) 0 dX2_init_44 rfl ?_
  refine zr_bipush (hB 5 120) dX2_init_45 rfl (fun z11 hz11 => ?_)
  refine zb_newa hG hA (t := 0) (ty := .int) (N := 24) (a0 := (24, .inl zb_z)) dX2_init_47 hD ba_I rfl rfl zb_raI (fun _ => rfl) (by omega) (by decide) (Nat.le_of_ble_eq_true rfl) (Nat.le_of_ble_eq_true rfl) (fun q12 hD => ?_)
  refine zb_putF hG (ws' := [(h, .inr (2, [.int 0, .ref q2, .ref q4, .ref q6, .ref q8, .ref q10, .ref q12, .null])), (q2, .inl (K.2.2.1 0, 24, .inl zb_z)), (q4, .inl (K.2.2.1 0, 24, .inl zb_z)), (q6, .inl (K.2.2.1 0, 24, .inl zb_z)), (q8, .inl (K.2.2.1 0, 24, .inl zb_z)), (q10, .inl (K.2.2.1 0, 24, .inl zb_z)), (q12, .inl (K.2.2.1 0, 24, .inl zb_z))]) 0 6 dX2_init_49 hD rfl rfl (by decide) gwX2 tyX2_ok nmX2 bf_X2_27 rfl rfl (tyX2_ok 6 (by decide)) rfl rfl (Nat.le_of_ble_eq_true rfl) rfl (fun hD => ?_)
  refine zr_aload_n (hB 6 144) 0 dX2_init_52 rfl ?_
  refine zr_bipush (hB 6 144) dX2_init_53 rfl (fun z13 hz13 => ?_)
  refine zb_newa hG hA (t := 1) (ty := .boolean) (N := 24) (a0 := (24, .inl zb_z)) dX2_init_55 hD ba_Z rfl rfl zb_raZ (fun _ => rfl) (by omega) (by decide) (Nat.le_of_ble_eq_true rfl) (Nat.le_of_ble_eq_true rfl) (fun q14 hD => ?_)
  refine zb_putF hG (ws' := [(h, .inr (2, [.int 0, .ref q2, .ref q4, .ref q6, .ref q8, .ref q10, .ref q12, .ref q14])), (q2, .inl (K.2.2.1 0, 24, .inl zb_z)), (q4, .inl (K.2.2.1 0, 24, .inl zb_z)), (q6, .inl (K.2.2.1 0, 24, .inl zb_z)), (q8, .inl (K.2.2.1 0, 24, .inl zb_z)), (q10, .inl (K.2.2.1 0, 24, .inl zb_z)), (q12, .inl (K.2.2.1 0, 24, .inl zb_z)), (q14, .inl (K.2.2.1 1, 24, .inl zb_z))]) 0 7 dX2_init_57 hD rfl rfl (by decide) gwX2 tyX2_ok nmX2 bf_X2_30 rfl rfl (tyX2_ok 7 (by decide)) rfl rfl (Nat.le_of_ble_eq_true rfl) rfl (fun hD => ?_)
  exact zb_vret hG dX2_init_60 hD (fun i => ([q2, q4, q6, q8, q10, q12, q14] : List Nat).getD i 0) [0, 1, 2, 3, 4, 5, 6, 7] rfl rfl rfl

def zi_X5_11 : Nat → Int32 := upd zb_z 0 (Int32.ofInt (-1))
def zi_X5_15 : Nat → Int32 := upd zi_X5_11 1 (Int32.ofInt (-1))
def zi_X5_19 : Nat → Int32 := upd zi_X5_15 2 (Int32.ofInt (-1))
def zi_X5_23 : Nat → Int32 := upd zi_X5_19 3 (Int32.ofInt (-1))
set_option maxRecDepth 20000 in
theorem bo_X5 : Cond.methodLink RX5 3 objectInit ∈ lw_good := zc_g2 46 rfl rfl
set_option maxRecDepth 20000 in
theorem bf_X5_9 : Cond.fieldLink RX5 9 RX5 "lane" "[I" ∈ lw_good := zc_g2 47 rfl rfl
set_option maxRecDepth 20000 in
theorem bf_X5_15 : Cond.fieldLink RX5 15 RX5 "length" "[I" ∈ lw_good := zc_g2 49 rfl rfl
set_option maxRecDepth 20000 in
theorem bf_X5_18 : Cond.fieldLink RX5 18 RX5 "cells" "[I" ∈ lw_good := zc_g2 51 rfl rfl
theorem b_X5 (K : zc_K) (h  : Nat) : zb_M K yX5_init cX5_init 1 { frames := 1, cells := 3, slots := 264, locals := 20 } 3 264 [.ref h] [(h, .inr (5, [.null, .null, .null, .int 0]))] (fun q => [(h, .inr (5, [.ref (q 0), .ref (q 1), .ref (q 2), .int 0])), ((q 0), .inl (K.2.2.1 0, 4, .inl zi_X5_23)), ((q 1), .inl (K.2.2.1 0, 4, .inl zb_z)), ((q 2), .inl (K.2.2.1 0, 256, .inl zb_z))]) := by
  refine zb_start RX5 pfX5_init rfl (Nat.le_of_ble_eq_true rfl) rfl (fun G A hG hA hD => ?_)
  have hB : ∀ k n, zc_B 1 RX5 cX5_init (zg_up G k n) := fun _ _ => hG.1
  refine zr_aload_n (hB 0 0) 0 dX5_init_0 rfl ?_
  refine zb_objInit hG dX5_init_1 bo_X5 b_oi b_oc (Nat.le_of_ble_eq_true rfl) (Nat.le_of_ble_eq_true rfl) ?_
  refine zr_aload_n (hB 0 0) 0 dX5_init_4 rfl ?_
  refine zr_iconst (hB 0 0) dX5_init_5 rfl (fun z1 hz1 => ?_)
  refine zb_newa hG hA (t := 0) (ty := .int) (N := 4) (a0 := (4, .inl zb_z)) dX5_init_6 hD ba_I rfl rfl zb_raI (fun _ => rfl) (by omega) (by decide) (Nat.le_of_ble_eq_true rfl) (Nat.le_of_ble_eq_true rfl) (fun q2 hD => ?_)
  refine zr_dup (hB 1 4) dX5_init_8 rfl ?_
  refine zr_iconst (hB 1 4) dX5_init_9 rfl (fun z3 hz3 => ?_)
  refine zr_iconst (hB 1 4) dX5_init_10 rfl (fun z4 hz4 => ?_)
  refine zb_iast hG (ws' := [(h, .inr (5, [.null, .null, .null, .int 0])), (q2, .inl (K.2.2.1 0, 4, .inl zi_X5_11))]) 1 dX5_init_11 hD rfl hz3 (by decide) (by decide) hz4 rfl (fun hD => ?_)
  refine zr_dup (hB 1 4) dX5_init_12 rfl ?_
  refine zr_iconst (hB 1 4) dX5_init_13 rfl (fun z5 hz5 => ?_)
  refine zr_iconst (hB 1 4) dX5_init_14 rfl (fun z6 hz6 => ?_)
  refine zb_iast hG (ws' := [(h, .inr (5, [.null, .null, .null, .int 0])), (q2, .inl (K.2.2.1 0, 4, .inl zi_X5_15))]) 1 dX5_init_15 hD rfl hz5 (by decide) (by decide) hz6 rfl (fun hD => ?_)
  refine zr_dup (hB 1 4) dX5_init_16 rfl ?_
  refine zr_iconst (hB 1 4) dX5_init_17 rfl (fun z7 hz7 => ?_)
  refine zr_iconst (hB 1 4) dX5_init_18 rfl (fun z8 hz8 => ?_)
  refine zb_iast hG (ws' := [(h, .inr (5, [.null, .null, .null, .int 0])), (q2, .inl (K.2.2.1 0, 4, .inl zi_X5_19))]) 1 dX5_init_19 hD rfl hz7 (by decide) (by decide) hz8 rfl (fun hD => ?_)
  refine zr_dup (hB 1 4) dX5_init_20 rfl ?_
  refine zr_iconst (hB 1 4) dX5_init_21 rfl (fun z9 hz9 => ?_)
  refine zr_iconst (hB 1 4) dX5_init_22 rfl (fun z10 hz10 => ?_)
  refine zb_iast hG (ws' := [(h, .inr (5, [.null, .null, .null, .int 0])), (q2, .inl (K.2.2.1 0, 4, .inl zi_X5_23))]) 1 dX5_init_23 hD rfl hz9 (by decide) (by decide) hz10 rfl (fun hD => ?_)
  refine zb_putF hG (ws' := [(h, .inr (5, [.ref q2, .null, .null, .int 0])), (q2, .inl (K.2.2.1 0, 4, .inl zi_X5_23))]) 0 0 dX5_init_24 hD rfl rfl (by decide) gwX5 tyX5_ok nmX5 bf_X5_9 rfl rfl (tyX5_ok 0 (by decide)) rfl rfl (Nat.le_of_ble_eq_true rfl) rfl (fun hD => ?_)
  refine zr_aload_n (hB 1 4) 0 dX5_init_27 rfl ?_
  refine zr_iconst (hB 1 4) dX5_init_28 rfl (fun z11 hz11 => ?_)
  refine zb_newa hG hA (t := 0) (ty := .int) (N := 4) (a0 := (4, .inl zb_z)) dX5_init_29 hD ba_I rfl rfl zb_raI (fun _ => rfl) (by omega) (by decide) (Nat.le_of_ble_eq_true rfl) (Nat.le_of_ble_eq_true rfl) (fun q12 hD => ?_)
  refine zb_putF hG (ws' := [(h, .inr (5, [.ref q2, .ref q12, .null, .int 0])), (q2, .inl (K.2.2.1 0, 4, .inl zi_X5_23)), (q12, .inl (K.2.2.1 0, 4, .inl zb_z))]) 0 1 dX5_init_31 hD rfl rfl (by decide) gwX5 tyX5_ok nmX5 bf_X5_15 rfl rfl (tyX5_ok 1 (by decide)) rfl rfl (Nat.le_of_ble_eq_true rfl) rfl (fun hD => ?_)
  refine zr_aload_n (hB 2 8) 0 dX5_init_34 rfl ?_
  refine zr_sipush (hB 2 8) dX5_init_35 rfl (fun z13 hz13 => ?_)
  refine zb_newa hG hA (t := 0) (ty := .int) (N := 256) (a0 := (256, .inl zb_z)) dX5_init_38 hD ba_I rfl rfl zb_raI (fun _ => rfl) (by omega) (by decide) (Nat.le_of_ble_eq_true rfl) (Nat.le_of_ble_eq_true rfl) (fun q14 hD => ?_)
  refine zb_putF hG (ws' := [(h, .inr (5, [.ref q2, .ref q12, .ref q14, .int 0])), (q2, .inl (K.2.2.1 0, 4, .inl zi_X5_23)), (q12, .inl (K.2.2.1 0, 4, .inl zb_z)), (q14, .inl (K.2.2.1 0, 256, .inl zb_z))]) 0 2 dX5_init_40 hD rfl rfl (by decide) gwX5 tyX5_ok nmX5 bf_X5_18 rfl rfl (tyX5_ok 2 (by decide)) rfl rfl (Nat.le_of_ble_eq_true rfl) rfl (fun hD => ?_)
  exact zb_vret hG dX5_init_43 hD (fun i => ([q2, q12, q14] : List Nat).getD i 0) [0, 1, 2, 3] rfl rfl rfl

