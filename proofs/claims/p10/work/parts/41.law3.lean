theorem lc_24 {K : zc_K} {G : zc_X} {Z : zl_T} (hG : zl_G K G Z) {σX σM : zc_S} {i : Int32} {ni : Nat} (hi : i.toInt = (ni : Int)) (h9 : ni + 9 ≤ zt_L Z) (hv : zl_v σX σM) (kk : ∀ σX' σM', zl_v σX' σM' → zc_V 4 K G (zl_I K G Z σX' σM') [(3, .int i), (2, .ref (zt_M Z 0)), (1, .ref (zt_X Z 0)), (0, .ref (zt_b Z))] 1780 []) : zc_V 4 K G (zl_I K G Z σX σM) [(3, .int i), (2, .ref (zt_M Z 0)), (1, .ref (zt_X Z 0)), (0, .ref (zt_b Z))] 1504 [] := by
  obtain ⟨hOX, hOM, hT, hN, hL, hF, hD, hSL, hSN, hBY, hFA, hE, hK⟩ := hv
  have hB := hG.1
  have hZ := hG.2.2.2.2.2.2.1
  refine zr_aload_n hB 2 dL_law_1504 rfl ?_
  refine zr_aload_n hB 3 dL_law_1505 rfl ?_
  refine zr_iload_n hB 0 dL_law_1506 rfl ?_
  refine zr_iconst hB dL_law_1507 rfl (fun z1 hz1 => ?_)
  refine zr_iadd hB dL_law_1508 (by omega) (by omega) (fun z2 hz2 => ?_)
  refine zl_sld hG (ni + 1) dL_law_1509 (by omega) (by omega) ?_
  clear hz1 hz2
  refine zr_aload_n hB 3 dL_law_1510 rfl ?_
  refine zr_iload_n hB 0 dL_law_1511 rfl ?_
  refine zr_iconst hB dL_law_1512 rfl (fun z3 hz3 => ?_)
  refine zr_iadd hB dL_law_1513 (by omega) (by omega) (fun z4 hz4 => ?_)
  refine zl_sld hG (ni + 2) dL_law_1514 (by omega) (by omega) ?_
  clear hz3 hz4
  refine zl_callX hG (As := [.int (zt_x Z (ni + 1)), .int (zt_x Z (ni + 2))]) (rest := []) dL_law_1515 wm_L_123 rfl (c_X8_noteOf_0 (zl_K K (zt_X Z)) hG.2.2.2.2.2.2.2.2.2.1 σX (zt_x Z (ni + 1)) (zt_x Z (ni + 2)) hOX ) rfl rfl (Nat.le_of_ble_eq_true rfl) ⟨(Nat.le_of_ble_eq_true rfl), (Nat.le_of_ble_eq_true rfl), rfl, rfl⟩ (fun r5 σ6 h7 => ?_)
  obtain rfl := h7
  refine zr_pop hB dL_law_1518 rfl ?_
  refine zr_aload_n hB 1 dL_law_1519 rfl ?_
  refine zr_aload_n hB 3 dL_law_1520 rfl ?_
  refine zr_iload_n hB 0 dL_law_1521 rfl ?_
  refine zr_iconst hB dL_law_1522 rfl (fun z8 hz8 => ?_)
  refine zr_iadd hB dL_law_1523 (by omega) (by omega) (fun z9 hz9 => ?_)
  refine zl_sld hG (ni + 1) dL_law_1524 (by omega) (by omega) ?_
  clear hz8 hz9
  refine zr_aload_n hB 3 dL_law_1525 rfl ?_
  refine zr_iload_n hB 0 dL_law_1526 rfl ?_
  refine zr_iconst hB dL_law_1527 rfl (fun z10 hz10 => ?_)
  refine zr_iadd hB dL_law_1528 (by omega) (by omega) (fun z11 hz11 => ?_)
  refine zl_sld hG (ni + 2) dL_law_1529 (by omega) (by omega) ?_
  clear hz10 hz11
  refine zl_callM hG (As := [.int (zt_x Z (ni + 1)), .int (zt_x Z (ni + 2))]) (rest := []) dL_law_1530 wm_L_126 rfl (c_M_noteOf (zl_K K (zt_M Z)) hG.2.2.2.2.2.2.2.2.2.2.1 σM (zt_x Z (ni + 1)) (zt_x Z (ni + 2)) hOM ) rfl rfl (Nat.le_of_ble_eq_true rfl) ⟨(Nat.le_of_ble_eq_true rfl), (Nat.le_of_ble_eq_true rfl), rfl, rfl⟩ (fun r12 σ13 h14 => ?_)
  obtain rfl := h14
  refine zr_pop hB dL_law_1533 rfl ?_
  refine zr_goto hB dL_law_1534 (tgt := 1780) rfl ?_
  exact kk _ _ ⟨hOX, hOM, hT, hN, hL, hF, hD, hSL, hSN, hBY, hFA, hE, hK⟩

theorem lc_25 {K : zc_K} {G : zc_X} {Z : zl_T} (hG : zl_G K G Z) {σX σM : zc_S} {i : Int32} {ni : Nat} (hi : i.toInt = (ni : Int)) (h9 : ni + 9 ≤ zt_L Z) (hv : zl_v σX σM) (kk : ∀ σX' σM', zl_v σX' σM' → zc_V 4 K G (zl_I K G Z σX' σM') [(3, .int i), (2, .ref (zt_M Z 0)), (1, .ref (zt_X Z 0)), (0, .ref (zt_b Z))] 1780 []) : zc_V 4 K G (zl_I K G Z σX σM) [(3, .int i), (2, .ref (zt_M Z 0)), (1, .ref (zt_X Z 0)), (0, .ref (zt_b Z))] 1537 [] := by
  obtain ⟨hOX, hOM, hT, hN, hL, hF, hD, hSL, hSN, hBY, hFA, hE, hK⟩ := hv
  have hB := hG.1
  have hZ := hG.2.2.2.2.2.2.1
  refine zr_aload_n hB 2 dL_law_1537 rfl ?_
  refine zr_aload_n hB 3 dL_law_1538 rfl ?_
  refine zr_iload_n hB 0 dL_law_1539 rfl ?_
  refine zr_iconst hB dL_law_1540 rfl (fun z1 hz1 => ?_)
  refine zr_iadd hB dL_law_1541 (by omega) (by omega) (fun z2 hz2 => ?_)
  refine zl_sld hG (ni + 1) dL_law_1542 (by omega) (by omega) ?_
  clear hz1 hz2
  refine zl_callX hG (As := [.int (zt_x Z (ni + 1))]) (rest := []) dL_law_1543 wm_L_127 rfl (c_X8_acted_0 (zl_K K (zt_X Z)) hG.2.2.2.2.2.2.2.2.2.1 σX (zt_x Z (ni + 1)) hOX ) rfl rfl (Nat.le_of_ble_eq_true rfl) ⟨(Nat.le_of_ble_eq_true rfl), (Nat.le_of_ble_eq_true rfl), rfl, rfl⟩ (fun r3 σ4 h5 => ?_)
  obtain ⟨hO6, hA7⟩ := h5
  have hN8 : (σ4.1 1 0).toInt = (σM.1 0 1).toInt := by rw [(hA7 1 0 rfl).1]; exact hN
  have hL9 : (σ4.1 2 1).toInt = (σM.1 0 6).toInt := by rw [(hA7 2 1 rfl).1]; exact hL
  have hF10 : ∀ j : Nat, (σ4.1 15 j).toInt = (σM.1 2 j).toInt := fun j => by rw [(hA7 15 j rfl).1]; exact hF j
  have hD11 : ∀ j : Nat, (σ4.1 16 j).toInt = (σM.1 3 j).toInt := fun j => by rw [(hA7 16 j rfl).1]; exact hD j
  have hSL12 : ∀ j : Nat, zl_R (σ4.1 37 j) (σM.1 24 j) := fun j => by rw [(hA7 37 j rfl).1]; exact hSL j
  have hSN13 : ∀ j : Nat, (σ4.1 38 j).toInt = (σM.1 25 j).toInt := fun j => by rw [(hA7 38 j rfl).1]; exact hSN j
  have hBY14 : zl_B σ4 σM := hBY.x hA7 rfl (fun _ => rfl)
  have hFA15 : (σ4.1 2 3).toInt = (σM.1 0 7).toInt := by rw [(hA7 2 3 rfl).1]; exact hFA
  have hE16 : zl_E σ4 σM := hE.x hA7 rfl (fun _ => rfl) (fun _ => rfl) (fun _ => rfl)
  have hK17 : zw_K σM := hK
  refine zr_pop hB dL_law_1546 rfl ?_
  refine zr_aload_n hB 1 dL_law_1547 rfl ?_
  refine zr_aload_n hB 3 dL_law_1548 rfl ?_
  refine zr_iload_n hB 0 dL_law_1549 rfl ?_
  refine zr_iconst hB dL_law_1550 rfl (fun z18 hz18 => ?_)
  refine zr_iadd hB dL_law_1551 (by omega) (by omega) (fun z19 hz19 => ?_)
  refine zl_sld hG (ni + 1) dL_law_1552 (by omega) (by omega) ?_
  clear hz18 hz19
  refine zl_callM hG (As := [.int (zt_x Z (ni + 1))]) (rest := []) dL_law_1553 wm_L_130 rfl (c_M_acted (zl_K K (zt_M Z)) hG.2.2.2.2.2.2.2.2.2.2.1 σM (zt_x Z (ni + 1)) hOM ) rfl rfl (Nat.le_of_ble_eq_true rfl) ⟨(Nat.le_of_ble_eq_true rfl), (Nat.le_of_ble_eq_true rfl), rfl, rfl⟩ (fun r20 σ21 h22 => ?_)
  obtain ⟨hO23, hA24⟩ := h22
  have hT25 := zm_T.ag hT hA24 rfl (fun _ => rfl) (fun _ => rfl)
  have hN26 : (σ4.1 1 0).toInt = (σ21.1 0 1).toInt := by rw [(hA24 0 1 rfl).1]; exact hN8
  have hL27 : (σ4.1 2 1).toInt = (σ21.1 0 6).toInt := by rw [(hA24 0 6 rfl).1]; exact hL9
  have hF28 : ∀ j : Nat, (σ4.1 15 j).toInt = (σ21.1 2 j).toInt := fun j => by rw [(hA24 2 j rfl).1]; exact hF10 j
  have hD29 : ∀ j : Nat, (σ4.1 16 j).toInt = (σ21.1 3 j).toInt := fun j => by rw [(hA24 3 j rfl).1]; exact hD11 j
  have hSL30 : ∀ j : Nat, zl_R (σ4.1 37 j) (σ21.1 24 j) := fun j => by rw [(hA24 24 j rfl).1]; exact hSL12 j
  have hSN31 : ∀ j : Nat, (σ4.1 38 j).toInt = (σ21.1 25 j).toInt := fun j => by rw [(hA24 25 j rfl).1]; exact hSN13 j
  have hBY32 : zl_B σ4 σ21 := hBY14.m hA24 (fun _ => rfl)
  have hFA33 : (σ4.1 2 3).toInt = (σ21.1 0 7).toInt := by rw [(hA24 0 7 rfl).1]; exact hFA15
  have hE34 : zl_E σ4 σ21 := hE16.m hA24 rfl (fun _ => rfl) (fun _ => rfl) (fun _ => rfl)
  have hK35 : zw_K σ21 := zw_K.ag hK17 hA24 rfl (fun _ => rfl) (fun _ => rfl)
  refine zr_pop hB dL_law_1556 rfl ?_
  refine zr_goto hB dL_law_1557 (tgt := 1780) rfl ?_
  exact kk _ _ ⟨hO6, hO23, hT25, hN26, hL27, hF28, hD29, hSL30, hSN31, hBY32, hFA33, hE34, hK35⟩

theorem lc_26 {K : zc_K} {G : zc_X} {Z : zl_T} (hG : zl_G K G Z) {σX σM : zc_S} {i : Int32} {ni : Nat} (hi : i.toInt = (ni : Int)) (h9 : ni + 9 ≤ zt_L Z) (hv : zl_v σX σM) (kk : ∀ σX' σM', zl_v σX' σM' → zc_V 4 K G (zl_I K G Z σX' σM') [(3, .int i), (2, .ref (zt_M Z 0)), (1, .ref (zt_X Z 0)), (0, .ref (zt_b Z))] 1780 []) : zc_V 4 K G (zl_I K G Z σX σM) [(3, .int i), (2, .ref (zt_M Z 0)), (1, .ref (zt_X Z 0)), (0, .ref (zt_b Z))] 1560 [] := by
  obtain ⟨hOX, hOM, hT, hN, hL, hF, hD, hSL, hSN, hBY, hFA, hE, hK⟩ := hv
  have hB := hG.1
  have hZ := hG.2.2.2.2.2.2.1
  refine zr_aload_n hB 2 dL_law_1560 rfl ?_
  refine zr_aload_n hB 3 dL_law_1561 rfl ?_
  refine zr_iload_n hB 0 dL_law_1562 rfl ?_
  refine zr_iconst hB dL_law_1563 rfl (fun z1 hz1 => ?_)
  refine zr_iadd hB dL_law_1564 (by omega) (by omega) (fun z2 hz2 => ?_)
  refine zl_sld hG (ni + 1) dL_law_1565 (by omega) (by omega) ?_
  clear hz1 hz2
  refine zl_callX hG (As := [.int (zt_x Z (ni + 1))]) (rest := []) dL_law_1566 wm_L_131 rfl (c_X8_notes_0 (zl_K K (zt_X Z)) hG.2.2.2.2.2.2.2.2.2.1 σX (zt_x Z (ni + 1)) hOX ) rfl rfl (Nat.le_of_ble_eq_true rfl) ⟨(Nat.le_of_ble_eq_true rfl), (Nat.le_of_ble_eq_true rfl), rfl, rfl⟩ (fun r3 σ4 h5 => ?_)
  obtain rfl := h5
  refine zr_pop hB dL_law_1569 rfl ?_
  refine zr_aload_n hB 1 dL_law_1570 rfl ?_
  refine zr_aload_n hB 3 dL_law_1571 rfl ?_
  refine zr_iload_n hB 0 dL_law_1572 rfl ?_
  refine zr_iconst hB dL_law_1573 rfl (fun z6 hz6 => ?_)
  refine zr_iadd hB dL_law_1574 (by omega) (by omega) (fun z7 hz7 => ?_)
  refine zl_sld hG (ni + 1) dL_law_1575 (by omega) (by omega) ?_
  clear hz6 hz7
  refine zl_callM hG (As := [.int (zt_x Z (ni + 1))]) (rest := []) dL_law_1576 wm_L_134 rfl (c_M_notes (zl_K K (zt_M Z)) hG.2.2.2.2.2.2.2.2.2.2.1 σM (zt_x Z (ni + 1)) hOM ) rfl rfl (Nat.le_of_ble_eq_true rfl) ⟨(Nat.le_of_ble_eq_true rfl), (Nat.le_of_ble_eq_true rfl), rfl, rfl⟩ (fun r8 σ9 h10 => ?_)
  obtain rfl := h10
  refine zr_pop hB dL_law_1579 rfl ?_
  refine zr_goto hB dL_law_1580 (tgt := 1780) rfl ?_
  exact kk _ _ ⟨hOX, hOM, hT, hN, hL, hF, hD, hSL, hSN, hBY, hFA, hE, hK⟩

theorem lc_27 {K : zc_K} {G : zc_X} {Z : zl_T} (hG : zl_G K G Z) {σX σM : zc_S} {i : Int32} {ni : Nat} (hi : i.toInt = (ni : Int)) (h9 : ni + 9 ≤ zt_L Z) (hv : zl_v σX σM) (kk : ∀ σX' σM', zl_v σX' σM' → zc_V 4 K G (zl_I K G Z σX' σM') [(3, .int i), (2, .ref (zt_M Z 0)), (1, .ref (zt_X Z 0)), (0, .ref (zt_b Z))] 1780 []) : zc_V 4 K G (zl_I K G Z σX σM) [(3, .int i), (2, .ref (zt_M Z 0)), (1, .ref (zt_X Z 0)), (0, .ref (zt_b Z))] 1583 [] := by
  obtain ⟨hOX, hOM, hT, hN, hL, hF, hD, hSL, hSN, hBY, hFA, hE, hK⟩ := hv
  have hB := hG.1
  have hZ := hG.2.2.2.2.2.2.1
  refine zr_aload_n hB 2 dL_law_1583 rfl ?_
  refine zr_aload_n hB 3 dL_law_1584 rfl ?_
  refine zr_iload_n hB 0 dL_law_1585 rfl ?_
  refine zr_iconst hB dL_law_1586 rfl (fun z1 hz1 => ?_)
  refine zr_iadd hB dL_law_1587 (by omega) (by omega) (fun z2 hz2 => ?_)
  refine zl_sld hG (ni + 1) dL_law_1588 (by omega) (by omega) ?_
  clear hz1 hz2
  refine zr_aload_n hB 3 dL_law_1589 rfl ?_
  refine zr_iload_n hB 0 dL_law_1590 rfl ?_
  refine zr_iconst hB dL_law_1591 rfl (fun z3 hz3 => ?_)
  refine zr_iadd hB dL_law_1592 (by omega) (by omega) (fun z4 hz4 => ?_)
  refine zl_sld hG (ni + 2) dL_law_1593 (by omega) (by omega) ?_
  clear hz3 hz4
  refine zr_aload_n hB 3 dL_law_1594 rfl ?_
  refine zr_iload_n hB 0 dL_law_1595 rfl ?_
  refine zr_iconst hB dL_law_1596 rfl (fun z5 hz5 => ?_)
  refine zr_iadd hB dL_law_1597 (by omega) (by omega) (fun z6 hz6 => ?_)
  refine zl_sld hG (ni + 3) dL_law_1598 (by omega) (by omega) ?_
  clear hz5 hz6
  refine zl_callX hG (As := [.int (zt_x Z (ni + 1)), .int (zt_x Z (ni + 2)), .int (zt_x Z (ni + 3))]) (rest := []) dL_law_1599 wm_L_135 rfl (c_X8_sheet_0 (zl_K K (zt_X Z)) hG.2.2.2.2.2.2.2.2.2.1 σX (zt_x Z (ni + 1)) (zt_x Z (ni + 2)) (zt_x Z (ni + 3)) hOX ) rfl rfl (Nat.le_of_ble_eq_true rfl) ⟨(Nat.le_of_ble_eq_true rfl), (Nat.le_of_ble_eq_true rfl), rfl, rfl⟩ (fun r7 σ8 h9 => ?_)
  obtain ⟨hO10, hA11, g12⟩ := h9
  have hN13 : (σ8.1 1 0).toInt = (σM.1 0 1).toInt := by rw [(hA11 1 0 rfl).1]; exact hN
  have hL14 : (σ8.1 2 1).toInt = (σM.1 0 6).toInt := by rw [(hA11 2 1 rfl).1]; exact hL
  have hF15 : ∀ j : Nat, (σ8.1 15 j).toInt = (σM.1 2 j).toInt := fun j => by rw [(hA11 15 j rfl).1]; exact hF j
  have hD16 : ∀ j : Nat, (σ8.1 16 j).toInt = (σM.1 3 j).toInt := fun j => by rw [(hA11 16 j rfl).1]; exact hD j
  have hBY19 : zl_B σ8 σM := hBY.x hA11 rfl (fun _ => rfl)
  have hFA20 : (σ8.1 2 3).toInt = (σM.1 0 7).toInt := by rw [(hA11 2 3 rfl).1]; exact hFA
  have hE21 : zl_E σ8 σM := hE.x hA11 rfl (fun _ => rfl) (fun _ => rfl) (fun _ => rfl)
  have hK22 : zw_K σM := hK
  refine zr_pop hB dL_law_1602 rfl ?_
  refine zr_aload_n hB 1 dL_law_1603 rfl ?_
  refine zr_aload_n hB 3 dL_law_1604 rfl ?_
  refine zr_iload_n hB 0 dL_law_1605 rfl ?_
  refine zr_iconst hB dL_law_1606 rfl (fun z23 hz23 => ?_)
  refine zr_iadd hB dL_law_1607 (by omega) (by omega) (fun z24 hz24 => ?_)
  refine zl_sld hG (ni + 1) dL_law_1608 (by omega) (by omega) ?_
  clear hz23 hz24
  refine zr_aload_n hB 3 dL_law_1609 rfl ?_
  refine zr_iload_n hB 0 dL_law_1610 rfl ?_
  refine zr_iconst hB dL_law_1611 rfl (fun z25 hz25 => ?_)
  refine zr_iadd hB dL_law_1612 (by omega) (by omega) (fun z26 hz26 => ?_)
  refine zl_sld hG (ni + 2) dL_law_1613 (by omega) (by omega) ?_
  clear hz25 hz26
  refine zr_aload_n hB 3 dL_law_1614 rfl ?_
  refine zr_iload_n hB 0 dL_law_1615 rfl ?_
  refine zr_iconst hB dL_law_1616 rfl (fun z27 hz27 => ?_)
  refine zr_iadd hB dL_law_1617 (by omega) (by omega) (fun z28 hz28 => ?_)
  refine zl_sld hG (ni + 3) dL_law_1618 (by omega) (by omega) ?_
  clear hz27 hz28
  refine zl_callM hG (As := [.int (zt_x Z (ni + 1)), .int (zt_x Z (ni + 2)), .int (zt_x Z (ni + 3))]) (rest := []) dL_law_1619 wm_L_138 rfl (c_M_sheet (zl_K K (zt_M Z)) hG.2.2.2.2.2.2.2.2.2.2.1 σM (zt_x Z (ni + 1)) (zt_x Z (ni + 2)) (zt_x Z (ni + 3)) hOM ) rfl rfl (Nat.le_of_ble_eq_true rfl) ⟨(Nat.le_of_ble_eq_true rfl), (Nat.le_of_ble_eq_true rfl), rfl, rfl⟩ (fun r29 σ30 h31 => ?_)
  obtain ⟨hO32, hA33, g34⟩ := h31
  have hT35 := zm_T.ag hT hA33 rfl (fun _ => rfl) (fun _ => rfl)
  have hN36 : (σ8.1 1 0).toInt = (σ30.1 0 1).toInt := by rw [(hA33 0 1 rfl).1]; exact hN13
  have hL37 : (σ8.1 2 1).toInt = (σ30.1 0 6).toInt := by rw [(hA33 0 6 rfl).1]; exact hL14
  have hF38 : ∀ j : Nat, (σ8.1 15 j).toInt = (σ30.1 2 j).toInt := fun j => by rw [(hA33 2 j rfl).1]; exact hF15 j
  have hD39 : ∀ j : Nat, (σ8.1 16 j).toInt = (σ30.1 3 j).toInt := fun j => by rw [(hA33 3 j rfl).1]; exact hD16 j
  have hSL40 : ∀ j : Nat, zl_R (σ8.1 37 j) (σ30.1 24 j) := by rcases g12 with ⟨a1, a2, a3, a4⟩ | ⟨a1, a2, a0, a3, a4⟩ | ⟨a1, a2, a0, a3, a4⟩ <;> rcases g34 with ⟨b1, b2, b3, b4⟩ | ⟨b1, b2, b0, b3, b4⟩ | ⟨b1, b2, b0, b3, b4⟩ <;> first | (exfalso; omega) | (rw [a3, b3]; exact hSL) | (rw [a3, b3]; exact zl_lu hSL (Or.inr ⟨by omega, rfl⟩))
  have hSN41 : ∀ j : Nat, (σ8.1 38 j).toInt = (σ30.1 25 j).toInt := by rcases g12 with ⟨a1, a2, a3, a4⟩ | ⟨a1, a2, a0, a3, a4⟩ | ⟨a1, a2, a0, a3, a4⟩ <;> rcases g34 with ⟨b1, b2, b3, b4⟩ | ⟨b1, b2, b0, b3, b4⟩ | ⟨b1, b2, b0, b3, b4⟩ <;> first | (exfalso; omega) | (rw [a4, b4]; exact hSN) | (rw [a4, b4]; exact zl_lue hSN rfl)
  have hBY42 : zl_B σ8 σ30 := hBY19.m hA33 (fun _ => rfl)
  have hFA43 : (σ8.1 2 3).toInt = (σ30.1 0 7).toInt := by rw [(hA33 0 7 rfl).1]; exact hFA20
  have hE44 : zl_E σ8 σ30 := hE21.m hA33 rfl (fun _ => rfl) (fun _ => rfl) (fun _ => rfl)
  have hK45 : zw_K σ30 := zw_K.ag hK22 hA33 rfl (fun _ => rfl) (fun _ => rfl)
  refine zr_pop hB dL_law_1622 rfl ?_
  refine zr_goto hB dL_law_1623 (tgt := 1780) rfl ?_
  exact kk _ _ ⟨hO10, hO32, hT35, hN36, hL37, hF38, hD39, hSL40, hSN41, hBY42, hFA43, hE44, hK45⟩

theorem lc_28 {K : zc_K} {G : zc_X} {Z : zl_T} (hG : zl_G K G Z) {σX σM : zc_S} {i : Int32} {ni : Nat} (hi : i.toInt = (ni : Int)) (h9 : ni + 9 ≤ zt_L Z) (hv : zl_v σX σM) (kk : ∀ σX' σM', zl_v σX' σM' → zc_V 4 K G (zl_I K G Z σX' σM') [(3, .int i), (2, .ref (zt_M Z 0)), (1, .ref (zt_X Z 0)), (0, .ref (zt_b Z))] 1780 []) : zc_V 4 K G (zl_I K G Z σX σM) [(3, .int i), (2, .ref (zt_M Z 0)), (1, .ref (zt_X Z 0)), (0, .ref (zt_b Z))] 1626 [] := by
  obtain ⟨hOX, hOM, hT, hN, hL, hF, hD, hSL, hSN, hBY, hFA, hE, hK⟩ := hv
  have hB := hG.1
  have hZ := hG.2.2.2.2.2.2.1
  refine zr_aload_n hB 2 dL_law_1626 rfl ?_
  refine zr_aload_n hB 3 dL_law_1627 rfl ?_
  refine zr_iload_n hB 0 dL_law_1628 rfl ?_
  refine zr_iconst hB dL_law_1629 rfl (fun z1 hz1 => ?_)
  refine zr_iadd hB dL_law_1630 (by omega) (by omega) (fun z2 hz2 => ?_)
  refine zl_sld hG (ni + 1) dL_law_1631 (by omega) (by omega) ?_
  clear hz1 hz2
  refine zr_aload_n hB 3 dL_law_1632 rfl ?_
  refine zr_iload_n hB 0 dL_law_1633 rfl ?_
  refine zr_iconst hB dL_law_1634 rfl (fun z3 hz3 => ?_)
  refine zr_iadd hB dL_law_1635 (by omega) (by omega) (fun z4 hz4 => ?_)
  refine zl_sld hG (ni + 2) dL_law_1636 (by omega) (by omega) ?_
  clear hz3 hz4
  refine zr_aload_n hB 3 dL_law_1637 rfl ?_
  refine zr_iload_n hB 0 dL_law_1638 rfl ?_
  refine zr_iconst hB dL_law_1639 rfl (fun z5 hz5 => ?_)
  refine zr_iadd hB dL_law_1640 (by omega) (by omega) (fun z6 hz6 => ?_)
  refine zl_sld hG (ni + 3) dL_law_1641 (by omega) (by omega) ?_
  clear hz5 hz6
  refine zl_callX hG (As := [.int (zt_x Z (ni + 1)), .int (zt_x Z (ni + 2)), .int (zt_x Z (ni + 3))]) (rest := []) dL_law_1642 wm_L_139 rfl (c_X8_lay_0 (zl_K K (zt_X Z)) hG.2.2.2.2.2.2.2.2.2.1 σX (zt_x Z (ni + 1)) (zt_x Z (ni + 2)) (zt_x Z (ni + 3)) hOX ) rfl rfl (Nat.le_of_ble_eq_true rfl) ⟨(Nat.le_of_ble_eq_true rfl), (Nat.le_of_ble_eq_true rfl), rfl, rfl⟩ (fun r7 σ8 h9 => ?_)
  obtain ⟨hO10, hA11, g12⟩ := h9
  have hN13 : (σ8.1 1 0).toInt = (σM.1 0 1).toInt := by rw [(hA11 1 0 rfl).1]; exact hN
  have hL14 : (σ8.1 2 1).toInt = (σM.1 0 6).toInt := by rw [(hA11 2 1 rfl).1]; exact hL
  have hF15 : ∀ j : Nat, (σ8.1 15 j).toInt = (σM.1 2 j).toInt := fun j => by rw [(hA11 15 j rfl).1]; exact hF j
  have hD16 : ∀ j : Nat, (σ8.1 16 j).toInt = (σM.1 3 j).toInt := fun j => by rw [(hA11 16 j rfl).1]; exact hD j
  have hSL17 : ∀ j : Nat, zl_R (σ8.1 37 j) (σM.1 24 j) := fun j => by rw [(hA11 37 j rfl).1]; exact hSL j
  have hSN18 : ∀ j : Nat, (σ8.1 38 j).toInt = (σM.1 25 j).toInt := fun j => by rw [(hA11 38 j rfl).1]; exact hSN j
  have hBY19 : zl_B σ8 σM := hBY.x hA11 rfl (fun _ => rfl)
  have hFA20 : (σ8.1 2 3).toInt = (σM.1 0 7).toInt := by rw [(hA11 2 3 rfl).1]; exact hFA
  have hE21 : zl_E σ8 σM := hE.x hA11 rfl (fun _ => rfl) (fun _ => rfl) (fun _ => rfl)
  have hK22 : zw_K σM := hK
  refine zr_pop hB dL_law_1645 rfl ?_
  refine zr_aload_n hB 1 dL_law_1646 rfl ?_
  refine zr_aload_n hB 3 dL_law_1647 rfl ?_
  refine zr_iload_n hB 0 dL_law_1648 rfl ?_
  refine zr_iconst hB dL_law_1649 rfl (fun z23 hz23 => ?_)
  refine zr_iadd hB dL_law_1650 (by omega) (by omega) (fun z24 hz24 => ?_)
  refine zl_sld hG (ni + 1) dL_law_1651 (by omega) (by omega) ?_
  clear hz23 hz24
  refine zr_aload_n hB 3 dL_law_1652 rfl ?_
  refine zr_iload_n hB 0 dL_law_1653 rfl ?_
  refine zr_iconst hB dL_law_1654 rfl (fun z25 hz25 => ?_)
  refine zr_iadd hB dL_law_1655 (by omega) (by omega) (fun z26 hz26 => ?_)
  refine zl_sld hG (ni + 2) dL_law_1656 (by omega) (by omega) ?_
  clear hz25 hz26
  refine zr_aload_n hB 3 dL_law_1657 rfl ?_
  refine zr_iload_n hB 0 dL_law_1658 rfl ?_
  refine zr_iconst hB dL_law_1659 rfl (fun z27 hz27 => ?_)
  refine zr_iadd hB dL_law_1660 (by omega) (by omega) (fun z28 hz28 => ?_)
  refine zl_sld hG (ni + 3) dL_law_1661 (by omega) (by omega) ?_
  clear hz27 hz28
  refine zl_callM hG (As := [.int (zt_x Z (ni + 1)), .int (zt_x Z (ni + 2)), .int (zt_x Z (ni + 3))]) (rest := []) dL_law_1662 wm_L_142 rfl (c_M_lay (zl_K K (zt_M Z)) hG.2.2.2.2.2.2.2.2.2.2.1 σM (zt_x Z (ni + 1)) (zt_x Z (ni + 2)) (zt_x Z (ni + 3)) hOM ) rfl rfl (Nat.le_of_ble_eq_true rfl) ⟨(Nat.le_of_ble_eq_true rfl), (Nat.le_of_ble_eq_true rfl), rfl, rfl⟩ (fun r29 σ30 h31 => ?_)
  obtain ⟨hO32, hA33, g34⟩ := h31
  have hT35 := zm_T.ag hT hA33 rfl (fun _ => rfl) (fun _ => rfl)
  have hN36 : (σ8.1 1 0).toInt = (σ30.1 0 1).toInt := by rw [(hA33 0 1 rfl).1]; exact hN13
  have hL37 : (σ8.1 2 1).toInt = (σ30.1 0 6).toInt := by rw [(hA33 0 6 rfl).1]; exact hL14
  have hF38 : ∀ j : Nat, (σ8.1 15 j).toInt = (σ30.1 2 j).toInt := fun j => by rw [(hA33 2 j rfl).1]; exact hF15 j
  have hD39 : ∀ j : Nat, (σ8.1 16 j).toInt = (σ30.1 3 j).toInt := fun j => by rw [(hA33 3 j rfl).1]; exact hD16 j
  have hSL40 : ∀ j : Nat, zl_R (σ8.1 37 j) (σ30.1 24 j) := fun j => by rw [(hA33 24 j rfl).1]; exact hSL17 j
  have hSN41 : ∀ j : Nat, (σ8.1 38 j).toInt = (σ30.1 25 j).toInt := fun j => by rw [(hA33 25 j rfl).1]; exact hSN18 j
  have hBY42 : zl_B σ8 σ30 := hBY19.m hA33 (fun _ => rfl)
  have hFA43 : (σ8.1 2 3).toInt = (σ30.1 0 7).toInt := by rw [(hA33 0 7 rfl).1]; exact hFA20
  have hE44 : zl_E σ8 σ30 := hE21.m hA33 rfl (fun _ => rfl) (fun _ => rfl) (fun _ => rfl)
  have hK45 : zw_K σ30 := zw_K.ag hK22 hA33 rfl (fun _ => rfl) (fun _ => rfl)
  refine zr_pop hB dL_law_1665 rfl ?_
  refine zr_goto hB dL_law_1666 (tgt := 1780) rfl ?_
  exact kk _ _ ⟨hO10, hO32, hT35, hN36, hL37, hF38, hD39, hSL40, hSN41, hBY42, hFA43, hE44, hK45⟩

theorem lc_29 {K : zc_K} {G : zc_X} {Z : zl_T} (hG : zl_G K G Z) {σX σM : zc_S} {i : Int32} {ni : Nat} (hi : i.toInt = (ni : Int)) (h9 : ni + 9 ≤ zt_L Z) (hv : zl_v σX σM) (kk : ∀ σX' σM', zl_v σX' σM' → zc_V 4 K G (zl_I K G Z σX' σM') [(3, .int i), (2, .ref (zt_M Z 0)), (1, .ref (zt_X Z 0)), (0, .ref (zt_b Z))] 1780 []) : zc_V 4 K G (zl_I K G Z σX σM) [(3, .int i), (2, .ref (zt_M Z 0)), (1, .ref (zt_X Z 0)), (0, .ref (zt_b Z))] 1669 [] := by
  obtain ⟨hOX, hOM, hT, hN, hL, hF, hD, hSL, hSN, hBY, hFA, hE, hK⟩ := hv
  have hB := hG.1
  have hZ := hG.2.2.2.2.2.2.1
  refine zr_aload_n hB 2 dL_law_1669 rfl ?_
  refine zr_aload_n hB 3 dL_law_1670 rfl ?_
  refine zr_iload_n hB 0 dL_law_1671 rfl ?_
  refine zr_iconst hB dL_law_1672 rfl (fun z1 hz1 => ?_)
  refine zr_iadd hB dL_law_1673 (by omega) (by omega) (fun z2 hz2 => ?_)
  refine zl_sld hG (ni + 1) dL_law_1674 (by omega) (by omega) ?_
  clear hz1 hz2
  refine zr_aload_n hB 3 dL_law_1675 rfl ?_
  refine zr_iload_n hB 0 dL_law_1676 rfl ?_
  refine zr_iconst hB dL_law_1677 rfl (fun z3 hz3 => ?_)
  refine zr_iadd hB dL_law_1678 (by omega) (by omega) (fun z4 hz4 => ?_)
  refine zl_sld hG (ni + 2) dL_law_1679 (by omega) (by omega) ?_
  clear hz3 hz4
  refine zr_aload_n hB 3 dL_law_1680 rfl ?_
  refine zr_iload_n hB 0 dL_law_1681 rfl ?_
  refine zr_iconst hB dL_law_1682 rfl (fun z5 hz5 => ?_)
  refine zr_iadd hB dL_law_1683 (by omega) (by omega) (fun z6 hz6 => ?_)
  refine zl_sld hG (ni + 3) dL_law_1684 (by omega) (by omega) ?_
  clear hz5 hz6
  refine zr_aload_n hB 3 dL_law_1685 rfl ?_
  refine zr_iload_n hB 0 dL_law_1686 rfl ?_
  refine zr_iconst hB dL_law_1687 rfl (fun z7 hz7 => ?_)
  refine zr_iadd hB dL_law_1688 (by omega) (by omega) (fun z8 hz8 => ?_)
  refine zl_sld hG (ni + 4) dL_law_1689 (by omega) (by omega) ?_
  clear hz7 hz8
  refine zr_aload_n hB 3 dL_law_1690 rfl ?_
  refine zr_iload_n hB 0 dL_law_1691 rfl ?_
  refine zr_iconst hB dL_law_1692 rfl (fun z9 hz9 => ?_)
  refine zr_iadd hB dL_law_1693 (by omega) (by omega) (fun z10 hz10 => ?_)
  refine zl_sld hG (ni + 5) dL_law_1694 (by omega) (by omega) ?_
  clear hz9 hz10
  refine zr_aload_n hB 3 dL_law_1695 rfl ?_
  refine zr_iload_n hB 0 dL_law_1696 rfl ?_
  refine zr_bipush hB dL_law_1697 rfl (fun z11 hz11 => ?_)
  refine zr_iadd hB dL_law_1699 (by omega) (by omega) (fun z12 hz12 => ?_)
  refine zl_sld hG (ni + 6) dL_law_1700 (by omega) (by omega) ?_
  clear hz11 hz12
  refine zl_callX hG (As := [.int (zt_x Z (ni + 1)), .int (zt_x Z (ni + 2)), .int (zt_x Z (ni + 3)), .int (zt_x Z (ni + 4)), .int (zt_x Z (ni + 5)), .int (zt_x Z (ni + 6))]) (rest := []) dL_law_1701 wm_L_143 rfl (c_X8_read_0 (zl_K K (zt_X Z)) hG.2.2.2.2.2.2.2.2.2.1 σX (zt_x Z (ni + 1)) (zt_x Z (ni + 2)) (zt_x Z (ni + 3)) (zt_x Z (ni + 4)) (zt_x Z (ni + 5)) (zt_x Z (ni + 6)) hOX ) rfl rfl (Nat.le_of_ble_eq_true rfl) ⟨(Nat.le_of_ble_eq_true rfl), (Nat.le_of_ble_eq_true rfl), rfl, rfl⟩ (fun r13 σ14 h15 => ?_)
  obtain ⟨hO16, hA17⟩ := h15
  have hN18 : (σ14.1 1 0).toInt = (σM.1 0 1).toInt := by rw [(hA17 1 0 rfl).1]; exact hN
  have hL19 : (σ14.1 2 1).toInt = (σM.1 0 6).toInt := by rw [(hA17 2 1 rfl).1]; exact hL
  have hF20 : ∀ j : Nat, (σ14.1 15 j).toInt = (σM.1 2 j).toInt := fun j => by rw [(hA17 15 j rfl).1]; exact hF j
  have hD21 : ∀ j : Nat, (σ14.1 16 j).toInt = (σM.1 3 j).toInt := fun j => by rw [(hA17 16 j rfl).1]; exact hD j
  have hSL22 : ∀ j : Nat, zl_R (σ14.1 37 j) (σM.1 24 j) := fun j => by rw [(hA17 37 j rfl).1]; exact hSL j
  have hSN23 : ∀ j : Nat, (σ14.1 38 j).toInt = (σM.1 25 j).toInt := fun j => by rw [(hA17 38 j rfl).1]; exact hSN j
  have hBY24 : zl_B σ14 σM := hBY.x hA17 rfl (fun _ => rfl)
  have hFA25 : (σ14.1 2 3).toInt = (σM.1 0 7).toInt := by rw [(hA17 2 3 rfl).1]; exact hFA
  have hE26 : zl_E σ14 σM := hE.x hA17 rfl (fun _ => rfl) (fun _ => rfl) (fun _ => rfl)
  have hK27 : zw_K σM := hK
  refine zr_pop hB dL_law_1704 rfl ?_
  refine zr_aload_n hB 1 dL_law_1705 rfl ?_
  refine zr_aload_n hB 3 dL_law_1706 rfl ?_
  refine zr_iload_n hB 0 dL_law_1707 rfl ?_
  refine zr_iconst hB dL_law_1708 rfl (fun z28 hz28 => ?_)
  refine zr_iadd hB dL_law_1709 (by omega) (by omega) (fun z29 hz29 => ?_)
  refine zl_sld hG (ni + 1) dL_law_1710 (by omega) (by omega) ?_
  clear hz28 hz29
  refine zr_aload_n hB 3 dL_law_1711 rfl ?_
  refine zr_iload_n hB 0 dL_law_1712 rfl ?_
  refine zr_iconst hB dL_law_1713 rfl (fun z30 hz30 => ?_)
  refine zr_iadd hB dL_law_1714 (by omega) (by omega) (fun z31 hz31 => ?_)
  refine zl_sld hG (ni + 2) dL_law_1715 (by omega) (by omega) ?_
  clear hz30 hz31
  refine zr_aload_n hB 3 dL_law_1716 rfl ?_
  refine zr_iload_n hB 0 dL_law_1717 rfl ?_
  refine zr_iconst hB dL_law_1718 rfl (fun z32 hz32 => ?_)
  refine zr_iadd hB dL_law_1719 (by omega) (by omega) (fun z33 hz33 => ?_)
  refine zl_sld hG (ni + 3) dL_law_1720 (by omega) (by omega) ?_
  clear hz32 hz33
  refine zr_aload_n hB 3 dL_law_1721 rfl ?_
  refine zr_iload_n hB 0 dL_law_1722 rfl ?_
  refine zr_iconst hB dL_law_1723 rfl (fun z34 hz34 => ?_)
  refine zr_iadd hB dL_law_1724 (by omega) (by omega) (fun z35 hz35 => ?_)
  refine zl_sld hG (ni + 4) dL_law_1725 (by omega) (by omega) ?_
  clear hz34 hz35
  refine zr_aload_n hB 3 dL_law_1726 rfl ?_
  refine zr_iload_n hB 0 dL_law_1727 rfl ?_
  refine zr_iconst hB dL_law_1728 rfl (fun z36 hz36 => ?_)
  refine zr_iadd hB dL_law_1729 (by omega) (by omega) (fun z37 hz37 => ?_)
  refine zl_sld hG (ni + 5) dL_law_1730 (by omega) (by omega) ?_
  clear hz36 hz37
  refine zr_aload_n hB 3 dL_law_1731 rfl ?_
  refine zr_iload_n hB 0 dL_law_1732 rfl ?_
  refine zr_bipush hB dL_law_1733 rfl (fun z38 hz38 => ?_)
  refine zr_iadd hB dL_law_1735 (by omega) (by omega) (fun z39 hz39 => ?_)
  refine zl_sld hG (ni + 6) dL_law_1736 (by omega) (by omega) ?_
  clear hz38 hz39
  refine zl_callM hG (As := [.int (zt_x Z (ni + 1)), .int (zt_x Z (ni + 2)), .int (zt_x Z (ni + 3)), .int (zt_x Z (ni + 4)), .int (zt_x Z (ni + 5)), .int (zt_x Z (ni + 6))]) (rest := []) dL_law_1737 wm_L_146 rfl (c_M_read (zl_K K (zt_M Z)) hG.2.2.2.2.2.2.2.2.2.2.1 σM (zt_x Z (ni + 1)) (zt_x Z (ni + 2)) (zt_x Z (ni + 3)) (zt_x Z (ni + 4)) (zt_x Z (ni + 5)) (zt_x Z (ni + 6)) hOM ) rfl rfl (Nat.le_of_ble_eq_true rfl) ⟨(Nat.le_of_ble_eq_true rfl), (Nat.le_of_ble_eq_true rfl), rfl, rfl⟩ (fun r40 σ41 h42 => ?_)
  obtain ⟨hO43, hA44⟩ := h42
  have hT45 := zm_T.ag hT hA44 rfl (fun _ => rfl) (fun _ => rfl)
  have hN46 : (σ14.1 1 0).toInt = (σ41.1 0 1).toInt := by rw [(hA44 0 1 rfl).1]; exact hN18
  have hL47 : (σ14.1 2 1).toInt = (σ41.1 0 6).toInt := by rw [(hA44 0 6 rfl).1]; exact hL19
  have hF48 : ∀ j : Nat, (σ14.1 15 j).toInt = (σ41.1 2 j).toInt := fun j => by rw [(hA44 2 j rfl).1]; exact hF20 j
  have hD49 : ∀ j : Nat, (σ14.1 16 j).toInt = (σ41.1 3 j).toInt := fun j => by rw [(hA44 3 j rfl).1]; exact hD21 j
  have hSL50 : ∀ j : Nat, zl_R (σ14.1 37 j) (σ41.1 24 j) := fun j => by rw [(hA44 24 j rfl).1]; exact hSL22 j
  have hSN51 : ∀ j : Nat, (σ14.1 38 j).toInt = (σ41.1 25 j).toInt := fun j => by rw [(hA44 25 j rfl).1]; exact hSN23 j
  have hBY52 : zl_B σ14 σ41 := hBY24.m hA44 (fun _ => rfl)
  have hFA53 : (σ14.1 2 3).toInt = (σ41.1 0 7).toInt := by rw [(hA44 0 7 rfl).1]; exact hFA25
  have hE54 : zl_E σ14 σ41 := hE26.m hA44 rfl (fun _ => rfl) (fun _ => rfl) (fun _ => rfl)
  have hK55 : zw_K σ41 := zw_K.ag hK27 hA44 rfl (fun _ => rfl) (fun _ => rfl)
  refine zr_pop hB dL_law_1740 rfl ?_
  refine zr_goto hB dL_law_1741 (tgt := 1780) rfl ?_
  exact kk _ _ ⟨hO16, hO43, hT45, hN46, hL47, hF48, hD49, hSL50, hSN51, hBY52, hFA53, hE54, hK55⟩

theorem lc_30 {K : zc_K} {G : zc_X} {Z : zl_T} (hG : zl_G K G Z) {σX σM : zc_S} {i : Int32} {ni : Nat} (hi : i.toInt = (ni : Int)) (h9 : ni + 9 ≤ zt_L Z) (hv : zl_v σX σM) (kk : ∀ σX' σM', zl_v σX' σM' → zc_V 4 K G (zl_I K G Z σX' σM') [(3, .int i), (2, .ref (zt_M Z 0)), (1, .ref (zt_X Z 0)), (0, .ref (zt_b Z))] 1780 []) : zc_V 4 K G (zl_I K G Z σX σM) [(3, .int i), (2, .ref (zt_M Z 0)), (1, .ref (zt_X Z 0)), (0, .ref (zt_b Z))] 1744 [] := by
  obtain ⟨hOX, hOM, hT, hN, hL, hF, hD, hSL, hSN, hBY, hFA, hE, hK⟩ := hv
  have hB := hG.1
  have hZ := hG.2.2.2.2.2.2.1
  refine zr_aload_n hB 2 dL_law_1744 rfl ?_
  refine zl_callX hG (As := []) (rest := []) dL_law_1745 wm_L_147 rfl (c_X8_torn_0 (zl_K K (zt_X Z)) hG.2.2.2.2.2.2.2.2.2.1 σX  hOX ) rfl rfl (Nat.le_of_ble_eq_true rfl) ⟨(Nat.le_of_ble_eq_true rfl), (Nat.le_of_ble_eq_true rfl), rfl, rfl⟩ (fun r1 σ2 h3 => ?_)
  obtain ⟨rfl, r1a, r1b⟩ := h3
  refine zr_pop hB dL_law_1748 rfl ?_
  refine zr_aload_n hB 1 dL_law_1749 rfl ?_
  refine zl_callM hG (As := []) (rest := []) dL_law_1750 wm_L_150 rfl (c_M_torn (zl_K K (zt_M Z)) hG.2.2.2.2.2.2.2.2.2.2.1 σM  hOM ) rfl rfl (Nat.le_of_ble_eq_true rfl) ⟨(Nat.le_of_ble_eq_true rfl), (Nat.le_of_ble_eq_true rfl), rfl, rfl⟩ (fun r4 σ5 h6 => ?_)
  obtain ⟨rfl, r4a, r4b⟩ := h6
  refine zr_pop hB dL_law_1753 rfl ?_
  refine zr_goto hB dL_law_1754 (tgt := 1780) rfl ?_
  exact kk _ _ ⟨hOX, hOM, hT, hN, hL, hF, hD, hSL, hSN, hBY, hFA, hE, hK⟩

theorem lc_31 {K : zc_K} {G : zc_X} {Z : zl_T} (hG : zl_G K G Z) {σX σM : zc_S} {i : Int32} {ni : Nat} (hi : i.toInt = (ni : Int)) (h9 : ni + 9 ≤ zt_L Z) (hv : zl_v σX σM) (kk : ∀ σX' σM', zl_v σX' σM' → zc_V 4 K G (zl_I K G Z σX' σM') [(3, .int i), (2, .ref (zt_M Z 0)), (1, .ref (zt_X Z 0)), (0, .ref (zt_b Z))] 1780 []) : zc_V 4 K G (zl_I K G Z σX σM) [(3, .int i), (2, .ref (zt_M Z 0)), (1, .ref (zt_X Z 0)), (0, .ref (zt_b Z))] 1757 [] := by
  obtain ⟨hOX, hOM, hT, hN, hL, hF, hD, hSL, hSN, hBY, hFA, hE, hK⟩ := hv
  have hB := hG.1
  have hZ := hG.2.2.2.2.2.2.1
  refine zr_aload_n hB 2 dL_law_1757 rfl ?_
  refine zr_aload_n hB 3 dL_law_1758 rfl ?_
  refine zr_iload_n hB 0 dL_law_1759 rfl ?_
  refine zr_iconst hB dL_law_1760 rfl (fun z1 hz1 => ?_)
  refine zr_iadd hB dL_law_1761 (by omega) (by omega) (fun z2 hz2 => ?_)
  refine zl_sld hG (ni + 1) dL_law_1762 (by omega) (by omega) ?_
  clear hz1 hz2
  refine zl_callX hG (As := [.int (zt_x Z (ni + 1))]) (rest := []) dL_law_1763 wm_L_151 rfl (c_X8_count_0 (zl_K K (zt_X Z)) hG.2.2.2.2.2.2.2.2.2.1 σX (zt_x Z (ni + 1)) hOX ) rfl rfl (Nat.le_of_ble_eq_true rfl) ⟨(Nat.le_of_ble_eq_true rfl), (Nat.le_of_ble_eq_true rfl), rfl, rfl⟩ (fun r3 σ4 h5 => ?_)
  obtain rfl := h5
  refine zr_pop hB dL_law_1766 rfl ?_
  refine zr_aload_n hB 1 dL_law_1767 rfl ?_
  refine zr_aload_n hB 3 dL_law_1768 rfl ?_
  refine zr_iload_n hB 0 dL_law_1769 rfl ?_
  refine zr_iconst hB dL_law_1770 rfl (fun z6 hz6 => ?_)
  refine zr_iadd hB dL_law_1771 (by omega) (by omega) (fun z7 hz7 => ?_)
  refine zl_sld hG (ni + 1) dL_law_1772 (by omega) (by omega) ?_
  clear hz6 hz7
  refine zl_callM hG (As := [.int (zt_x Z (ni + 1))]) (rest := []) dL_law_1773 wm_L_154 rfl (c_M_count (zl_K K (zt_M Z)) hG.2.2.2.2.2.2.2.2.2.2.1 σM (zt_x Z (ni + 1)) hOM ) rfl rfl (Nat.le_of_ble_eq_true rfl) ⟨(Nat.le_of_ble_eq_true rfl), (Nat.le_of_ble_eq_true rfl), rfl, rfl⟩ (fun r8 σ9 h10 => ?_)
  obtain rfl := h10
  refine zr_pop hB dL_law_1776 rfl ?_
  refine zr_goto hB dL_law_1777 (tgt := 1780) rfl ?_
  exact kk _ _ ⟨hOX, hOM, hT, hN, hL, hF, hD, hSL, hSN, hBY, hFA, hE, hK⟩

