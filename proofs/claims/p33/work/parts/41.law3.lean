theorem lc_24 {K : zc_K} {G : zc_X} {Z : zl_T} (hG : zl_G K G Z) {σX σM : zc_S} {i : Int32} {ni : Nat} (hi : i.toInt = (ni : Int)) (h9 : ni + 9 ≤ zt_L Z) (hv : zl_v σX σM) (kk : ∀ σX' σM', zl_v σX' σM' → zc_V 4 K G (zl_I K G Z σX' σM') [(3, .int i), (2, .ref (zt_M Z 0)), (1, .ref (zt_X Z 0)), (0, .ref (zt_b Z))] 1780 []) : zc_V 4 K G (zl_I K G Z σX σM) [(3, .int i), (2, .ref (zt_M Z 0)), (1, .ref (zt_X Z 0)), (0, .ref (zt_b Z))] 1504 [] := by
  obtain ⟨hOX, hOM, hT, hN, hL, hF, hD, hSL, hSN, hSC, hW, hBY, hFA, hE, hK, hNT⟩ := hv
  have hB := hG.1
  have hZ := hG.2.2.2.2.2.2.1
  refine zr_aload_n hB 2 dL_law_1504 rfl ?_
  refine zr_aload_n hB 3 dL_law_1505 rfl ?_
  refine zr_iload_n hB 0 dL_law_1506 rfl ?_
  refine zr_iconst hB dL_law_1507 rfl (fun z1 hz1 => ?_)
  refine zr_iadd hB dL_law_1508 (by omega) (by omega) (fun z2 hz2 => ?_)
  refine zl_sld hG (ni + 1) dL_law_1509 (by omega) (by omega) ?_
  clear hz1 hz2
  refine zr_aload_n hB 3 dL_law_1510 rfl ?_
  refine zr_iload_n hB 0 dL_law_1511 rfl ?_
  refine zr_iconst hB dL_law_1512 rfl (fun z3 hz3 => ?_)
  refine zr_iadd hB dL_law_1513 (by omega) (by omega) (fun z4 hz4 => ?_)
  refine zl_sld hG (ni + 2) dL_law_1514 (by omega) (by omega) ?_
  clear hz3 hz4
  refine zl_callX hG (As := [.int (zt_x Z (ni + 1)), .int (zt_x Z (ni + 2))]) (rest := []) dL_law_1515 wm_L_123 rfl (c_X8_noteOf_0 (zl_K K (zt_X Z)) hG.2.2.2.2.2.2.2.2.2.1 σX (zt_x Z (ni + 1)) (zt_x Z (ni + 2)) hOX ) rfl rfl (Nat.le_of_ble_eq_true rfl) ⟨(Nat.le_of_ble_eq_true rfl), (Nat.le_of_ble_eq_true rfl), rfl, rfl⟩ (fun r5 σ6 h7 => ?_)
  obtain rfl := h7
  refine zr_pop hB dL_law_1518 rfl ?_
  refine zr_aload_n hB 1 dL_law_1519 rfl ?_
  refine zr_aload_n hB 3 dL_law_1520 rfl ?_
  refine zr_iload_n hB 0 dL_law_1521 rfl ?_
  refine zr_iconst hB dL_law_1522 rfl (fun z8 hz8 => ?_)
  refine zr_iadd hB dL_law_1523 (by omega) (by omega) (fun z9 hz9 => ?_)
  refine zl_sld hG (ni + 1) dL_law_1524 (by omega) (by omega) ?_
  clear hz8 hz9
  refine zr_aload_n hB 3 dL_law_1525 rfl ?_
  refine zr_iload_n hB 0 dL_law_1526 rfl ?_
  refine zr_iconst hB dL_law_1527 rfl (fun z10 hz10 => ?_)
  refine zr_iadd hB dL_law_1528 (by omega) (by omega) (fun z11 hz11 => ?_)
  refine zl_sld hG (ni + 2) dL_law_1529 (by omega) (by omega) ?_
  clear hz10 hz11
  refine zl_callM hG (As := [.int (zt_x Z (ni + 1)), .int (zt_x Z (ni + 2))]) (rest := []) dL_law_1530 wm_L_126 rfl (c_M_noteOf (zl_K K (zt_M Z)) hG.2.2.2.2.2.2.2.2.2.2.1 σM (zt_x Z (ni + 1)) (zt_x Z (ni + 2)) hOM ) rfl rfl (Nat.le_of_ble_eq_true rfl) ⟨(Nat.le_of_ble_eq_true rfl), (Nat.le_of_ble_eq_true rfl), rfl, rfl⟩ (fun r12 σ13 h14 => ?_)
  obtain rfl := h14
  refine zr_pop hB dL_law_1533 rfl ?_
  refine zr_goto hB dL_law_1534 (tgt := 1780) rfl ?_
  exact kk _ _ ⟨hOX, hOM, hT, hN, hL, hF, hD, hSL, hSN, hSC, hW, hBY, hFA, hE, hK, hNT⟩

theorem lc_25 {K : zc_K} {G : zc_X} {Z : zl_T} (hG : zl_G K G Z) {σX σM : zc_S} {i : Int32} {ni : Nat} (hi : i.toInt = (ni : Int)) (h9 : ni + 9 ≤ zt_L Z) (hv : zl_v σX σM) (kk : ∀ σX' σM', zl_v σX' σM' → zc_V 4 K G (zl_I K G Z σX' σM') [(3, .int i), (2, .ref (zt_M Z 0)), (1, .ref (zt_X Z 0)), (0, .ref (zt_b Z))] 1780 []) : zc_V 4 K G (zl_I K G Z σX σM) [(3, .int i), (2, .ref (zt_M Z 0)), (1, .ref (zt_X Z 0)), (0, .ref (zt_b Z))] 1537 [] := by
  obtain ⟨hOX, hOM, hT, hN, hL, hF, hD, hSL, hSN, hSC, hW, hBY, hFA, hE, hK, hNT⟩ := hv
  have hB := hG.1
  have hZ := hG.2.2.2.2.2.2.1
  refine zr_aload_n hB 2 dL_law_1537 rfl ?_
  refine zr_aload_n hB 3 dL_law_1538 rfl ?_
  refine zr_iload_n hB 0 dL_law_1539 rfl ?_
  refine zr_iconst hB dL_law_1540 rfl (fun z1 hz1 => ?_)
  refine zr_iadd hB dL_law_1541 (by omega) (by omega) (fun z2 hz2 => ?_)
  refine zl_sld hG (ni + 1) dL_law_1542 (by omega) (by omega) ?_
  clear hz1 hz2
  refine zl_callX hG (As := [.int (zt_x Z (ni + 1))]) (rest := []) dL_law_1543 wm_L_127 rfl (c_X8_acted_0 (zl_K K (zt_X Z)) hG.2.2.2.2.2.2.2.2.2.1 σX (zt_x Z (ni + 1)) hOX ) rfl rfl (Nat.le_of_ble_eq_true rfl) ⟨(Nat.le_of_ble_eq_true rfl), (Nat.le_of_ble_eq_true rfl), rfl, rfl⟩ (fun r3 σ4 h5 => ?_)
  obtain ⟨hO6, hA7, g8⟩ := h5
  have hN9 : (σ4.1 1 0).toInt = (σM.1 0 1).toInt := by rw [(hA7 1 0 rfl).1]; exact hN
  have hL10 : (σ4.1 2 1).toInt = (σM.1 0 6).toInt := by rw [(hA7 2 1 rfl).1]; exact hL
  have hF11 : ∀ j : Nat, (σ4.1 15 j).toInt = (σM.1 2 j).toInt := fun j => by rw [(hA7 15 j rfl).1]; exact hF j
  have hD12 : ∀ j : Nat, (σ4.1 16 j).toInt = (σM.1 3 j).toInt := fun j => by rw [(hA7 16 j rfl).1]; exact hD j
  have hSL13 : ∀ j : Nat, zl_R (σ4.1 37 j) (σM.1 24 j) := fun j => by rw [(hA7 37 j rfl).1]; exact hSL j
  have hSN14 : ∀ j : Nat, (σ4.1 38 j).toInt = (σM.1 25 j).toInt := fun j => by rw [(hA7 38 j rfl).1]; exact hSN j
  have hSC15 : zl_SC σ4 σM := hSC.x hA7 (fun _ => rfl) (fun _ => rfl)
  have hW16 : zl_W σ4 σM := hW.x hA7 rfl (fun _ => rfl) (fun _ => rfl) (fun _ => rfl) (fun _ => rfl)
  have hBY17 : zl_B σ4 σM := hBY.x hA7 rfl (fun _ => rfl)
  have hFA18 : (σ4.1 2 3).toInt = (σM.1 0 7).toInt := by rw [(hA7 2 3 rfl).1]; exact hFA
  have hE19 : zl_E σ4 σM := hE.x hA7 rfl (fun _ => rfl) (fun _ => rfl) (fun _ => rfl)
  have hK20 : zw_K σM := hK
  refine zr_pop hB dL_law_1546 rfl ?_
  refine zr_aload_n hB 1 dL_law_1547 rfl ?_
  refine zr_aload_n hB 3 dL_law_1548 rfl ?_
  refine zr_iload_n hB 0 dL_law_1549 rfl ?_
  refine zr_iconst hB dL_law_1550 rfl (fun z22 hz22 => ?_)
  refine zr_iadd hB dL_law_1551 (by omega) (by omega) (fun z23 hz23 => ?_)
  refine zl_sld hG (ni + 1) dL_law_1552 (by omega) (by omega) ?_
  clear hz22 hz23
  refine zl_callM hG (As := [.int (zt_x Z (ni + 1))]) (rest := []) dL_law_1553 wm_L_130 rfl (c_M_acted (zl_K K (zt_M Z)) hG.2.2.2.2.2.2.2.2.2.2.1 σM (zt_x Z (ni + 1)) hOM ) rfl rfl (Nat.le_of_ble_eq_true rfl) ⟨(Nat.le_of_ble_eq_true rfl), (Nat.le_of_ble_eq_true rfl), rfl, rfl⟩ (fun r24 σ25 h26 => ?_)
  obtain ⟨hO27, hA28, g29⟩ := h26
  have hT30 := zm_T.ag hT hA28 rfl (fun _ => rfl) (fun _ => rfl)
  have hN31 : (σ4.1 1 0).toInt = (σ25.1 0 1).toInt := by rw [(hA28 0 1 rfl).1]; exact hN9
  have hL32 : (σ4.1 2 1).toInt = (σ25.1 0 6).toInt := by rw [(hA28 0 6 rfl).1]; exact hL10
  have hF33 : ∀ j : Nat, (σ4.1 15 j).toInt = (σ25.1 2 j).toInt := fun j => by rw [(hA28 2 j rfl).1]; exact hF11 j
  have hD34 : ∀ j : Nat, (σ4.1 16 j).toInt = (σ25.1 3 j).toInt := fun j => by rw [(hA28 3 j rfl).1]; exact hD12 j
  have hSL35 : ∀ j : Nat, zl_R (σ4.1 37 j) (σ25.1 24 j) := fun j => by rw [(hA28 24 j rfl).1]; exact hSL13 j
  have hSN36 : ∀ j : Nat, (σ4.1 38 j).toInt = (σ25.1 25 j).toInt := fun j => by rw [(hA28 25 j rfl).1]; exact hSN14 j
  have hSC37 : zl_SC σ4 σ25 := hSC15.m hA28 (fun _ => rfl)
  have hW38 : zl_W σ4 σ25 := hW16.m hA28 (fun _ => rfl) rfl
  have hBY39 : zl_B σ4 σ25 := hBY17.m hA28 (fun _ => rfl)
  have hFA40 : (σ4.1 2 3).toInt = (σ25.1 0 7).toInt := by rw [(hA28 0 7 rfl).1]; exact hFA18
  have hE41 : zl_E σ4 σ25 := hE19.m hA28 rfl (fun _ => rfl) (fun _ => rfl) (fun _ => rfl)
  have hK42 : zw_K σ25 := zw_K.ag hK20 hA28 rfl (fun _ => rfl) (fun _ => rfl)
  have hNT43 : zl_N σ4 σ25 := (zp_act g8 g29 (by have e9 := hNT.1; constructor <;> intro h9 <;> omega) (fun hv => (hNT.2.1 _ (by omega)).2.2) (fun hv => zp_cq hW hN hNT (by omega) (hOX 30 _).1 (hOX 30 _).2.1 (hOX 1 0).1 (hOX 1 0).2.1) (fun a b => by rw [a, b]; exact hNT) (fun hv a b => zl_Nt hNT (by omega) a b)).2
  refine zr_pop hB dL_law_1556 rfl ?_
  refine zr_goto hB dL_law_1557 (tgt := 1780) rfl ?_
  exact kk _ _ ⟨hO6, hO27, hT30, hN31, hL32, hF33, hD34, hSL35, hSN36, hSC37, hW38, hBY39, hFA40, hE41, hK42, hNT43⟩

theorem lc_26 {K : zc_K} {G : zc_X} {Z : zl_T} (hG : zl_G K G Z) {σX σM : zc_S} {i : Int32} {ni : Nat} (hi : i.toInt = (ni : Int)) (h9 : ni + 9 ≤ zt_L Z) (hv : zl_v σX σM) (kk : ∀ σX' σM', zl_v σX' σM' → zc_V 4 K G (zl_I K G Z σX' σM') [(3, .int i), (2, .ref (zt_M Z 0)), (1, .ref (zt_X Z 0)), (0, .ref (zt_b Z))] 1780 []) : zc_V 4 K G (zl_I K G Z σX σM) [(3, .int i), (2, .ref (zt_M Z 0)), (1, .ref (zt_X Z 0)), (0, .ref (zt_b Z))] 1560 [] := by
  obtain ⟨hOX, hOM, hT, hN, hL, hF, hD, hSL, hSN, hSC, hW, hBY, hFA, hE, hK, hNT⟩ := hv
  have hB := hG.1
  have hZ := hG.2.2.2.2.2.2.1
  refine zr_aload_n hB 2 dL_law_1560 rfl ?_
  refine zr_aload_n hB 3 dL_law_1561 rfl ?_
  refine zr_iload_n hB 0 dL_law_1562 rfl ?_
  refine zr_iconst hB dL_law_1563 rfl (fun z1 hz1 => ?_)
  refine zr_iadd hB dL_law_1564 (by omega) (by omega) (fun z2 hz2 => ?_)
  refine zl_sld hG (ni + 1) dL_law_1565 (by omega) (by omega) ?_
  clear hz1 hz2
  refine zl_callX hG (As := [.int (zt_x Z (ni + 1))]) (rest := []) dL_law_1566 wm_L_131 rfl (c_X8_notes_0 (zl_K K (zt_X Z)) hG.2.2.2.2.2.2.2.2.2.1 σX (zt_x Z (ni + 1)) hOX ) rfl rfl (Nat.le_of_ble_eq_true rfl) ⟨(Nat.le_of_ble_eq_true rfl), (Nat.le_of_ble_eq_true rfl), rfl, rfl⟩ (fun r3 σ4 h5 => ?_)
  obtain rfl := h5
  refine zr_pop hB dL_law_1569 rfl ?_
  refine zr_aload_n hB 1 dL_law_1570 rfl ?_
  refine zr_aload_n hB 3 dL_law_1571 rfl ?_
  refine zr_iload_n hB 0 dL_law_1572 rfl ?_
  refine zr_iconst hB dL_law_1573 rfl (fun z6 hz6 => ?_)
  refine zr_iadd hB dL_law_1574 (by omega) (by omega) (fun z7 hz7 => ?_)
  refine zl_sld hG (ni + 1) dL_law_1575 (by omega) (by omega) ?_
  clear hz6 hz7
  refine zl_callM hG (As := [.int (zt_x Z (ni + 1))]) (rest := []) dL_law_1576 wm_L_134 rfl (c_M_notes (zl_K K (zt_M Z)) hG.2.2.2.2.2.2.2.2.2.2.1 σM (zt_x Z (ni + 1)) hOM ) rfl rfl (Nat.le_of_ble_eq_true rfl) ⟨(Nat.le_of_ble_eq_true rfl), (Nat.le_of_ble_eq_true rfl), rfl, rfl⟩ (fun r8 σ9 h10 => ?_)
  obtain rfl := h10
  refine zr_pop hB dL_law_1579 rfl ?_
  refine zr_goto hB dL_law_1580 (tgt := 1780) rfl ?_
  exact kk _ _ ⟨hOX, hOM, hT, hN, hL, hF, hD, hSL, hSN, hSC, hW, hBY, hFA, hE, hK, hNT⟩

theorem lc_27 {K : zc_K} {G : zc_X} {Z : zl_T} (hG : zl_G K G Z) {σX σM : zc_S} {i : Int32} {ni : Nat} (hi : i.toInt = (ni : Int)) (h9 : ni + 9 ≤ zt_L Z) (hv : zl_v σX σM) (kk : ∀ σX' σM', zl_v σX' σM' → zc_V 4 K G (zl_I K G Z σX' σM') [(3, .int i), (2, .ref (zt_M Z 0)), (1, .ref (zt_X Z 0)), (0, .ref (zt_b Z))] 1780 []) : zc_V 4 K G (zl_I K G Z σX σM) [(3, .int i), (2, .ref (zt_M Z 0)), (1, .ref (zt_X Z 0)), (0, .ref (zt_b Z))] 1583 [] := by
  obtain ⟨hOX, hOM, hT, hN, hL, hF, hD, hSL, hSN, hSC, hW, hBY, hFA, hE, hK, hNT⟩ := hv
  have hB := hG.1
  have hZ := hG.2.2.2.2.2.2.1
  refine zr_aload_n hB 2 dL_law_1583 rfl ?_
  refine zr_aload_n hB 3 dL_law_1584 rfl ?_
  refine zr_iload_n hB 0 dL_law_1585 rfl ?_
  refine zr_iconst hB dL_law_1586 rfl (fun z1 hz1 => ?_)
  refine zr_iadd hB dL_law_1587 (by omega) (by omega) (fun z2 hz2 => ?_)
  refine zl_sld hG (ni + 1) dL_law_1588 (by omega) (by omega) ?_
  clear hz1 hz2
  refine zr_aload_n hB 3 dL_law_1589 rfl ?_
  refine zr_iload_n hB 0 dL_law_1590 rfl ?_
  refine zr_iconst hB dL_law_1591 rfl (fun z3 hz3 => ?_)
  refine zr_iadd hB dL_law_1592 (by omega) (by omega) (fun z4 hz4 => ?_)
  refine zl_sld hG (ni + 2) dL_law_1593 (by omega) (by omega) ?_
  clear hz3 hz4
  refine zr_aload_n hB 3 dL_law_1594 rfl ?_
  refine zr_iload_n hB 0 dL_law_1595 rfl ?_
  refine zr_iconst hB dL_law_1596 rfl (fun z5 hz5 => ?_)
  refine zr_iadd hB dL_law_1597 (by omega) (by omega) (fun z6 hz6 => ?_)
  refine zl_sld hG (ni + 3) dL_law_1598 (by omega) (by omega) ?_
  clear hz5 hz6
  refine zl_callX hG (As := [.int (zt_x Z (ni + 1)), .int (zt_x Z (ni + 2)), .int (zt_x Z (ni + 3))]) (rest := []) dL_law_1599 wm_L_135 rfl (c_X8_sheet_0 (zl_K K (zt_X Z)) hG.2.2.2.2.2.2.2.2.2.1 σX (zt_x Z (ni + 1)) (zt_x Z (ni + 2)) (zt_x Z (ni + 3)) hOX ) rfl rfl (Nat.le_of_ble_eq_true rfl) ⟨(Nat.le_of_ble_eq_true rfl), (Nat.le_of_ble_eq_true rfl), rfl, rfl⟩ (fun r7 σ8 h9 => ?_)
  obtain ⟨hO10, hA11, g12⟩ := h9
  have hN13 : (σ8.1 1 0).toInt = (σM.1 0 1).toInt := by rw [(hA11 1 0 rfl).1]; exact hN
  have hL14 : (σ8.1 2 1).toInt = (σM.1 0 6).toInt := by rw [(hA11 2 1 rfl).1]; exact hL
  have hF15 : ∀ j : Nat, (σ8.1 15 j).toInt = (σM.1 2 j).toInt := fun j => by rw [(hA11 15 j rfl).1]; exact hF j
  have hD16 : ∀ j : Nat, (σ8.1 16 j).toInt = (σM.1 3 j).toInt := fun j => by rw [(hA11 16 j rfl).1]; exact hD j
  have hW20 : zl_W σ8 σM := hW.x hA11 rfl (fun _ => rfl) (fun _ => rfl) (fun _ => rfl) (fun _ => rfl)
  have hBY21 : zl_B σ8 σM := hBY.x hA11 rfl (fun _ => rfl)
  have hFA22 : (σ8.1 2 3).toInt = (σM.1 0 7).toInt := by rw [(hA11 2 3 rfl).1]; exact hFA
  have hE23 : zl_E σ8 σM := hE.x hA11 rfl (fun _ => rfl) (fun _ => rfl) (fun _ => rfl)
  have hK24 : zw_K σM := hK
  have hNT25 : zl_N σ8 σM := hNT.x hA11 rfl (fun _ => rfl) (fun _ => rfl) (fun _ => rfl)
  refine zr_pop hB dL_law_1602 rfl ?_
  refine zr_aload_n hB 1 dL_law_1603 rfl ?_
  refine zr_aload_n hB 3 dL_law_1604 rfl ?_
  refine zr_iload_n hB 0 dL_law_1605 rfl ?_
  refine zr_iconst hB dL_law_1606 rfl (fun z26 hz26 => ?_)
  refine zr_iadd hB dL_law_1607 (by omega) (by omega) (fun z27 hz27 => ?_)
  refine zl_sld hG (ni + 1) dL_law_1608 (by omega) (by omega) ?_
  clear hz26 hz27
  refine zr_aload_n hB 3 dL_law_1609 rfl ?_
  refine zr_iload_n hB 0 dL_law_1610 rfl ?_
  refine zr_iconst hB dL_law_1611 rfl (fun z28 hz28 => ?_)
  refine zr_iadd hB dL_law_1612 (by omega) (by omega) (fun z29 hz29 => ?_)
  refine zl_sld hG (ni + 2) dL_law_1613 (by omega) (by omega) ?_
  clear hz28 hz29
  refine zr_aload_n hB 3 dL_law_1614 rfl ?_
  refine zr_iload_n hB 0 dL_law_1615 rfl ?_
  refine zr_iconst hB dL_law_1616 rfl (fun z30 hz30 => ?_)
  refine zr_iadd hB dL_law_1617 (by omega) (by omega) (fun z31 hz31 => ?_)
  refine zl_sld hG (ni + 3) dL_law_1618 (by omega) (by omega) ?_
  clear hz30 hz31
  refine zl_callM hG (As := [.int (zt_x Z (ni + 1)), .int (zt_x Z (ni + 2)), .int (zt_x Z (ni + 3))]) (rest := []) dL_law_1619 wm_L_138 rfl (c_M_sheet (zl_K K (zt_M Z)) hG.2.2.2.2.2.2.2.2.2.2.1 σM (zt_x Z (ni + 1)) (zt_x Z (ni + 2)) (zt_x Z (ni + 3)) hOM ) rfl rfl (Nat.le_of_ble_eq_true rfl) ⟨(Nat.le_of_ble_eq_true rfl), (Nat.le_of_ble_eq_true rfl), rfl, rfl⟩ (fun r32 σ33 h34 => ?_)
  obtain ⟨hO35, hA36, g37⟩ := h34
  have hT38 := zm_T.ag hT hA36 rfl (fun _ => rfl) (fun _ => rfl)
  have hN39 : (σ8.1 1 0).toInt = (σ33.1 0 1).toInt := by rw [(hA36 0 1 rfl).1]; exact hN13
  have hL40 : (σ8.1 2 1).toInt = (σ33.1 0 6).toInt := by rw [(hA36 0 6 rfl).1]; exact hL14
  have hF41 : ∀ j : Nat, (σ8.1 15 j).toInt = (σ33.1 2 j).toInt := fun j => by rw [(hA36 2 j rfl).1]; exact hF15 j
  have hD42 : ∀ j : Nat, (σ8.1 16 j).toInt = (σ33.1 3 j).toInt := fun j => by rw [(hA36 3 j rfl).1]; exact hD16 j
  have hSL43 : ∀ j : Nat, zl_R (σ8.1 37 j) (σ33.1 24 j) := by rcases g12 with ⟨a1, a2, a3, a4, a5⟩ | ⟨a1, a2, a0, a3, a4, a5⟩ | ⟨a1, a2, a0, a3, a4, a5⟩ <;> rcases g37 with ⟨b1, b2, b3, b4, b5⟩ | ⟨b1, b2, b0, b3, b4, b5⟩ | ⟨b1, b2, b0, b3, b4, b5⟩ <;> first | (exfalso; omega) | (rw [a3, b3]; exact hSL) | (rw [a3, b3]; exact zl_lu hSL (Or.inr ⟨by omega, rfl⟩))
  have hSN44 : ∀ j : Nat, (σ8.1 38 j).toInt = (σ33.1 25 j).toInt := by rcases g12 with ⟨a1, a2, a3, a4, a5⟩ | ⟨a1, a2, a0, a3, a4, a5⟩ | ⟨a1, a2, a0, a3, a4, a5⟩ <;> rcases g37 with ⟨b1, b2, b3, b4, b5⟩ | ⟨b1, b2, b0, b3, b4, b5⟩ | ⟨b1, b2, b0, b3, b4, b5⟩ <;> first | (exfalso; omega) | (rw [a4, b4]; exact hSN) | (rw [a4, b4]; exact zl_lue hSN rfl)
  have hSC45 : zl_SC σ8 σ33 := by rcases g12 with ⟨a1, a2, a3, a4, a5⟩ | ⟨a1, a2, a0, a3, a4, a5⟩ | ⟨a1, a2, a0, a3, a4, a5⟩ <;> rcases g37 with ⟨b1, b2, b3, b4, b5⟩ | ⟨b1, b2, b0, b3, b4, b5⟩ | ⟨b1, b2, b0, b3, b4, b5⟩ <;> first | (exfalso; omega) | exact zl_SCs hSC a4 a5 b5 | exact zl_SCn hSC (fun k => (hOX 38 k).2.1) (by omega) (by omega) a4 a5 b5
  have hW46 : zl_W σ8 σ33 := hW20.m hA36 (fun _ => rfl) rfl
  have hBY47 : zl_B σ8 σ33 := hBY21.m hA36 (fun _ => rfl)
  have hFA48 : (σ8.1 2 3).toInt = (σ33.1 0 7).toInt := by rw [(hA36 0 7 rfl).1]; exact hFA22
  have hE49 : zl_E σ8 σ33 := hE23.m hA36 rfl (fun _ => rfl) (fun _ => rfl) (fun _ => rfl)
  have hK50 : zw_K σ33 := zw_K.ag hK24 hA36 rfl (fun _ => rfl) (fun _ => rfl)
  have hNT51 : zl_N σ8 σ33 := hNT25.m hA36 rfl (fun _ => rfl) (fun _ => rfl) (fun _ => rfl)
  refine zr_pop hB dL_law_1622 rfl ?_
  refine zr_goto hB dL_law_1623 (tgt := 1780) rfl ?_
  exact kk _ _ ⟨hO10, hO35, hT38, hN39, hL40, hF41, hD42, hSL43, hSN44, hSC45, hW46, hBY47, hFA48, hE49, hK50, hNT51⟩

theorem lc_28 {K : zc_K} {G : zc_X} {Z : zl_T} (hG : zl_G K G Z) {σX σM : zc_S} {i : Int32} {ni : Nat} (hi : i.toInt = (ni : Int)) (h9 : ni + 9 ≤ zt_L Z) (hv : zl_v σX σM) (kk : ∀ σX' σM', zl_v σX' σM' → zc_V 4 K G (zl_I K G Z σX' σM') [(3, .int i), (2, .ref (zt_M Z 0)), (1, .ref (zt_X Z 0)), (0, .ref (zt_b Z))] 1780 []) : zc_V 4 K G (zl_I K G Z σX σM) [(3, .int i), (2, .ref (zt_M Z 0)), (1, .ref (zt_X Z 0)), (0, .ref (zt_b Z))] 1626 [] := by
  obtain ⟨hOX, hOM, hT, hN, hL, hF, hD, hSL, hSN, hSC, hW, hBY, hFA, hE, hK, hNT⟩ := hv
  have hB := hG.1
  have hZ := hG.2.2.2.2.2.2.1
  refine zr_aload_n hB 2 dL_law_1626 rfl ?_
  refine zr_aload_n hB 3 dL_law_1627 rfl ?_
  refine zr_iload_n hB 0 dL_law_1628 rfl ?_
  refine zr_iconst hB dL_law_1629 rfl (fun z1 hz1 => ?_)
  refine zr_iadd hB dL_law_1630 (by omega) (by omega) (fun z2 hz2 => ?_)
  refine zl_sld hG (ni + 1) dL_law_1631 (by omega) (by omega) ?_
  clear hz1 hz2
  refine zr_aload_n hB 3 dL_law_1632 rfl ?_
  refine zr_iload_n hB 0 dL_law_1633 rfl ?_
  refine zr_iconst hB dL_law_1634 rfl (fun z3 hz3 => ?_)
  refine zr_iadd hB dL_law_1635 (by omega) (by omega) (fun z4 hz4 => ?_)
  refine zl_sld hG (ni + 2) dL_law_1636 (by omega) (by omega) ?_
  clear hz3 hz4
  refine zr_aload_n hB 3 dL_law_1637 rfl ?_
  refine zr_iload_n hB 0 dL_law_1638 rfl ?_
  refine zr_iconst hB dL_law_1639 rfl (fun z5 hz5 => ?_)
  refine zr_iadd hB dL_law_1640 (by omega) (by omega) (fun z6 hz6 => ?_)
  refine zl_sld hG (ni + 3) dL_law_1641 (by omega) (by omega) ?_
  clear hz5 hz6
  refine zl_callX hG (As := [.int (zt_x Z (ni + 1)), .int (zt_x Z (ni + 2)), .int (zt_x Z (ni + 3))]) (rest := []) dL_law_1642 wm_L_139 rfl (c_X8_lay_0 (zl_K K (zt_X Z)) hG.2.2.2.2.2.2.2.2.2.1 σX (zt_x Z (ni + 1)) (zt_x Z (ni + 2)) (zt_x Z (ni + 3)) hOX ) rfl rfl (Nat.le_of_ble_eq_true rfl) ⟨(Nat.le_of_ble_eq_true rfl), (Nat.le_of_ble_eq_true rfl), rfl, rfl⟩ (fun r7 σ8 h9 => ?_)
  obtain ⟨hO10, hA11, g12⟩ := h9
  have hN13 : (σ8.1 1 0).toInt = (σM.1 0 1).toInt := by rw [(hA11 1 0 rfl).1]; exact hN
  have hL14 : (σ8.1 2 1).toInt = (σM.1 0 6).toInt := by rw [(hA11 2 1 rfl).1]; exact hL
  have hF15 : ∀ j : Nat, (σ8.1 15 j).toInt = (σM.1 2 j).toInt := fun j => by rw [(hA11 15 j rfl).1]; exact hF j
  have hD16 : ∀ j : Nat, (σ8.1 16 j).toInt = (σM.1 3 j).toInt := fun j => by rw [(hA11 16 j rfl).1]; exact hD j
  have hSL17 : ∀ j : Nat, zl_R (σ8.1 37 j) (σM.1 24 j) := fun j => by rw [(hA11 37 j rfl).1]; exact hSL j
  have hSN18 : ∀ j : Nat, (σ8.1 38 j).toInt = (σM.1 25 j).toInt := fun j => by rw [(hA11 38 j rfl).1]; exact hSN j
  have hW20 : zl_W σ8 σM := hW.x hA11 rfl (fun _ => rfl) (fun _ => rfl) (fun _ => rfl) (fun _ => rfl)
  have hBY21 : zl_B σ8 σM := hBY.x hA11 rfl (fun _ => rfl)
  have hFA22 : (σ8.1 2 3).toInt = (σM.1 0 7).toInt := by rw [(hA11 2 3 rfl).1]; exact hFA
  have hE23 : zl_E σ8 σM := hE.x hA11 rfl (fun _ => rfl) (fun _ => rfl) (fun _ => rfl)
  have hK24 : zw_K σM := hK
  have hNT25 : zl_N σ8 σM := hNT.x hA11 rfl (fun _ => rfl) (fun _ => rfl) (fun _ => rfl)
  refine zr_pop hB dL_law_1645 rfl ?_
  refine zr_aload_n hB 1 dL_law_1646 rfl ?_
  refine zr_aload_n hB 3 dL_law_1647 rfl ?_
  refine zr_iload_n hB 0 dL_law_1648 rfl ?_
  refine zr_iconst hB dL_law_1649 rfl (fun z26 hz26 => ?_)
  refine zr_iadd hB dL_law_1650 (by omega) (by omega) (fun z27 hz27 => ?_)
  refine zl_sld hG (ni + 1) dL_law_1651 (by omega) (by omega) ?_
  clear hz26 hz27
  refine zr_aload_n hB 3 dL_law_1652 rfl ?_
  refine zr_iload_n hB 0 dL_law_1653 rfl ?_
  refine zr_iconst hB dL_law_1654 rfl (fun z28 hz28 => ?_)
  refine zr_iadd hB dL_law_1655 (by omega) (by omega) (fun z29 hz29 => ?_)
  refine zl_sld hG (ni + 2) dL_law_1656 (by omega) (by omega) ?_
  clear hz28 hz29
  refine zr_aload_n hB 3 dL_law_1657 rfl ?_
  refine zr_iload_n hB 0 dL_law_1658 rfl ?_
  refine zr_iconst hB dL_law_1659 rfl (fun z30 hz30 => ?_)
  refine zr_iadd hB dL_law_1660 (by omega) (by omega) (fun z31 hz31 => ?_)
  refine zl_sld hG (ni + 3) dL_law_1661 (by omega) (by omega) ?_
  clear hz30 hz31
  refine zl_callM hG (As := [.int (zt_x Z (ni + 1)), .int (zt_x Z (ni + 2)), .int (zt_x Z (ni + 3))]) (rest := []) dL_law_1662 wm_L_142 rfl (c_M_lay (zl_K K (zt_M Z)) hG.2.2.2.2.2.2.2.2.2.2.1 σM (zt_x Z (ni + 1)) (zt_x Z (ni + 2)) (zt_x Z (ni + 3)) hOM ) rfl rfl (Nat.le_of_ble_eq_true rfl) ⟨(Nat.le_of_ble_eq_true rfl), (Nat.le_of_ble_eq_true rfl), rfl, rfl⟩ (fun r32 σ33 h34 => ?_)
  obtain ⟨hO35, hA36, g37⟩ := h34
  have hT38 := zm_T.ag hT hA36 rfl (fun _ => rfl) (fun _ => rfl)
  have hN39 : (σ8.1 1 0).toInt = (σ33.1 0 1).toInt := by rw [(hA36 0 1 rfl).1]; exact hN13
  have hL40 : (σ8.1 2 1).toInt = (σ33.1 0 6).toInt := by rw [(hA36 0 6 rfl).1]; exact hL14
  have hF41 : ∀ j : Nat, (σ8.1 15 j).toInt = (σ33.1 2 j).toInt := fun j => by rw [(hA36 2 j rfl).1]; exact hF15 j
  have hD42 : ∀ j : Nat, (σ8.1 16 j).toInt = (σ33.1 3 j).toInt := fun j => by rw [(hA36 3 j rfl).1]; exact hD16 j
  have hSL43 : ∀ j : Nat, zl_R (σ8.1 37 j) (σ33.1 24 j) := fun j => by rw [(hA36 24 j rfl).1]; exact hSL17 j
  have hSN44 : ∀ j : Nat, (σ8.1 38 j).toInt = (σ33.1 25 j).toInt := fun j => by rw [(hA36 25 j rfl).1]; exact hSN18 j
  have hSC45 : zl_SC σ8 σ33 := by have q1 := (hSL (zt_x Z (ni + 1)).toInt.toNat).of; have q2 := hSN (zt_x Z (ni + 1)).toInt.toNat; rcases g12 with ⟨a1, a2, a3⟩ | ⟨a1, a2, a0, a3⟩ | ⟨a1, a2, a4, a0, a3⟩ | ⟨a1, a2, a4, a5, a0, a3⟩ <;> rcases g37 with ⟨b1, b2, b3⟩ | ⟨b1, b2, b0, b3⟩ | ⟨b1, b2, b4, b0, b3⟩ | ⟨b1, b2, b4, b5, b0, b3⟩ <;> first | (exfalso; omega) | (rw [a3, b3]; exact hSC) | (obtain ⟨x, hx, ex⟩ := a3; obtain ⟨y, hy, ey⟩ := b3; rw [ex, ey]; exact zl_SCl hSC (by omega) (by rw [hx, hy, show (σX.1 37 (zt_x Z (ni + 1)).toInt.toNat).toInt = (σM.1 24 (zt_x Z (ni + 1)).toInt.toNat).toInt by omega]))
  have hW46 : zl_W σ8 σ33 := hW20.m hA36 (fun _ => rfl) rfl
  have hBY47 : zl_B σ8 σ33 := hBY21.m hA36 (fun _ => rfl)
  have hFA48 : (σ8.1 2 3).toInt = (σ33.1 0 7).toInt := by rw [(hA36 0 7 rfl).1]; exact hFA22
  have hE49 : zl_E σ8 σ33 := hE23.m hA36 rfl (fun _ => rfl) (fun _ => rfl) (fun _ => rfl)
  have hK50 : zw_K σ33 := zw_K.ag hK24 hA36 rfl (fun _ => rfl) (fun _ => rfl)
  have hNT51 : zl_N σ8 σ33 := hNT25.m hA36 rfl (fun _ => rfl) (fun _ => rfl) (fun _ => rfl)
  refine zr_pop hB dL_law_1665 rfl ?_
  refine zr_goto hB dL_law_1666 (tgt := 1780) rfl ?_
  exact kk _ _ ⟨hO10, hO35, hT38, hN39, hL40, hF41, hD42, hSL43, hSN44, hSC45, hW46, hBY47, hFA48, hE49, hK50, hNT51⟩

theorem lc_29 {K : zc_K} {G : zc_X} {Z : zl_T} (hG : zl_G K G Z) {σX σM : zc_S} {i : Int32} {ni : Nat} (hi : i.toInt = (ni : Int)) (h9 : ni + 9 ≤ zt_L Z) (hv : zl_v σX σM) (kk : ∀ σX' σM', zl_v σX' σM' → zc_V 4 K G (zl_I K G Z σX' σM') [(3, .int i), (2, .ref (zt_M Z 0)), (1, .ref (zt_X Z 0)), (0, .ref (zt_b Z))] 1780 []) : zc_V 4 K G (zl_I K G Z σX σM) [(3, .int i), (2, .ref (zt_M Z 0)), (1, .ref (zt_X Z 0)), (0, .ref (zt_b Z))] 1669 [] := by
  obtain ⟨hOX, hOM, hT, hN, hL, hF, hD, hSL, hSN, hSC, hW, hBY, hFA, hE, hK, hNT⟩ := hv
  have hB := hG.1
  have hZ := hG.2.2.2.2.2.2.1
  refine zr_aload_n hB 2 dL_law_1669 rfl ?_
  refine zr_aload_n hB 3 dL_law_1670 rfl ?_
  refine zr_iload_n hB 0 dL_law_1671 rfl ?_
  refine zr_iconst hB dL_law_1672 rfl (fun z1 hz1 => ?_)
  refine zr_iadd hB dL_law_1673 (by omega) (by omega) (fun z2 hz2 => ?_)
  refine zl_sld hG (ni + 1) dL_law_1674 (by omega) (by omega) ?_
  clear hz1 hz2
  refine zr_aload_n hB 3 dL_law_1675 rfl ?_
  refine zr_iload_n hB 0 dL_law_1676 rfl ?_
  refine zr_iconst hB dL_law_1677 rfl (fun z3 hz3 => ?_)
  refine zr_iadd hB dL_law_1678 (by omega) (by omega) (fun z4 hz4 => ?_)
  refine zl_sld hG (ni + 2) dL_law_1679 (by omega) (by omega) ?_
  clear hz3 hz4
  refine zr_aload_n hB 3 dL_law_1680 rfl ?_
  refine zr_iload_n hB 0 dL_law_1681 rfl ?_
  refine zr_iconst hB dL_law_1682 rfl (fun z5 hz5 => ?_)
  refine zr_iadd hB dL_law_1683 (by omega) (by omega) (fun z6 hz6 => ?_)
  refine zl_sld hG (ni + 3) dL_law_1684 (by omega) (by omega) ?_
  clear hz5 hz6
  refine zr_aload_n hB 3 dL_law_1685 rfl ?_
  refine zr_iload_n hB 0 dL_law_1686 rfl ?_
  refine zr_iconst hB dL_law_1687 rfl (fun z7 hz7 => ?_)
  refine zr_iadd hB dL_law_1688 (by omega) (by omega) (fun z8 hz8 => ?_)
  refine zl_sld hG (ni + 4) dL_law_1689 (by omega) (by omega) ?_
  clear hz7 hz8
  refine zr_aload_n hB 3 dL_law_1690 rfl ?_
  refine zr_iload_n hB 0 dL_law_1691 rfl ?_
  refine zr_iconst hB dL_law_1692 rfl (fun z9 hz9 => ?_)
  refine zr_iadd hB dL_law_1693 (by omega) (by omega) (fun z10 hz10 => ?_)
  refine zl_sld hG (ni + 5) dL_law_1694 (by omega) (by omega) ?_
  clear hz9 hz10
  refine zr_aload_n hB 3 dL_law_1695 rfl ?_
  refine zr_iload_n hB 0 dL_law_1696 rfl ?_
  refine zr_bipush hB dL_law_1697 rfl (fun z11 hz11 => ?_)
  refine zr_iadd hB dL_law_1699 (by omega) (by omega) (fun z12 hz12 => ?_)
  refine zl_sld hG (ni + 6) dL_law_1700 (by omega) (by omega) ?_
  clear hz11 hz12
  refine zl_callX hG (As := [.int (zt_x Z (ni + 1)), .int (zt_x Z (ni + 2)), .int (zt_x Z (ni + 3)), .int (zt_x Z (ni + 4)), .int (zt_x Z (ni + 5)), .int (zt_x Z (ni + 6))]) (rest := []) dL_law_1701 wm_L_143 rfl (c_X8_read_0 (zl_K K (zt_X Z)) hG.2.2.2.2.2.2.2.2.2.1 σX (zt_x Z (ni + 1)) (zt_x Z (ni + 2)) (zt_x Z (ni + 3)) (zt_x Z (ni + 4)) (zt_x Z (ni + 5)) (zt_x Z (ni + 6)) hOX hW.1) rfl rfl (Nat.le_of_ble_eq_true rfl) ⟨(Nat.le_of_ble_eq_true rfl), (Nat.le_of_ble_eq_true rfl), rfl, rfl⟩ (fun r13 σ14 h15 => ?_)
  obtain ⟨hO16, hA17, g18⟩ := h15
  have hN19 : (σ14.1 1 0).toInt = (σM.1 0 1).toInt := by rw [(hA17 1 0 rfl).1]; exact hN
  have hL20 : (σ14.1 2 1).toInt = (σM.1 0 6).toInt := by rw [(hA17 2 1 rfl).1]; exact hL
  have hF21 : ∀ j : Nat, (σ14.1 15 j).toInt = (σM.1 2 j).toInt := fun j => by rw [(hA17 15 j rfl).1]; exact hF j
  have hD22 : ∀ j : Nat, (σ14.1 16 j).toInt = (σM.1 3 j).toInt := fun j => by rw [(hA17 16 j rfl).1]; exact hD j
  have hSL23 : ∀ j : Nat, zl_R (σ14.1 37 j) (σM.1 24 j) := fun j => by rw [(hA17 37 j rfl).1]; exact hSL j
  have hSN24 : ∀ j : Nat, (σ14.1 38 j).toInt = (σM.1 25 j).toInt := fun j => by rw [(hA17 38 j rfl).1]; exact hSN j
  have hSC25 : zl_SC σ14 σM := hSC.x hA17 (fun _ => rfl) (fun _ => rfl)
  have hBY27 : zl_B σ14 σM := hBY.x hA17 rfl (fun _ => rfl)
  have hFA28 : (σ14.1 2 3).toInt = (σM.1 0 7).toInt := by rw [(hA17 2 3 rfl).1]; exact hFA
  have hE29 : zl_E σ14 σM := hE.x hA17 rfl (fun _ => rfl) (fun _ => rfl) (fun _ => rfl)
  have hK30 : zw_K σM := hK
  have hNT31 : zl_N σ14 σM := hNT.x hA17 rfl (fun _ => rfl) (fun _ => rfl) (fun _ => rfl)
  refine zr_pop hB dL_law_1704 rfl ?_
  refine zr_aload_n hB 1 dL_law_1705 rfl ?_
  refine zr_aload_n hB 3 dL_law_1706 rfl ?_
  refine zr_iload_n hB 0 dL_law_1707 rfl ?_
  refine zr_iconst hB dL_law_1708 rfl (fun z32 hz32 => ?_)
  refine zr_iadd hB dL_law_1709 (by omega) (by omega) (fun z33 hz33 => ?_)
  refine zl_sld hG (ni + 1) dL_law_1710 (by omega) (by omega) ?_
  clear hz32 hz33
  refine zr_aload_n hB 3 dL_law_1711 rfl ?_
  refine zr_iload_n hB 0 dL_law_1712 rfl ?_
  refine zr_iconst hB dL_law_1713 rfl (fun z34 hz34 => ?_)
  refine zr_iadd hB dL_law_1714 (by omega) (by omega) (fun z35 hz35 => ?_)
  refine zl_sld hG (ni + 2) dL_law_1715 (by omega) (by omega) ?_
  clear hz34 hz35
  refine zr_aload_n hB 3 dL_law_1716 rfl ?_
  refine zr_iload_n hB 0 dL_law_1717 rfl ?_
  refine zr_iconst hB dL_law_1718 rfl (fun z36 hz36 => ?_)
  refine zr_iadd hB dL_law_1719 (by omega) (by omega) (fun z37 hz37 => ?_)
  refine zl_sld hG (ni + 3) dL_law_1720 (by omega) (by omega) ?_
  clear hz36 hz37
  refine zr_aload_n hB 3 dL_law_1721 rfl ?_
  refine zr_iload_n hB 0 dL_law_1722 rfl ?_
  refine zr_iconst hB dL_law_1723 rfl (fun z38 hz38 => ?_)
  refine zr_iadd hB dL_law_1724 (by omega) (by omega) (fun z39 hz39 => ?_)
  refine zl_sld hG (ni + 4) dL_law_1725 (by omega) (by omega) ?_
  clear hz38 hz39
  refine zr_aload_n hB 3 dL_law_1726 rfl ?_
  refine zr_iload_n hB 0 dL_law_1727 rfl ?_
  refine zr_iconst hB dL_law_1728 rfl (fun z40 hz40 => ?_)
  refine zr_iadd hB dL_law_1729 (by omega) (by omega) (fun z41 hz41 => ?_)
  refine zl_sld hG (ni + 5) dL_law_1730 (by omega) (by omega) ?_
  clear hz40 hz41
  refine zr_aload_n hB 3 dL_law_1731 rfl ?_
  refine zr_iload_n hB 0 dL_law_1732 rfl ?_
  refine zr_bipush hB dL_law_1733 rfl (fun z42 hz42 => ?_)
  refine zr_iadd hB dL_law_1735 (by omega) (by omega) (fun z43 hz43 => ?_)
  refine zl_sld hG (ni + 6) dL_law_1736 (by omega) (by omega) ?_
  clear hz42 hz43
  refine zl_callM hG (As := [.int (zt_x Z (ni + 1)), .int (zt_x Z (ni + 2)), .int (zt_x Z (ni + 3)), .int (zt_x Z (ni + 4)), .int (zt_x Z (ni + 5)), .int (zt_x Z (ni + 6))]) (rest := []) dL_law_1737 wm_L_146 rfl (c_M_read (zl_K K (zt_M Z)) hG.2.2.2.2.2.2.2.2.2.2.1 σM (zt_x Z (ni + 1)) (zt_x Z (ni + 2)) (zt_x Z (ni + 3)) (zt_x Z (ni + 4)) (zt_x Z (ni + 5)) (zt_x Z (ni + 6)) hOM ) rfl rfl (Nat.le_of_ble_eq_true rfl) ⟨(Nat.le_of_ble_eq_true rfl), (Nat.le_of_ble_eq_true rfl), rfl, rfl⟩ (fun r44 σ45 h46 => ?_)
  obtain ⟨hO47, hA48, g49⟩ := h46
  have hT50 := zm_T.ag hT hA48 rfl (fun _ => rfl) (fun _ => rfl)
  have hN51 : (σ14.1 1 0).toInt = (σ45.1 0 1).toInt := by rw [(hA48 0 1 rfl).1]; exact hN19
  have hL52 : (σ14.1 2 1).toInt = (σ45.1 0 6).toInt := by rw [(hA48 0 6 rfl).1]; exact hL20
  have hF53 : ∀ j : Nat, (σ14.1 15 j).toInt = (σ45.1 2 j).toInt := fun j => by rw [(hA48 2 j rfl).1]; exact hF21 j
  have hD54 : ∀ j : Nat, (σ14.1 16 j).toInt = (σ45.1 3 j).toInt := fun j => by rw [(hA48 3 j rfl).1]; exact hD22 j
  have hSL55 : ∀ j : Nat, zl_R (σ14.1 37 j) (σ45.1 24 j) := fun j => by rw [(hA48 24 j rfl).1]; exact hSL23 j
  have hSN56 : ∀ j : Nat, (σ14.1 38 j).toInt = (σ45.1 25 j).toInt := fun j => by rw [(hA48 25 j rfl).1]; exact hSN24 j
  have hSC57 : zl_SC σ14 σ45 := hSC25.m hA48 (fun _ => rfl)
  have hW58 : zl_W σ14 σ45 := zl_read hW hN (hOX 1 0).1 (hOX 1 0).2.1 hSL hSN hSC g18 g49 (fun h9 => by have t9 : (σX.1 1 0).toInt ≤ 63 := (hOX 1 0).2.1; omega) (fun h9 => by have t9 := hN; omega) (fun h8 h9 => by have t9 := hN; omega)
  have hBY59 : zl_B σ14 σ45 := hBY27.m hA48 (fun _ => rfl)
  have hFA60 : (σ14.1 2 3).toInt = (σ45.1 0 7).toInt := by rw [(hA48 0 7 rfl).1]; exact hFA28
  have hE61 : zl_E σ14 σ45 := hE29.m hA48 rfl (fun _ => rfl) (fun _ => rfl) (fun _ => rfl)
  have hK62 : zw_K σ45 := zw_K.ag hK30 hA48 rfl (fun _ => rfl) (fun _ => rfl)
  have hNT63 : zl_N σ14 σ45 := hNT31.m hA48 rfl (fun _ => rfl) (fun _ => rfl) (fun _ => rfl)
  refine zr_pop hB dL_law_1740 rfl ?_
  refine zr_goto hB dL_law_1741 (tgt := 1780) rfl ?_
  exact kk _ _ ⟨hO16, hO47, hT50, hN51, hL52, hF53, hD54, hSL55, hSN56, hSC57, hW58, hBY59, hFA60, hE61, hK62, hNT63⟩

theorem lc_30 {K : zc_K} {G : zc_X} {Z : zl_T} (hG : zl_G K G Z) {σX σM : zc_S} {i : Int32} {ni : Nat} (hi : i.toInt = (ni : Int)) (h9 : ni + 9 ≤ zt_L Z) (hv : zl_v σX σM) (kk : ∀ σX' σM', zl_v σX' σM' → zc_V 4 K G (zl_I K G Z σX' σM') [(3, .int i), (2, .ref (zt_M Z 0)), (1, .ref (zt_X Z 0)), (0, .ref (zt_b Z))] 1780 []) : zc_V 4 K G (zl_I K G Z σX σM) [(3, .int i), (2, .ref (zt_M Z 0)), (1, .ref (zt_X Z 0)), (0, .ref (zt_b Z))] 1744 [] := by
  obtain ⟨hOX, hOM, hT, hN, hL, hF, hD, hSL, hSN, hSC, hW, hBY, hFA, hE, hK, hNT⟩ := hv
  have hB := hG.1
  have hZ := hG.2.2.2.2.2.2.1
  refine zr_aload_n hB 2 dL_law_1744 rfl ?_
  refine zl_callX hG (As := []) (rest := []) dL_law_1745 wm_L_147 rfl (c_X8_torn_0 (zl_K K (zt_X Z)) hG.2.2.2.2.2.2.2.2.2.1 σX  hOX ) rfl rfl (Nat.le_of_ble_eq_true rfl) ⟨(Nat.le_of_ble_eq_true rfl), (Nat.le_of_ble_eq_true rfl), rfl, rfl⟩ (fun r1 σ2 h3 => ?_)
  obtain ⟨rfl, r1a, r1b⟩ := h3
  refine zr_pop hB dL_law_1748 rfl ?_
  refine zr_aload_n hB 1 dL_law_1749 rfl ?_
  refine zl_callM hG (As := []) (rest := []) dL_law_1750 wm_L_150 rfl (c_M_torn (zl_K K (zt_M Z)) hG.2.2.2.2.2.2.2.2.2.2.1 σM  hOM ) rfl rfl (Nat.le_of_ble_eq_true rfl) ⟨(Nat.le_of_ble_eq_true rfl), (Nat.le_of_ble_eq_true rfl), rfl, rfl⟩ (fun r4 σ5 h6 => ?_)
  obtain ⟨rfl, r4a, r4b⟩ := h6
  refine zr_pop hB dL_law_1753 rfl ?_
  refine zr_goto hB dL_law_1754 (tgt := 1780) rfl ?_
  exact kk _ _ ⟨hOX, hOM, hT, hN, hL, hF, hD, hSL, hSN, hSC, hW, hBY, hFA, hE, hK, hNT⟩

theorem lc_31 {K : zc_K} {G : zc_X} {Z : zl_T} (hG : zl_G K G Z) {σX σM : zc_S} {i : Int32} {ni : Nat} (hi : i.toInt = (ni : Int)) (h9 : ni + 9 ≤ zt_L Z) (hv : zl_v σX σM) (kk : ∀ σX' σM', zl_v σX' σM' → zc_V 4 K G (zl_I K G Z σX' σM') [(3, .int i), (2, .ref (zt_M Z 0)), (1, .ref (zt_X Z 0)), (0, .ref (zt_b Z))] 1780 []) : zc_V 4 K G (zl_I K G Z σX σM) [(3, .int i), (2, .ref (zt_M Z 0)), (1, .ref (zt_X Z 0)), (0, .ref (zt_b Z))] 1757 [] := by
  obtain ⟨hOX, hOM, hT, hN, hL, hF, hD, hSL, hSN, hSC, hW, hBY, hFA, hE, hK, hNT⟩ := hv
  have hB := hG.1
  have hZ := hG.2.2.2.2.2.2.1
  refine zr_aload_n hB 2 dL_law_1757 rfl ?_
  refine zr_aload_n hB 3 dL_law_1758 rfl ?_
  refine zr_iload_n hB 0 dL_law_1759 rfl ?_
  refine zr_iconst hB dL_law_1760 rfl (fun z1 hz1 => ?_)
  refine zr_iadd hB dL_law_1761 (by omega) (by omega) (fun z2 hz2 => ?_)
  refine zl_sld hG (ni + 1) dL_law_1762 (by omega) (by omega) ?_
  clear hz1 hz2
  refine zl_callX hG (As := [.int (zt_x Z (ni + 1))]) (rest := []) dL_law_1763 wm_L_151 rfl (c_X8_count_0 (zl_K K (zt_X Z)) hG.2.2.2.2.2.2.2.2.2.1 σX (zt_x Z (ni + 1)) hOX ) rfl rfl (Nat.le_of_ble_eq_true rfl) ⟨(Nat.le_of_ble_eq_true rfl), (Nat.le_of_ble_eq_true rfl), rfl, rfl⟩ (fun r3 σ4 h5 => ?_)
  obtain ⟨rfl, g6⟩ := h5
  refine zr_aload_n hB 1 dL_law_1766 rfl ?_
  refine zr_aload_n hB 3 dL_law_1767 rfl ?_
  refine zr_iload_n hB 0 dL_law_1768 rfl ?_
  refine zr_iconst hB dL_law_1769 rfl (fun z7 hz7 => ?_)
  refine zr_iadd hB dL_law_1770 (by omega) (by omega) (fun z8 hz8 => ?_)
  refine zl_sld hG (ni + 1) dL_law_1771 (by omega) (by omega) ?_
  clear hz7 hz8
  refine zl_callM hG (As := [.int (zt_x Z (ni + 1))]) (rest := [.int r3]) dL_law_1772 wm_L_154 rfl (c_M_count (zl_K K (zt_M Z)) hG.2.2.2.2.2.2.2.2.2.2.1 σM (zt_x Z (ni + 1)) hOM ) rfl rfl (Nat.le_of_ble_eq_true rfl) ⟨(Nat.le_of_ble_eq_true rfl), (Nat.le_of_ble_eq_true rfl), rfl, rfl⟩ (fun r9 σ10 h11 => ?_)
  obtain ⟨rfl, g12⟩ := h11
  have b9 : 0 ≤ (σX.1 1 0).toInt ∧ (σX.1 1 0).toInt ≤ 63 := ⟨(hOX 1 0).1, (hOX 1 0).2.1⟩
  have c1 : zp_ct (zp_mk 15 σX) 64 = zp_ct (zp_mk 2 σM) 64 := zp_ccong 64 (fun t _ => by unfold zp_mk; rw [hF t])
  have c2 : zp_ct (zp_mk 16 σX) 64 = zp_ct (zp_mk 3 σM) 64 := zp_ccong 64 (fun t _ => by unfold zp_mk; rw [hD t])
  have c3 : zp_g (zp_u (zx_A σX) (σX.1 1 0).toInt) ((σX.1 1 0).toInt + 1).toNat 4 = zp_g (zp_u (zy_A σM) (σM.1 0 1).toInt) ((σM.1 0 1).toInt + 1).toNat 4 := by rw [← hN]; exact zp_gcong 4 (fun s t a b => by unfold zp_u; rw [hW.2.2 _ _ (by omega) (by omega) (by omega)])
  have c4 : (σX.1 3 0).toInt = (σM.1 0 17).toInt := hE.1
  have c5 : (σX.1 6 0).toInt = (σM.1 0 28).toInt := hNT.1
  have c6 : (σX.1 1 1).toInt = (σM.1 0 2).toInt := hW.2.1
  have c7 := (hSL 0).of
  have c8 := hSN 0
  refine zr_icmp_eq hB dL_law_1775 (tgt := 1780) rfl (fun h13 => ?_) (fun h13 => absurd (by omega) h13)
  exact kk _ _ ⟨hOX, hOM, hT, hN, hL, hF, hD, hSL, hSN, hSC, hW, hBY, hFA, hE, hK, hNT⟩

