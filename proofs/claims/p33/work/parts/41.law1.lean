theorem lc_8 {K : zc_K} {G : zc_X} {Z : zl_T} (hG : zl_G K G Z) {σX σM : zc_S} {i : Int32} {ni : Nat} (hi : i.toInt = (ni : Int)) (h9 : ni + 9 ≤ zt_L Z) (hv : zl_v σX σM) (kk : ∀ σX' σM', zl_v σX' σM' → zc_V 4 K G (zl_I K G Z σX' σM') [(3, .int i), (2, .ref (zt_M Z 0)), (1, .ref (zt_X Z 0)), (0, .ref (zt_b Z))] 1780 []) : zc_V 4 K G (zl_I K G Z σX σM) [(3, .int i), (2, .ref (zt_M Z 0)), (1, .ref (zt_X Z 0)), (0, .ref (zt_b Z))] 446 [] := by
  obtain ⟨hOX, hOM, hT, hN, hL, hF, hD, hSL, hSN, hSC, hW, hBY, hFA, hE, hK, hNT⟩ := hv
  have hB := hG.1
  have hZ := hG.2.2.2.2.2.2.1
  refine zr_aload_n hB 2 dL_law_446 rfl ?_
  refine zr_aload_n hB 3 dL_law_447 rfl ?_
  refine zr_iload_n hB 0 dL_law_448 rfl ?_
  refine zr_iconst hB dL_law_449 rfl (fun z1 hz1 => ?_)
  refine zr_iadd hB dL_law_450 (by omega) (by omega) (fun z2 hz2 => ?_)
  refine zl_sld hG (ni + 1) dL_law_451 (by omega) (by omega) ?_
  clear hz1 hz2
  refine zr_aload_n hB 3 dL_law_452 rfl ?_
  refine zr_iload_n hB 0 dL_law_453 rfl ?_
  refine zr_iconst hB dL_law_454 rfl (fun z3 hz3 => ?_)
  refine zr_iadd hB dL_law_455 (by omega) (by omega) (fun z4 hz4 => ?_)
  refine zl_sld hG (ni + 2) dL_law_456 (by omega) (by omega) ?_
  clear hz3 hz4
  refine zl_callX hG (As := [.int (zt_x Z (ni + 1)), .int (zt_x Z (ni + 2))]) (rest := []) dL_law_457 wm_L_52 rfl (c_X8_teller_0 (zl_K K (zt_X Z)) hG.2.2.2.2.2.2.2.2.2.1 σX (zt_x Z (ni + 1)) (zt_x Z (ni + 2)) hOX ) rfl rfl (Nat.le_of_ble_eq_true rfl) ⟨(Nat.le_of_ble_eq_true rfl), (Nat.le_of_ble_eq_true rfl), rfl, rfl⟩ (fun r5 σ6 h7 => ?_)
  obtain ⟨rfl, g8⟩ := h7
  refine zr_pop hB dL_law_460 rfl ?_
  refine zr_aload_n hB 1 dL_law_461 rfl ?_
  refine zr_aload_n hB 3 dL_law_462 rfl ?_
  refine zr_iload_n hB 0 dL_law_463 rfl ?_
  refine zr_iconst hB dL_law_464 rfl (fun z9 hz9 => ?_)
  refine zr_iadd hB dL_law_465 (by omega) (by omega) (fun z10 hz10 => ?_)
  refine zl_sld hG (ni + 1) dL_law_466 (by omega) (by omega) ?_
  clear hz9 hz10
  refine zr_aload_n hB 3 dL_law_467 rfl ?_
  refine zr_iload_n hB 0 dL_law_468 rfl ?_
  refine zr_iconst hB dL_law_469 rfl (fun z11 hz11 => ?_)
  refine zr_iadd hB dL_law_470 (by omega) (by omega) (fun z12 hz12 => ?_)
  refine zl_sld hG (ni + 2) dL_law_471 (by omega) (by omega) ?_
  clear hz11 hz12
  refine zl_callM hG (As := [.int (zt_x Z (ni + 1)), .int (zt_x Z (ni + 2))]) (rest := []) dL_law_472 wm_L_56 rfl (c_M_teller (zl_K K (zt_M Z)) hG.2.2.2.2.2.2.2.2.2.2.1 σM (zt_x Z (ni + 1)) (zt_x Z (ni + 2)) hOM ) rfl rfl (Nat.le_of_ble_eq_true rfl) ⟨(Nat.le_of_ble_eq_true rfl), (Nat.le_of_ble_eq_true rfl), rfl, rfl⟩ (fun r13 σ14 h15 => ?_)
  obtain ⟨rfl, g16⟩ := h15
  refine zr_pop hB dL_law_475 rfl ?_
  refine zr_goto hB dL_law_476 (tgt := 1780) rfl ?_
  exact kk _ _ ⟨hOX, hOM, hT, hN, hL, hF, hD, hSL, hSN, hSC, hW, hBY, hFA, hE, hK, hNT⟩

theorem lc_9 {K : zc_K} {G : zc_X} {Z : zl_T} (hG : zl_G K G Z) {σX σM : zc_S} {i : Int32} {ni : Nat} (hi : i.toInt = (ni : Int)) (h9 : ni + 9 ≤ zt_L Z) (hv : zl_v σX σM) (kk : ∀ σX' σM', zl_v σX' σM' → zc_V 4 K G (zl_I K G Z σX' σM') [(3, .int i), (2, .ref (zt_M Z 0)), (1, .ref (zt_X Z 0)), (0, .ref (zt_b Z))] 1780 []) : zc_V 4 K G (zl_I K G Z σX σM) [(3, .int i), (2, .ref (zt_M Z 0)), (1, .ref (zt_X Z 0)), (0, .ref (zt_b Z))] 479 [] := by
  obtain ⟨hOX, hOM, hT, hN, hL, hF, hD, hSL, hSN, hSC, hW, hBY, hFA, hE, hK, hNT⟩ := hv
  have hB := hG.1
  have hZ := hG.2.2.2.2.2.2.1
  refine zr_aload_n hB 2 dL_law_479 rfl ?_
  refine zr_aload_n hB 3 dL_law_480 rfl ?_
  refine zr_iload_n hB 0 dL_law_481 rfl ?_
  refine zr_iconst hB dL_law_482 rfl (fun z1 hz1 => ?_)
  refine zr_iadd hB dL_law_483 (by omega) (by omega) (fun z2 hz2 => ?_)
  refine zl_sld hG (ni + 1) dL_law_484 (by omega) (by omega) ?_
  clear hz1 hz2
  refine zr_aload_n hB 3 dL_law_485 rfl ?_
  refine zr_iload_n hB 0 dL_law_486 rfl ?_
  refine zr_iconst hB dL_law_487 rfl (fun z3 hz3 => ?_)
  refine zr_iadd hB dL_law_488 (by omega) (by omega) (fun z4 hz4 => ?_)
  refine zl_sld hG (ni + 2) dL_law_489 (by omega) (by omega) ?_
  clear hz3 hz4
  refine zr_aload_n hB 3 dL_law_490 rfl ?_
  refine zr_iload_n hB 0 dL_law_491 rfl ?_
  refine zr_iconst hB dL_law_492 rfl (fun z5 hz5 => ?_)
  refine zr_iadd hB dL_law_493 (by omega) (by omega) (fun z6 hz6 => ?_)
  refine zl_sld hG (ni + 3) dL_law_494 (by omega) (by omega) ?_
  clear hz5 hz6
  refine zr_aload_n hB 3 dL_law_495 rfl ?_
  refine zr_iload_n hB 0 dL_law_496 rfl ?_
  refine zr_iconst hB dL_law_497 rfl (fun z7 hz7 => ?_)
  refine zr_iadd hB dL_law_498 (by omega) (by omega) (fun z8 hz8 => ?_)
  refine zl_sld hG (ni + 4) dL_law_499 (by omega) (by omega) ?_
  clear hz7 hz8
  refine zl_callX hG (As := [.int (zt_x Z (ni + 1)), .int (zt_x Z (ni + 2)), .int (zt_x Z (ni + 3)), .int (zt_x Z (ni + 4))]) (rest := []) dL_law_500 wm_L_57 rfl (c_X8_tells_0 (zl_K K (zt_X Z)) hG.2.2.2.2.2.2.2.2.2.1 σX (zt_x Z (ni + 1)) (zt_x Z (ni + 2)) (zt_x Z (ni + 3)) (zt_x Z (ni + 4)) hOX ) rfl rfl (Nat.le_of_ble_eq_true rfl) ⟨(Nat.le_of_ble_eq_true rfl), (Nat.le_of_ble_eq_true rfl), rfl, rfl⟩ (fun r9 σ10 h11 => ?_)
  obtain ⟨hO12, hA13⟩ := h11
  have hN14 : (σ10.1 1 0).toInt = (σM.1 0 1).toInt := by rw [(hA13 1 0 rfl).1]; exact hN
  have hL15 : (σ10.1 2 1).toInt = (σM.1 0 6).toInt := by rw [(hA13 2 1 rfl).1]; exact hL
  have hF16 : ∀ j : Nat, (σ10.1 15 j).toInt = (σM.1 2 j).toInt := fun j => by rw [(hA13 15 j rfl).1]; exact hF j
  have hD17 : ∀ j : Nat, (σ10.1 16 j).toInt = (σM.1 3 j).toInt := fun j => by rw [(hA13 16 j rfl).1]; exact hD j
  have hSL18 : ∀ j : Nat, zl_R (σ10.1 37 j) (σM.1 24 j) := fun j => by rw [(hA13 37 j rfl).1]; exact hSL j
  have hSN19 : ∀ j : Nat, (σ10.1 38 j).toInt = (σM.1 25 j).toInt := fun j => by rw [(hA13 38 j rfl).1]; exact hSN j
  have hSC20 : zl_SC σ10 σM := hSC.x hA13 (fun _ => rfl) (fun _ => rfl)
  have hW21 : zl_W σ10 σM := hW.x hA13 rfl (fun _ => rfl) (fun _ => rfl) (fun _ => rfl) (fun _ => rfl)
  have hBY22 : zl_B σ10 σM := hBY.x hA13 rfl (fun _ => rfl)
  have hFA23 : (σ10.1 2 3).toInt = (σM.1 0 7).toInt := by rw [(hA13 2 3 rfl).1]; exact hFA
  have hE24 : zl_E σ10 σM := hE.x hA13 rfl (fun _ => rfl) (fun _ => rfl) (fun _ => rfl)
  have hK25 : zw_K σM := hK
  have hNT26 : zl_N σ10 σM := hNT.x hA13 rfl (fun _ => rfl) (fun _ => rfl) (fun _ => rfl)
  refine zr_pop hB dL_law_503 rfl ?_
  refine zr_aload_n hB 1 dL_law_504 rfl ?_
  refine zr_aload_n hB 3 dL_law_505 rfl ?_
  refine zr_iload_n hB 0 dL_law_506 rfl ?_
  refine zr_iconst hB dL_law_507 rfl (fun z27 hz27 => ?_)
  refine zr_iadd hB dL_law_508 (by omega) (by omega) (fun z28 hz28 => ?_)
  refine zl_sld hG (ni + 1) dL_law_509 (by omega) (by omega) ?_
  clear hz27 hz28
  refine zr_aload_n hB 3 dL_law_510 rfl ?_
  refine zr_iload_n hB 0 dL_law_511 rfl ?_
  refine zr_iconst hB dL_law_512 rfl (fun z29 hz29 => ?_)
  refine zr_iadd hB dL_law_513 (by omega) (by omega) (fun z30 hz30 => ?_)
  refine zl_sld hG (ni + 2) dL_law_514 (by omega) (by omega) ?_
  clear hz29 hz30
  refine zr_aload_n hB 3 dL_law_515 rfl ?_
  refine zr_iload_n hB 0 dL_law_516 rfl ?_
  refine zr_iconst hB dL_law_517 rfl (fun z31 hz31 => ?_)
  refine zr_iadd hB dL_law_518 (by omega) (by omega) (fun z32 hz32 => ?_)
  refine zl_sld hG (ni + 3) dL_law_519 (by omega) (by omega) ?_
  clear hz31 hz32
  refine zr_aload_n hB 3 dL_law_520 rfl ?_
  refine zr_iload_n hB 0 dL_law_521 rfl ?_
  refine zr_iconst hB dL_law_522 rfl (fun z33 hz33 => ?_)
  refine zr_iadd hB dL_law_523 (by omega) (by omega) (fun z34 hz34 => ?_)
  refine zl_sld hG (ni + 4) dL_law_524 (by omega) (by omega) ?_
  clear hz33 hz34
  refine zl_callM hG (As := [.int (zt_x Z (ni + 1)), .int (zt_x Z (ni + 2)), .int (zt_x Z (ni + 3)), .int (zt_x Z (ni + 4))]) (rest := []) dL_law_525 wm_L_61 rfl (c_M_tells (zl_K K (zt_M Z)) hG.2.2.2.2.2.2.2.2.2.2.1 σM (zt_x Z (ni + 1)) (zt_x Z (ni + 2)) (zt_x Z (ni + 3)) (zt_x Z (ni + 4)) hOM hT) rfl rfl (Nat.le_of_ble_eq_true rfl) ⟨(Nat.le_of_ble_eq_true rfl), (Nat.le_of_ble_eq_true rfl), rfl, rfl⟩ (fun r35 σ36 h37 => ?_)
  obtain ⟨rfl, r35a, r35b⟩ := h37
  refine zr_pop hB dL_law_528 rfl ?_
  refine zr_goto hB dL_law_529 (tgt := 1780) rfl ?_
  exact kk _ _ ⟨hO12, hOM, hT, hN14, hL15, hF16, hD17, hSL18, hSN19, hSC20, hW21, hBY22, hFA23, hE24, hK25, hNT26⟩

theorem lc_10 {K : zc_K} {G : zc_X} {Z : zl_T} (hG : zl_G K G Z) {σX σM : zc_S} {i : Int32} {ni : Nat} (hi : i.toInt = (ni : Int)) (h9 : ni + 9 ≤ zt_L Z) (hv : zl_v σX σM) (kk : ∀ σX' σM', zl_v σX' σM' → zc_V 4 K G (zl_I K G Z σX' σM') [(3, .int i), (2, .ref (zt_M Z 0)), (1, .ref (zt_X Z 0)), (0, .ref (zt_b Z))] 1780 []) : zc_V 4 K G (zl_I K G Z σX σM) [(3, .int i), (2, .ref (zt_M Z 0)), (1, .ref (zt_X Z 0)), (0, .ref (zt_b Z))] 532 [] := by
  obtain ⟨hOX, hOM, hT, hN, hL, hF, hD, hSL, hSN, hSC, hW, hBY, hFA, hE, hK, hNT⟩ := hv
  have hB := hG.1
  have hZ := hG.2.2.2.2.2.2.1
  refine zr_aload_n hB 2 dL_law_532 rfl ?_
  refine zr_aload_n hB 3 dL_law_533 rfl ?_
  refine zr_iload_n hB 0 dL_law_534 rfl ?_
  refine zr_iconst hB dL_law_535 rfl (fun z1 hz1 => ?_)
  refine zr_iadd hB dL_law_536 (by omega) (by omega) (fun z2 hz2 => ?_)
  refine zl_sld hG (ni + 1) dL_law_537 (by omega) (by omega) ?_
  clear hz1 hz2
  refine zr_aload_n hB 3 dL_law_538 rfl ?_
  refine zr_iload_n hB 0 dL_law_539 rfl ?_
  refine zr_iconst hB dL_law_540 rfl (fun z3 hz3 => ?_)
  refine zr_iadd hB dL_law_541 (by omega) (by omega) (fun z4 hz4 => ?_)
  refine zl_sld hG (ni + 2) dL_law_542 (by omega) (by omega) ?_
  clear hz3 hz4
  refine zr_aload_n hB 3 dL_law_543 rfl ?_
  refine zr_iload_n hB 0 dL_law_544 rfl ?_
  refine zr_iconst hB dL_law_545 rfl (fun z5 hz5 => ?_)
  refine zr_iadd hB dL_law_546 (by omega) (by omega) (fun z6 hz6 => ?_)
  refine zl_sld hG (ni + 3) dL_law_547 (by omega) (by omega) ?_
  clear hz5 hz6
  refine zr_aload_n hB 3 dL_law_548 rfl ?_
  refine zr_iload_n hB 0 dL_law_549 rfl ?_
  refine zr_iconst hB dL_law_550 rfl (fun z7 hz7 => ?_)
  refine zr_iadd hB dL_law_551 (by omega) (by omega) (fun z8 hz8 => ?_)
  refine zl_sld hG (ni + 4) dL_law_552 (by omega) (by omega) ?_
  clear hz7 hz8
  refine zr_aload_n hB 3 dL_law_553 rfl ?_
  refine zr_iload_n hB 0 dL_law_554 rfl ?_
  refine zr_iconst hB dL_law_555 rfl (fun z9 hz9 => ?_)
  refine zr_iadd hB dL_law_556 (by omega) (by omega) (fun z10 hz10 => ?_)
  refine zl_sld hG (ni + 5) dL_law_557 (by omega) (by omega) ?_
  clear hz9 hz10
  refine zl_callX hG (As := [.int (zt_x Z (ni + 1)), .int (zt_x Z (ni + 2)), .int (zt_x Z (ni + 3)), .int (zt_x Z (ni + 4)), .int (zt_x Z (ni + 5))]) (rest := []) dL_law_558 wm_L_62 rfl (c_X8_weight_0 (zl_K K (zt_X Z)) hG.2.2.2.2.2.2.2.2.2.1 σX (zt_x Z (ni + 1)) (zt_x Z (ni + 2)) (zt_x Z (ni + 3)) (zt_x Z (ni + 4)) (zt_x Z (ni + 5)) hOX ) rfl rfl (Nat.le_of_ble_eq_true rfl) ⟨(Nat.le_of_ble_eq_true rfl), (Nat.le_of_ble_eq_true rfl), rfl, rfl⟩ (fun r11 σ12 h13 => ?_)
  obtain ⟨hO14, hA15⟩ := h13
  have hN16 : (σ12.1 1 0).toInt = (σM.1 0 1).toInt := by rw [(hA15 1 0 rfl).1]; exact hN
  have hL17 : (σ12.1 2 1).toInt = (σM.1 0 6).toInt := by rw [(hA15 2 1 rfl).1]; exact hL
  have hF18 : ∀ j : Nat, (σ12.1 15 j).toInt = (σM.1 2 j).toInt := fun j => by rw [(hA15 15 j rfl).1]; exact hF j
  have hD19 : ∀ j : Nat, (σ12.1 16 j).toInt = (σM.1 3 j).toInt := fun j => by rw [(hA15 16 j rfl).1]; exact hD j
  have hSL20 : ∀ j : Nat, zl_R (σ12.1 37 j) (σM.1 24 j) := fun j => by rw [(hA15 37 j rfl).1]; exact hSL j
  have hSN21 : ∀ j : Nat, (σ12.1 38 j).toInt = (σM.1 25 j).toInt := fun j => by rw [(hA15 38 j rfl).1]; exact hSN j
  have hSC22 : zl_SC σ12 σM := hSC.x hA15 (fun _ => rfl) (fun _ => rfl)
  have hW23 : zl_W σ12 σM := hW.x hA15 rfl (fun _ => rfl) (fun _ => rfl) (fun _ => rfl) (fun _ => rfl)
  have hBY24 : zl_B σ12 σM := hBY.x hA15 rfl (fun _ => rfl)
  have hFA25 : (σ12.1 2 3).toInt = (σM.1 0 7).toInt := by rw [(hA15 2 3 rfl).1]; exact hFA
  have hE26 : zl_E σ12 σM := hE.x hA15 rfl (fun _ => rfl) (fun _ => rfl) (fun _ => rfl)
  have hK27 : zw_K σM := hK
  have hNT28 : zl_N σ12 σM := hNT.x hA15 rfl (fun _ => rfl) (fun _ => rfl) (fun _ => rfl)
  refine zr_pop hB dL_law_561 rfl ?_
  refine zr_aload_n hB 1 dL_law_562 rfl ?_
  refine zr_aload_n hB 3 dL_law_563 rfl ?_
  refine zr_iload_n hB 0 dL_law_564 rfl ?_
  refine zr_iconst hB dL_law_565 rfl (fun z29 hz29 => ?_)
  refine zr_iadd hB dL_law_566 (by omega) (by omega) (fun z30 hz30 => ?_)
  refine zl_sld hG (ni + 1) dL_law_567 (by omega) (by omega) ?_
  clear hz29 hz30
  refine zr_aload_n hB 3 dL_law_568 rfl ?_
  refine zr_iload_n hB 0 dL_law_569 rfl ?_
  refine zr_iconst hB dL_law_570 rfl (fun z31 hz31 => ?_)
  refine zr_iadd hB dL_law_571 (by omega) (by omega) (fun z32 hz32 => ?_)
  refine zl_sld hG (ni + 2) dL_law_572 (by omega) (by omega) ?_
  clear hz31 hz32
  refine zr_aload_n hB 3 dL_law_573 rfl ?_
  refine zr_iload_n hB 0 dL_law_574 rfl ?_
  refine zr_iconst hB dL_law_575 rfl (fun z33 hz33 => ?_)
  refine zr_iadd hB dL_law_576 (by omega) (by omega) (fun z34 hz34 => ?_)
  refine zl_sld hG (ni + 3) dL_law_577 (by omega) (by omega) ?_
  clear hz33 hz34
  refine zr_aload_n hB 3 dL_law_578 rfl ?_
  refine zr_iload_n hB 0 dL_law_579 rfl ?_
  refine zr_iconst hB dL_law_580 rfl (fun z35 hz35 => ?_)
  refine zr_iadd hB dL_law_581 (by omega) (by omega) (fun z36 hz36 => ?_)
  refine zl_sld hG (ni + 4) dL_law_582 (by omega) (by omega) ?_
  clear hz35 hz36
  refine zr_aload_n hB 3 dL_law_583 rfl ?_
  refine zr_iload_n hB 0 dL_law_584 rfl ?_
  refine zr_iconst hB dL_law_585 rfl (fun z37 hz37 => ?_)
  refine zr_iadd hB dL_law_586 (by omega) (by omega) (fun z38 hz38 => ?_)
  refine zl_sld hG (ni + 5) dL_law_587 (by omega) (by omega) ?_
  clear hz37 hz38
  refine zl_callM hG (As := [.int (zt_x Z (ni + 1)), .int (zt_x Z (ni + 2)), .int (zt_x Z (ni + 3)), .int (zt_x Z (ni + 4)), .int (zt_x Z (ni + 5))]) (rest := []) dL_law_588 wm_L_66 rfl (c_M_weight (zl_K K (zt_M Z)) hG.2.2.2.2.2.2.2.2.2.2.1 σM (zt_x Z (ni + 1)) (zt_x Z (ni + 2)) (zt_x Z (ni + 3)) (zt_x Z (ni + 4)) (zt_x Z (ni + 5)) hOM hT) rfl rfl (Nat.le_of_ble_eq_true rfl) ⟨(Nat.le_of_ble_eq_true rfl), (Nat.le_of_ble_eq_true rfl), rfl, rfl⟩ (fun r39 σ40 h41 => ?_)
  obtain rfl := h41
  refine zr_pop hB dL_law_591 rfl ?_
  refine zr_goto hB dL_law_592 (tgt := 1780) rfl ?_
  exact kk _ _ ⟨hO14, hOM, hT, hN16, hL17, hF18, hD19, hSL20, hSN21, hSC22, hW23, hBY24, hFA25, hE26, hK27, hNT28⟩

theorem lc_11 {K : zc_K} {G : zc_X} {Z : zl_T} (hG : zl_G K G Z) {σX σM : zc_S} {i : Int32} {ni : Nat} (hi : i.toInt = (ni : Int)) (h9 : ni + 9 ≤ zt_L Z) (hv : zl_v σX σM) (kk : ∀ σX' σM', zl_v σX' σM' → zc_V 4 K G (zl_I K G Z σX' σM') [(3, .int i), (2, .ref (zt_M Z 0)), (1, .ref (zt_X Z 0)), (0, .ref (zt_b Z))] 1780 []) : zc_V 4 K G (zl_I K G Z σX σM) [(3, .int i), (2, .ref (zt_M Z 0)), (1, .ref (zt_X Z 0)), (0, .ref (zt_b Z))] 595 [] := by
  obtain ⟨hOX, hOM, hT, hN, hL, hF, hD, hSL, hSN, hSC, hW, hBY, hFA, hE, hK, hNT⟩ := hv
  have hB := hG.1
  have hZ := hG.2.2.2.2.2.2.1
  refine zr_aload_n hB 2 dL_law_595 rfl ?_
  refine zr_aload_n hB 3 dL_law_596 rfl ?_
  refine zr_iload_n hB 0 dL_law_597 rfl ?_
  refine zr_iconst hB dL_law_598 rfl (fun z1 hz1 => ?_)
  refine zr_iadd hB dL_law_599 (by omega) (by omega) (fun z2 hz2 => ?_)
  refine zl_sld hG (ni + 1) dL_law_600 (by omega) (by omega) ?_
  clear hz1 hz2
  refine zr_aload_n hB 3 dL_law_601 rfl ?_
  refine zr_iload_n hB 0 dL_law_602 rfl ?_
  refine zr_iconst hB dL_law_603 rfl (fun z3 hz3 => ?_)
  refine zr_iadd hB dL_law_604 (by omega) (by omega) (fun z4 hz4 => ?_)
  refine zl_sld hG (ni + 2) dL_law_605 (by omega) (by omega) ?_
  clear hz3 hz4
  refine zr_aload_n hB 3 dL_law_606 rfl ?_
  refine zr_iload_n hB 0 dL_law_607 rfl ?_
  refine zr_iconst hB dL_law_608 rfl (fun z5 hz5 => ?_)
  refine zr_iadd hB dL_law_609 (by omega) (by omega) (fun z6 hz6 => ?_)
  refine zl_sld hG (ni + 3) dL_law_610 (by omega) (by omega) ?_
  clear hz5 hz6
  refine zr_aload_n hB 3 dL_law_611 rfl ?_
  refine zr_iload_n hB 0 dL_law_612 rfl ?_
  refine zr_iconst hB dL_law_613 rfl (fun z7 hz7 => ?_)
  refine zr_iadd hB dL_law_614 (by omega) (by omega) (fun z8 hz8 => ?_)
  refine zl_sld hG (ni + 4) dL_law_615 (by omega) (by omega) ?_
  clear hz7 hz8
  refine zl_callX hG (As := [.int (zt_x Z (ni + 1)), .int (zt_x Z (ni + 2)), .int (zt_x Z (ni + 3)), .int (zt_x Z (ni + 4))]) (rest := []) dL_law_616 wm_L_67 rfl (c_X8_miss_0 (zl_K K (zt_X Z)) hG.2.2.2.2.2.2.2.2.2.1 σX (zt_x Z (ni + 1)) (zt_x Z (ni + 2)) (zt_x Z (ni + 3)) (zt_x Z (ni + 4)) hOX ) rfl rfl (Nat.le_of_ble_eq_true rfl) ⟨(Nat.le_of_ble_eq_true rfl), (Nat.le_of_ble_eq_true rfl), rfl, rfl⟩ (fun r9 σ10 h11 => ?_)
  obtain ⟨hO12, hA13⟩ := h11
  have hN14 : (σ10.1 1 0).toInt = (σM.1 0 1).toInt := by rw [(hA13 1 0 rfl).1]; exact hN
  have hL15 : (σ10.1 2 1).toInt = (σM.1 0 6).toInt := by rw [(hA13 2 1 rfl).1]; exact hL
  have hF16 : ∀ j : Nat, (σ10.1 15 j).toInt = (σM.1 2 j).toInt := fun j => by rw [(hA13 15 j rfl).1]; exact hF j
  have hD17 : ∀ j : Nat, (σ10.1 16 j).toInt = (σM.1 3 j).toInt := fun j => by rw [(hA13 16 j rfl).1]; exact hD j
  have hSL18 : ∀ j : Nat, zl_R (σ10.1 37 j) (σM.1 24 j) := fun j => by rw [(hA13 37 j rfl).1]; exact hSL j
  have hSN19 : ∀ j : Nat, (σ10.1 38 j).toInt = (σM.1 25 j).toInt := fun j => by rw [(hA13 38 j rfl).1]; exact hSN j
  have hSC20 : zl_SC σ10 σM := hSC.x hA13 (fun _ => rfl) (fun _ => rfl)
  have hW21 : zl_W σ10 σM := hW.x hA13 rfl (fun _ => rfl) (fun _ => rfl) (fun _ => rfl) (fun _ => rfl)
  have hBY22 : zl_B σ10 σM := hBY.x hA13 rfl (fun _ => rfl)
  have hFA23 : (σ10.1 2 3).toInt = (σM.1 0 7).toInt := by rw [(hA13 2 3 rfl).1]; exact hFA
  have hE24 : zl_E σ10 σM := hE.x hA13 rfl (fun _ => rfl) (fun _ => rfl) (fun _ => rfl)
  have hK25 : zw_K σM := hK
  have hNT26 : zl_N σ10 σM := hNT.x hA13 rfl (fun _ => rfl) (fun _ => rfl) (fun _ => rfl)
  refine zr_pop hB dL_law_619 rfl ?_
  refine zr_aload_n hB 1 dL_law_620 rfl ?_
  refine zr_aload_n hB 3 dL_law_621 rfl ?_
  refine zr_iload_n hB 0 dL_law_622 rfl ?_
  refine zr_iconst hB dL_law_623 rfl (fun z27 hz27 => ?_)
  refine zr_iadd hB dL_law_624 (by omega) (by omega) (fun z28 hz28 => ?_)
  refine zl_sld hG (ni + 1) dL_law_625 (by omega) (by omega) ?_
  clear hz27 hz28
  refine zr_aload_n hB 3 dL_law_626 rfl ?_
  refine zr_iload_n hB 0 dL_law_627 rfl ?_
  refine zr_iconst hB dL_law_628 rfl (fun z29 hz29 => ?_)
  refine zr_iadd hB dL_law_629 (by omega) (by omega) (fun z30 hz30 => ?_)
  refine zl_sld hG (ni + 2) dL_law_630 (by omega) (by omega) ?_
  clear hz29 hz30
  refine zr_aload_n hB 3 dL_law_631 rfl ?_
  refine zr_iload_n hB 0 dL_law_632 rfl ?_
  refine zr_iconst hB dL_law_633 rfl (fun z31 hz31 => ?_)
  refine zr_iadd hB dL_law_634 (by omega) (by omega) (fun z32 hz32 => ?_)
  refine zl_sld hG (ni + 3) dL_law_635 (by omega) (by omega) ?_
  clear hz31 hz32
  refine zr_aload_n hB 3 dL_law_636 rfl ?_
  refine zr_iload_n hB 0 dL_law_637 rfl ?_
  refine zr_iconst hB dL_law_638 rfl (fun z33 hz33 => ?_)
  refine zr_iadd hB dL_law_639 (by omega) (by omega) (fun z34 hz34 => ?_)
  refine zl_sld hG (ni + 4) dL_law_640 (by omega) (by omega) ?_
  clear hz33 hz34
  refine zl_callM hG (As := [.int (zt_x Z (ni + 1)), .int (zt_x Z (ni + 2)), .int (zt_x Z (ni + 3)), .int (zt_x Z (ni + 4))]) (rest := []) dL_law_641 wm_L_70 rfl (c_M_miss (zl_K K (zt_M Z)) hG.2.2.2.2.2.2.2.2.2.2.1 σM (zt_x Z (ni + 1)) (zt_x Z (ni + 2)) (zt_x Z (ni + 3)) (zt_x Z (ni + 4)) hOM hT) rfl rfl (Nat.le_of_ble_eq_true rfl) ⟨(Nat.le_of_ble_eq_true rfl), (Nat.le_of_ble_eq_true rfl), rfl, rfl⟩ (fun r35 σ36 h37 => ?_)
  obtain ⟨hO38, hA39⟩ := h37
  have hT40 := zm_T.ag hT hA39 rfl (fun _ => rfl) (fun _ => rfl)
  have hN41 : (σ10.1 1 0).toInt = (σ36.1 0 1).toInt := by rw [(hA39 0 1 rfl).1]; exact hN14
  have hL42 : (σ10.1 2 1).toInt = (σ36.1 0 6).toInt := by rw [(hA39 0 6 rfl).1]; exact hL15
  have hF43 : ∀ j : Nat, (σ10.1 15 j).toInt = (σ36.1 2 j).toInt := fun j => by rw [(hA39 2 j rfl).1]; exact hF16 j
  have hD44 : ∀ j : Nat, (σ10.1 16 j).toInt = (σ36.1 3 j).toInt := fun j => by rw [(hA39 3 j rfl).1]; exact hD17 j
  have hSL45 : ∀ j : Nat, zl_R (σ10.1 37 j) (σ36.1 24 j) := fun j => by rw [(hA39 24 j rfl).1]; exact hSL18 j
  have hSN46 : ∀ j : Nat, (σ10.1 38 j).toInt = (σ36.1 25 j).toInt := fun j => by rw [(hA39 25 j rfl).1]; exact hSN19 j
  have hSC47 : zl_SC σ10 σ36 := hSC20.m hA39 (fun _ => rfl)
  have hW48 : zl_W σ10 σ36 := hW21.m hA39 (fun _ => rfl) rfl
  have hBY49 : zl_B σ10 σ36 := hBY22.m hA39 (fun _ => rfl)
  have hFA50 : (σ10.1 2 3).toInt = (σ36.1 0 7).toInt := by rw [(hA39 0 7 rfl).1]; exact hFA23
  have hE51 : zl_E σ10 σ36 := hE24.m hA39 rfl (fun _ => rfl) (fun _ => rfl) (fun _ => rfl)
  have hK52 : zw_K σ36 := zw_K.ag hK25 hA39 rfl (fun _ => rfl) (fun _ => rfl)
  have hNT53 : zl_N σ10 σ36 := hNT26.m hA39 rfl (fun _ => rfl) (fun _ => rfl) (fun _ => rfl)
  refine zr_pop hB dL_law_644 rfl ?_
  refine zr_goto hB dL_law_645 (tgt := 1780) rfl ?_
  exact kk _ _ ⟨hO12, hO38, hT40, hN41, hL42, hF43, hD44, hSL45, hSN46, hSC47, hW48, hBY49, hFA50, hE51, hK52, hNT53⟩

theorem lc_12 {K : zc_K} {G : zc_X} {Z : zl_T} (hG : zl_G K G Z) {σX σM : zc_S} {i : Int32} {ni : Nat} (hi : i.toInt = (ni : Int)) (h9 : ni + 9 ≤ zt_L Z) (hv : zl_v σX σM) (kk : ∀ σX' σM', zl_v σX' σM' → zc_V 4 K G (zl_I K G Z σX' σM') [(3, .int i), (2, .ref (zt_M Z 0)), (1, .ref (zt_X Z 0)), (0, .ref (zt_b Z))] 1780 []) : zc_V 4 K G (zl_I K G Z σX σM) [(3, .int i), (2, .ref (zt_M Z 0)), (1, .ref (zt_X Z 0)), (0, .ref (zt_b Z))] 648 [] := by
  obtain ⟨hOX, hOM, hT, hN, hL, hF, hD, hSL, hSN, hSC, hW, hBY, hFA, hE, hK, hNT⟩ := hv
  have hB := hG.1
  have hZ := hG.2.2.2.2.2.2.1
  refine zr_aload_n hB 2 dL_law_648 rfl ?_
  refine zr_aload_n hB 3 dL_law_649 rfl ?_
  refine zr_iload_n hB 0 dL_law_650 rfl ?_
  refine zr_iconst hB dL_law_651 rfl (fun z1 hz1 => ?_)
  refine zr_iadd hB dL_law_652 (by omega) (by omega) (fun z2 hz2 => ?_)
  refine zl_sld hG (ni + 1) dL_law_653 (by omega) (by omega) ?_
  clear hz1 hz2
  refine zr_aload_n hB 3 dL_law_654 rfl ?_
  refine zr_iload_n hB 0 dL_law_655 rfl ?_
  refine zr_iconst hB dL_law_656 rfl (fun z3 hz3 => ?_)
  refine zr_iadd hB dL_law_657 (by omega) (by omega) (fun z4 hz4 => ?_)
  refine zl_sld hG (ni + 2) dL_law_658 (by omega) (by omega) ?_
  clear hz3 hz4
  refine zr_aload_n hB 3 dL_law_659 rfl ?_
  refine zr_iload_n hB 0 dL_law_660 rfl ?_
  refine zr_iconst hB dL_law_661 rfl (fun z5 hz5 => ?_)
  refine zr_iadd hB dL_law_662 (by omega) (by omega) (fun z6 hz6 => ?_)
  refine zl_sld hG (ni + 3) dL_law_663 (by omega) (by omega) ?_
  clear hz5 hz6
  refine zr_aload_n hB 3 dL_law_664 rfl ?_
  refine zr_iload_n hB 0 dL_law_665 rfl ?_
  refine zr_iconst hB dL_law_666 rfl (fun z7 hz7 => ?_)
  refine zr_iadd hB dL_law_667 (by omega) (by omega) (fun z8 hz8 => ?_)
  refine zl_sld hG (ni + 4) dL_law_668 (by omega) (by omega) ?_
  clear hz7 hz8
  refine zr_aload_n hB 3 dL_law_669 rfl ?_
  refine zr_iload_n hB 0 dL_law_670 rfl ?_
  refine zr_iconst hB dL_law_671 rfl (fun z9 hz9 => ?_)
  refine zr_iadd hB dL_law_672 (by omega) (by omega) (fun z10 hz10 => ?_)
  refine zl_sld hG (ni + 5) dL_law_673 (by omega) (by omega) ?_
  clear hz9 hz10
  refine zr_aload_n hB 3 dL_law_674 rfl ?_
  refine zr_iload_n hB 0 dL_law_675 rfl ?_
  refine zr_bipush hB dL_law_676 rfl (fun z11 hz11 => ?_)
  refine zr_iadd hB dL_law_678 (by omega) (by omega) (fun z12 hz12 => ?_)
  refine zl_sld hG (ni + 6) dL_law_679 (by omega) (by omega) ?_
  clear hz11 hz12
  refine zl_callX hG (As := [.int (zt_x Z (ni + 1)), .int (zt_x Z (ni + 2)), .int (zt_x Z (ni + 3)), .int (zt_x Z (ni + 4)), .int (zt_x Z (ni + 5)), .int (zt_x Z (ni + 6))]) (rest := []) dL_law_680 wm_L_71 rfl (c_X8_misses_0 (zl_K K (zt_X Z)) hG.2.2.2.2.2.2.2.2.2.1 σX (zt_x Z (ni + 1)) (zt_x Z (ni + 2)) (zt_x Z (ni + 3)) (zt_x Z (ni + 4)) (zt_x Z (ni + 5)) (zt_x Z (ni + 6)) hOX ) rfl rfl (Nat.le_of_ble_eq_true rfl) ⟨(Nat.le_of_ble_eq_true rfl), (Nat.le_of_ble_eq_true rfl), rfl, rfl⟩ (fun r13 σ14 h15 => ?_)
  obtain ⟨hO16, hA17⟩ := h15
  have hN18 : (σ14.1 1 0).toInt = (σM.1 0 1).toInt := by rw [(hA17 1 0 rfl).1]; exact hN
  have hL19 : (σ14.1 2 1).toInt = (σM.1 0 6).toInt := by rw [(hA17 2 1 rfl).1]; exact hL
  have hF20 : ∀ j : Nat, (σ14.1 15 j).toInt = (σM.1 2 j).toInt := fun j => by rw [(hA17 15 j rfl).1]; exact hF j
  have hD21 : ∀ j : Nat, (σ14.1 16 j).toInt = (σM.1 3 j).toInt := fun j => by rw [(hA17 16 j rfl).1]; exact hD j
  have hSL22 : ∀ j : Nat, zl_R (σ14.1 37 j) (σM.1 24 j) := fun j => by rw [(hA17 37 j rfl).1]; exact hSL j
  have hSN23 : ∀ j : Nat, (σ14.1 38 j).toInt = (σM.1 25 j).toInt := fun j => by rw [(hA17 38 j rfl).1]; exact hSN j
  have hSC24 : zl_SC σ14 σM := hSC.x hA17 (fun _ => rfl) (fun _ => rfl)
  have hW25 : zl_W σ14 σM := hW.x hA17 rfl (fun _ => rfl) (fun _ => rfl) (fun _ => rfl) (fun _ => rfl)
  have hBY26 : zl_B σ14 σM := hBY.x hA17 rfl (fun _ => rfl)
  have hFA27 : (σ14.1 2 3).toInt = (σM.1 0 7).toInt := by rw [(hA17 2 3 rfl).1]; exact hFA
  have hE28 : zl_E σ14 σM := hE.x hA17 rfl (fun _ => rfl) (fun _ => rfl) (fun _ => rfl)
  have hK29 : zw_K σM := hK
  have hNT30 : zl_N σ14 σM := hNT.x hA17 rfl (fun _ => rfl) (fun _ => rfl) (fun _ => rfl)
  refine zr_pop hB dL_law_683 rfl ?_
  refine zr_aload_n hB 1 dL_law_684 rfl ?_
  refine zr_aload_n hB 3 dL_law_685 rfl ?_
  refine zr_iload_n hB 0 dL_law_686 rfl ?_
  refine zr_iconst hB dL_law_687 rfl (fun z31 hz31 => ?_)
  refine zr_iadd hB dL_law_688 (by omega) (by omega) (fun z32 hz32 => ?_)
  refine zl_sld hG (ni + 1) dL_law_689 (by omega) (by omega) ?_
  clear hz31 hz32
  refine zr_aload_n hB 3 dL_law_690 rfl ?_
  refine zr_iload_n hB 0 dL_law_691 rfl ?_
  refine zr_iconst hB dL_law_692 rfl (fun z33 hz33 => ?_)
  refine zr_iadd hB dL_law_693 (by omega) (by omega) (fun z34 hz34 => ?_)
  refine zl_sld hG (ni + 2) dL_law_694 (by omega) (by omega) ?_
  clear hz33 hz34
  refine zr_aload_n hB 3 dL_law_695 rfl ?_
  refine zr_iload_n hB 0 dL_law_696 rfl ?_
  refine zr_iconst hB dL_law_697 rfl (fun z35 hz35 => ?_)
  refine zr_iadd hB dL_law_698 (by omega) (by omega) (fun z36 hz36 => ?_)
  refine zl_sld hG (ni + 3) dL_law_699 (by omega) (by omega) ?_
  clear hz35 hz36
  refine zr_aload_n hB 3 dL_law_700 rfl ?_
  refine zr_iload_n hB 0 dL_law_701 rfl ?_
  refine zr_iconst hB dL_law_702 rfl (fun z37 hz37 => ?_)
  refine zr_iadd hB dL_law_703 (by omega) (by omega) (fun z38 hz38 => ?_)
  refine zl_sld hG (ni + 4) dL_law_704 (by omega) (by omega) ?_
  clear hz37 hz38
  refine zr_aload_n hB 3 dL_law_705 rfl ?_
  refine zr_iload_n hB 0 dL_law_706 rfl ?_
  refine zr_iconst hB dL_law_707 rfl (fun z39 hz39 => ?_)
  refine zr_iadd hB dL_law_708 (by omega) (by omega) (fun z40 hz40 => ?_)
  refine zl_sld hG (ni + 5) dL_law_709 (by omega) (by omega) ?_
  clear hz39 hz40
  refine zr_aload_n hB 3 dL_law_710 rfl ?_
  refine zr_iload_n hB 0 dL_law_711 rfl ?_
  refine zr_bipush hB dL_law_712 rfl (fun z41 hz41 => ?_)
  refine zr_iadd hB dL_law_714 (by omega) (by omega) (fun z42 hz42 => ?_)
  refine zl_sld hG (ni + 6) dL_law_715 (by omega) (by omega) ?_
  clear hz41 hz42
  refine zl_callM hG (As := [.int (zt_x Z (ni + 1)), .int (zt_x Z (ni + 2)), .int (zt_x Z (ni + 3)), .int (zt_x Z (ni + 4)), .int (zt_x Z (ni + 5)), .int (zt_x Z (ni + 6))]) (rest := []) dL_law_716 wm_L_75 rfl (c_M_misses (zl_K K (zt_M Z)) hG.2.2.2.2.2.2.2.2.2.2.1 σM (zt_x Z (ni + 1)) (zt_x Z (ni + 2)) (zt_x Z (ni + 3)) (zt_x Z (ni + 4)) (zt_x Z (ni + 5)) (zt_x Z (ni + 6)) hOM hT) rfl rfl (Nat.le_of_ble_eq_true rfl) ⟨(Nat.le_of_ble_eq_true rfl), (Nat.le_of_ble_eq_true rfl), rfl, rfl⟩ (fun r43 σ44 h45 => ?_)
  obtain ⟨hO46, hA47⟩ := h45
  have hT48 := zm_T.ag hT hA47 rfl (fun _ => rfl) (fun _ => rfl)
  have hN49 : (σ14.1 1 0).toInt = (σ44.1 0 1).toInt := by rw [(hA47 0 1 rfl).1]; exact hN18
  have hL50 : (σ14.1 2 1).toInt = (σ44.1 0 6).toInt := by rw [(hA47 0 6 rfl).1]; exact hL19
  have hF51 : ∀ j : Nat, (σ14.1 15 j).toInt = (σ44.1 2 j).toInt := fun j => by rw [(hA47 2 j rfl).1]; exact hF20 j
  have hD52 : ∀ j : Nat, (σ14.1 16 j).toInt = (σ44.1 3 j).toInt := fun j => by rw [(hA47 3 j rfl).1]; exact hD21 j
  have hSL53 : ∀ j : Nat, zl_R (σ14.1 37 j) (σ44.1 24 j) := fun j => by rw [(hA47 24 j rfl).1]; exact hSL22 j
  have hSN54 : ∀ j : Nat, (σ14.1 38 j).toInt = (σ44.1 25 j).toInt := fun j => by rw [(hA47 25 j rfl).1]; exact hSN23 j
  have hSC55 : zl_SC σ14 σ44 := hSC24.m hA47 (fun _ => rfl)
  have hW56 : zl_W σ14 σ44 := hW25.m hA47 (fun _ => rfl) rfl
  have hBY57 : zl_B σ14 σ44 := hBY26.m hA47 (fun _ => rfl)
  have hFA58 : (σ14.1 2 3).toInt = (σ44.1 0 7).toInt := by rw [(hA47 0 7 rfl).1]; exact hFA27
  have hE59 : zl_E σ14 σ44 := hE28.m hA47 rfl (fun _ => rfl) (fun _ => rfl) (fun _ => rfl)
  have hK60 : zw_K σ44 := zw_K.ag hK29 hA47 rfl (fun _ => rfl) (fun _ => rfl)
  have hNT61 : zl_N σ14 σ44 := hNT30.m hA47 rfl (fun _ => rfl) (fun _ => rfl) (fun _ => rfl)
  refine zr_pop hB dL_law_719 rfl ?_
  refine zr_goto hB dL_law_720 (tgt := 1780) rfl ?_
  exact kk _ _ ⟨hO16, hO46, hT48, hN49, hL50, hF51, hD52, hSL53, hSN54, hSC55, hW56, hBY57, hFA58, hE59, hK60, hNT61⟩

theorem lc_13 {K : zc_K} {G : zc_X} {Z : zl_T} (hG : zl_G K G Z) {σX σM : zc_S} {i : Int32} {ni : Nat} (hi : i.toInt = (ni : Int)) (h9 : ni + 9 ≤ zt_L Z) (hv : zl_v σX σM) (kk : ∀ σX' σM', zl_v σX' σM' → zc_V 4 K G (zl_I K G Z σX' σM') [(3, .int i), (2, .ref (zt_M Z 0)), (1, .ref (zt_X Z 0)), (0, .ref (zt_b Z))] 1780 []) : zc_V 4 K G (zl_I K G Z σX σM) [(3, .int i), (2, .ref (zt_M Z 0)), (1, .ref (zt_X Z 0)), (0, .ref (zt_b Z))] 723 [] := by
  obtain ⟨hOX, hOM, hT, hN, hL, hF, hD, hSL, hSN, hSC, hW, hBY, hFA, hE, hK, hNT⟩ := hv
  have hB := hG.1
  have hZ := hG.2.2.2.2.2.2.1
  refine zr_aload_n hB 2 dL_law_723 rfl ?_
  refine zr_aload_n hB 3 dL_law_724 rfl ?_
  refine zr_iload_n hB 0 dL_law_725 rfl ?_
  refine zr_iconst hB dL_law_726 rfl (fun z1 hz1 => ?_)
  refine zr_iadd hB dL_law_727 (by omega) (by omega) (fun z2 hz2 => ?_)
  refine zl_sld hG (ni + 1) dL_law_728 (by omega) (by omega) ?_
  clear hz1 hz2
  refine zr_aload_n hB 3 dL_law_729 rfl ?_
  refine zr_iload_n hB 0 dL_law_730 rfl ?_
  refine zr_iconst hB dL_law_731 rfl (fun z3 hz3 => ?_)
  refine zr_iadd hB dL_law_732 (by omega) (by omega) (fun z4 hz4 => ?_)
  refine zl_sld hG (ni + 2) dL_law_733 (by omega) (by omega) ?_
  clear hz3 hz4
  refine zr_aload_n hB 3 dL_law_734 rfl ?_
  refine zr_iload_n hB 0 dL_law_735 rfl ?_
  refine zr_iconst hB dL_law_736 rfl (fun z5 hz5 => ?_)
  refine zr_iadd hB dL_law_737 (by omega) (by omega) (fun z6 hz6 => ?_)
  refine zl_sld hG (ni + 3) dL_law_738 (by omega) (by omega) ?_
  clear hz5 hz6
  refine zr_aload_n hB 3 dL_law_739 rfl ?_
  refine zr_iload_n hB 0 dL_law_740 rfl ?_
  refine zr_iconst hB dL_law_741 rfl (fun z7 hz7 => ?_)
  refine zr_iadd hB dL_law_742 (by omega) (by omega) (fun z8 hz8 => ?_)
  refine zl_sld hG (ni + 4) dL_law_743 (by omega) (by omega) ?_
  clear hz7 hz8
  refine zl_callX hG (As := [.int (zt_x Z (ni + 1)), .int (zt_x Z (ni + 2)), .int (zt_x Z (ni + 3)), .int (zt_x Z (ni + 4))]) (rest := []) dL_law_744 wm_L_76 rfl (c_X8_best_0 (zl_K K (zt_X Z)) hG.2.2.2.2.2.2.2.2.2.1 σX (zt_x Z (ni + 1)) (zt_x Z (ni + 2)) (zt_x Z (ni + 3)) (zt_x Z (ni + 4)) hOX ) rfl rfl (Nat.le_of_ble_eq_true rfl) ⟨(Nat.le_of_ble_eq_true rfl), (Nat.le_of_ble_eq_true rfl), rfl, rfl⟩ (fun r9 σ10 h11 => ?_)
  obtain ⟨hO12, hA13⟩ := h11
  have hN14 : (σ10.1 1 0).toInt = (σM.1 0 1).toInt := by rw [(hA13 1 0 rfl).1]; exact hN
  have hL15 : (σ10.1 2 1).toInt = (σM.1 0 6).toInt := by rw [(hA13 2 1 rfl).1]; exact hL
  have hF16 : ∀ j : Nat, (σ10.1 15 j).toInt = (σM.1 2 j).toInt := fun j => by rw [(hA13 15 j rfl).1]; exact hF j
  have hD17 : ∀ j : Nat, (σ10.1 16 j).toInt = (σM.1 3 j).toInt := fun j => by rw [(hA13 16 j rfl).1]; exact hD j
  have hSL18 : ∀ j : Nat, zl_R (σ10.1 37 j) (σM.1 24 j) := fun j => by rw [(hA13 37 j rfl).1]; exact hSL j
  have hSN19 : ∀ j : Nat, (σ10.1 38 j).toInt = (σM.1 25 j).toInt := fun j => by rw [(hA13 38 j rfl).1]; exact hSN j
  have hSC20 : zl_SC σ10 σM := hSC.x hA13 (fun _ => rfl) (fun _ => rfl)
  have hW21 : zl_W σ10 σM := hW.x hA13 rfl (fun _ => rfl) (fun _ => rfl) (fun _ => rfl) (fun _ => rfl)
  have hBY22 : zl_B σ10 σM := hBY.x hA13 rfl (fun _ => rfl)
  have hFA23 : (σ10.1 2 3).toInt = (σM.1 0 7).toInt := by rw [(hA13 2 3 rfl).1]; exact hFA
  have hE24 : zl_E σ10 σM := hE.x hA13 rfl (fun _ => rfl) (fun _ => rfl) (fun _ => rfl)
  have hK25 : zw_K σM := hK
  have hNT26 : zl_N σ10 σM := hNT.x hA13 rfl (fun _ => rfl) (fun _ => rfl) (fun _ => rfl)
  refine zr_pop hB dL_law_747 rfl ?_
  refine zr_aload_n hB 1 dL_law_748 rfl ?_
  refine zr_aload_n hB 3 dL_law_749 rfl ?_
  refine zr_iload_n hB 0 dL_law_750 rfl ?_
  refine zr_iconst hB dL_law_751 rfl (fun z27 hz27 => ?_)
  refine zr_iadd hB dL_law_752 (by omega) (by omega) (fun z28 hz28 => ?_)
  refine zl_sld hG (ni + 1) dL_law_753 (by omega) (by omega) ?_
  clear hz27 hz28
  refine zr_aload_n hB 3 dL_law_754 rfl ?_
  refine zr_iload_n hB 0 dL_law_755 rfl ?_
  refine zr_iconst hB dL_law_756 rfl (fun z29 hz29 => ?_)
  refine zr_iadd hB dL_law_757 (by omega) (by omega) (fun z30 hz30 => ?_)
  refine zl_sld hG (ni + 2) dL_law_758 (by omega) (by omega) ?_
  clear hz29 hz30
  refine zr_aload_n hB 3 dL_law_759 rfl ?_
  refine zr_iload_n hB 0 dL_law_760 rfl ?_
  refine zr_iconst hB dL_law_761 rfl (fun z31 hz31 => ?_)
  refine zr_iadd hB dL_law_762 (by omega) (by omega) (fun z32 hz32 => ?_)
  refine zl_sld hG (ni + 3) dL_law_763 (by omega) (by omega) ?_
  clear hz31 hz32
  refine zr_aload_n hB 3 dL_law_764 rfl ?_
  refine zr_iload_n hB 0 dL_law_765 rfl ?_
  refine zr_iconst hB dL_law_766 rfl (fun z33 hz33 => ?_)
  refine zr_iadd hB dL_law_767 (by omega) (by omega) (fun z34 hz34 => ?_)
  refine zl_sld hG (ni + 4) dL_law_768 (by omega) (by omega) ?_
  clear hz33 hz34
  refine zl_callM hG (As := [.int (zt_x Z (ni + 1)), .int (zt_x Z (ni + 2)), .int (zt_x Z (ni + 3)), .int (zt_x Z (ni + 4))]) (rest := []) dL_law_769 wm_L_79 rfl (c_M_best (zl_K K (zt_M Z)) hG.2.2.2.2.2.2.2.2.2.2.1 σM (zt_x Z (ni + 1)) (zt_x Z (ni + 2)) (zt_x Z (ni + 3)) (zt_x Z (ni + 4)) hOM hT) rfl rfl (Nat.le_of_ble_eq_true rfl) ⟨(Nat.le_of_ble_eq_true rfl), (Nat.le_of_ble_eq_true rfl), rfl, rfl⟩ (fun r35 σ36 h37 => ?_)
  obtain ⟨hO38, hA39⟩ := h37
  have hT40 := zm_T.ag hT hA39 rfl (fun _ => rfl) (fun _ => rfl)
  have hN41 : (σ10.1 1 0).toInt = (σ36.1 0 1).toInt := by rw [(hA39 0 1 rfl).1]; exact hN14
  have hL42 : (σ10.1 2 1).toInt = (σ36.1 0 6).toInt := by rw [(hA39 0 6 rfl).1]; exact hL15
  have hF43 : ∀ j : Nat, (σ10.1 15 j).toInt = (σ36.1 2 j).toInt := fun j => by rw [(hA39 2 j rfl).1]; exact hF16 j
  have hD44 : ∀ j : Nat, (σ10.1 16 j).toInt = (σ36.1 3 j).toInt := fun j => by rw [(hA39 3 j rfl).1]; exact hD17 j
  have hSL45 : ∀ j : Nat, zl_R (σ10.1 37 j) (σ36.1 24 j) := fun j => by rw [(hA39 24 j rfl).1]; exact hSL18 j
  have hSN46 : ∀ j : Nat, (σ10.1 38 j).toInt = (σ36.1 25 j).toInt := fun j => by rw [(hA39 25 j rfl).1]; exact hSN19 j
  have hSC47 : zl_SC σ10 σ36 := hSC20.m hA39 (fun _ => rfl)
  have hW48 : zl_W σ10 σ36 := hW21.m hA39 (fun _ => rfl) rfl
  have hBY49 : zl_B σ10 σ36 := hBY22.m hA39 (fun _ => rfl)
  have hFA50 : (σ10.1 2 3).toInt = (σ36.1 0 7).toInt := by rw [(hA39 0 7 rfl).1]; exact hFA23
  have hE51 : zl_E σ10 σ36 := hE24.m hA39 rfl (fun _ => rfl) (fun _ => rfl) (fun _ => rfl)
  have hK52 : zw_K σ36 := zw_K.ag hK25 hA39 rfl (fun _ => rfl) (fun _ => rfl)
  have hNT53 : zl_N σ10 σ36 := hNT26.m hA39 rfl (fun _ => rfl) (fun _ => rfl) (fun _ => rfl)
  refine zr_pop hB dL_law_772 rfl ?_
  refine zr_goto hB dL_law_773 (tgt := 1780) rfl ?_
  exact kk _ _ ⟨hO12, hO38, hT40, hN41, hL42, hF43, hD44, hSL45, hSN46, hSC47, hW48, hBY49, hFA50, hE51, hK52, hNT53⟩

theorem lc_14 {K : zc_K} {G : zc_X} {Z : zl_T} (hG : zl_G K G Z) {σX σM : zc_S} {i : Int32} {ni : Nat} (hi : i.toInt = (ni : Int)) (h9 : ni + 9 ≤ zt_L Z) (hv : zl_v σX σM) (kk : ∀ σX' σM', zl_v σX' σM' → zc_V 4 K G (zl_I K G Z σX' σM') [(3, .int i), (2, .ref (zt_M Z 0)), (1, .ref (zt_X Z 0)), (0, .ref (zt_b Z))] 1780 []) : zc_V 4 K G (zl_I K G Z σX σM) [(3, .int i), (2, .ref (zt_M Z 0)), (1, .ref (zt_X Z 0)), (0, .ref (zt_b Z))] 776 [] := by
  obtain ⟨hOX, hOM, hT, hN, hL, hF, hD, hSL, hSN, hSC, hW, hBY, hFA, hE, hK, hNT⟩ := hv
  have hB := hG.1
  have hZ := hG.2.2.2.2.2.2.1
  refine zr_aload_n hB 2 dL_law_776 rfl ?_
  refine zr_aload_n hB 3 dL_law_777 rfl ?_
  refine zr_iload_n hB 0 dL_law_778 rfl ?_
  refine zr_iconst hB dL_law_779 rfl (fun z1 hz1 => ?_)
  refine zr_iadd hB dL_law_780 (by omega) (by omega) (fun z2 hz2 => ?_)
  refine zl_sld hG (ni + 1) dL_law_781 (by omega) (by omega) ?_
  clear hz1 hz2
  refine zr_aload_n hB 3 dL_law_782 rfl ?_
  refine zr_iload_n hB 0 dL_law_783 rfl ?_
  refine zr_iconst hB dL_law_784 rfl (fun z3 hz3 => ?_)
  refine zr_iadd hB dL_law_785 (by omega) (by omega) (fun z4 hz4 => ?_)
  refine zl_sld hG (ni + 2) dL_law_786 (by omega) (by omega) ?_
  clear hz3 hz4
  refine zr_aload_n hB 3 dL_law_787 rfl ?_
  refine zr_iload_n hB 0 dL_law_788 rfl ?_
  refine zr_iconst hB dL_law_789 rfl (fun z5 hz5 => ?_)
  refine zr_iadd hB dL_law_790 (by omega) (by omega) (fun z6 hz6 => ?_)
  refine zl_sld hG (ni + 3) dL_law_791 (by omega) (by omega) ?_
  clear hz5 hz6
  refine zr_aload_n hB 3 dL_law_792 rfl ?_
  refine zr_iload_n hB 0 dL_law_793 rfl ?_
  refine zr_iconst hB dL_law_794 rfl (fun z7 hz7 => ?_)
  refine zr_iadd hB dL_law_795 (by omega) (by omega) (fun z8 hz8 => ?_)
  refine zl_sld hG (ni + 4) dL_law_796 (by omega) (by omega) ?_
  clear hz7 hz8
  refine zr_aload_n hB 3 dL_law_797 rfl ?_
  refine zr_iload_n hB 0 dL_law_798 rfl ?_
  refine zr_iconst hB dL_law_799 rfl (fun z9 hz9 => ?_)
  refine zr_iadd hB dL_law_800 (by omega) (by omega) (fun z10 hz10 => ?_)
  refine zl_sld hG (ni + 5) dL_law_801 (by omega) (by omega) ?_
  clear hz9 hz10
  refine zr_aload_n hB 3 dL_law_802 rfl ?_
  refine zr_iload_n hB 0 dL_law_803 rfl ?_
  refine zr_bipush hB dL_law_804 rfl (fun z11 hz11 => ?_)
  refine zr_iadd hB dL_law_806 (by omega) (by omega) (fun z12 hz12 => ?_)
  refine zl_sld hG (ni + 6) dL_law_807 (by omega) (by omega) ?_
  clear hz11 hz12
  refine zl_callX hG (As := [.int (zt_x Z (ni + 1)), .int (zt_x Z (ni + 2)), .int (zt_x Z (ni + 3)), .int (zt_x Z (ni + 4)), .int (zt_x Z (ni + 5)), .int (zt_x Z (ni + 6))]) (rest := []) dL_law_808 wm_L_80 rfl (c_X8_fit_0 (zl_K K (zt_X Z)) hG.2.2.2.2.2.2.2.2.2.1 σX (zt_x Z (ni + 1)) (zt_x Z (ni + 2)) (zt_x Z (ni + 3)) (zt_x Z (ni + 4)) (zt_x Z (ni + 5)) (zt_x Z (ni + 6)) hOX ) rfl rfl (Nat.le_of_ble_eq_true rfl) ⟨(Nat.le_of_ble_eq_true rfl), (Nat.le_of_ble_eq_true rfl), rfl, rfl⟩ (fun r13 σ14 h15 => ?_)
  obtain ⟨hO16, hA17⟩ := h15
  have hN18 : (σ14.1 1 0).toInt = (σM.1 0 1).toInt := by rw [(hA17 1 0 rfl).1]; exact hN
  have hL19 : (σ14.1 2 1).toInt = (σM.1 0 6).toInt := by rw [(hA17 2 1 rfl).1]; exact hL
  have hF20 : ∀ j : Nat, (σ14.1 15 j).toInt = (σM.1 2 j).toInt := fun j => by rw [(hA17 15 j rfl).1]; exact hF j
  have hD21 : ∀ j : Nat, (σ14.1 16 j).toInt = (σM.1 3 j).toInt := fun j => by rw [(hA17 16 j rfl).1]; exact hD j
  have hSL22 : ∀ j : Nat, zl_R (σ14.1 37 j) (σM.1 24 j) := fun j => by rw [(hA17 37 j rfl).1]; exact hSL j
  have hSN23 : ∀ j : Nat, (σ14.1 38 j).toInt = (σM.1 25 j).toInt := fun j => by rw [(hA17 38 j rfl).1]; exact hSN j
  have hSC24 : zl_SC σ14 σM := hSC.x hA17 (fun _ => rfl) (fun _ => rfl)
  have hW25 : zl_W σ14 σM := hW.x hA17 rfl (fun _ => rfl) (fun _ => rfl) (fun _ => rfl) (fun _ => rfl)
  have hBY26 : zl_B σ14 σM := hBY.x hA17 rfl (fun _ => rfl)
  have hFA27 : (σ14.1 2 3).toInt = (σM.1 0 7).toInt := by rw [(hA17 2 3 rfl).1]; exact hFA
  have hE28 : zl_E σ14 σM := hE.x hA17 rfl (fun _ => rfl) (fun _ => rfl) (fun _ => rfl)
  have hK29 : zw_K σM := hK
  have hNT30 : zl_N σ14 σM := hNT.x hA17 rfl (fun _ => rfl) (fun _ => rfl) (fun _ => rfl)
  refine zr_pop hB dL_law_811 rfl ?_
  refine zr_aload_n hB 1 dL_law_812 rfl ?_
  refine zr_aload_n hB 3 dL_law_813 rfl ?_
  refine zr_iload_n hB 0 dL_law_814 rfl ?_
  refine zr_iconst hB dL_law_815 rfl (fun z31 hz31 => ?_)
  refine zr_iadd hB dL_law_816 (by omega) (by omega) (fun z32 hz32 => ?_)
  refine zl_sld hG (ni + 1) dL_law_817 (by omega) (by omega) ?_
  clear hz31 hz32
  refine zr_aload_n hB 3 dL_law_818 rfl ?_
  refine zr_iload_n hB 0 dL_law_819 rfl ?_
  refine zr_iconst hB dL_law_820 rfl (fun z33 hz33 => ?_)
  refine zr_iadd hB dL_law_821 (by omega) (by omega) (fun z34 hz34 => ?_)
  refine zl_sld hG (ni + 2) dL_law_822 (by omega) (by omega) ?_
  clear hz33 hz34
  refine zr_aload_n hB 3 dL_law_823 rfl ?_
  refine zr_iload_n hB 0 dL_law_824 rfl ?_
  refine zr_iconst hB dL_law_825 rfl (fun z35 hz35 => ?_)
  refine zr_iadd hB dL_law_826 (by omega) (by omega) (fun z36 hz36 => ?_)
  refine zl_sld hG (ni + 3) dL_law_827 (by omega) (by omega) ?_
  clear hz35 hz36
  refine zr_aload_n hB 3 dL_law_828 rfl ?_
  refine zr_iload_n hB 0 dL_law_829 rfl ?_
  refine zr_iconst hB dL_law_830 rfl (fun z37 hz37 => ?_)
  refine zr_iadd hB dL_law_831 (by omega) (by omega) (fun z38 hz38 => ?_)
  refine zl_sld hG (ni + 4) dL_law_832 (by omega) (by omega) ?_
  clear hz37 hz38
  refine zr_aload_n hB 3 dL_law_833 rfl ?_
  refine zr_iload_n hB 0 dL_law_834 rfl ?_
  refine zr_iconst hB dL_law_835 rfl (fun z39 hz39 => ?_)
  refine zr_iadd hB dL_law_836 (by omega) (by omega) (fun z40 hz40 => ?_)
  refine zl_sld hG (ni + 5) dL_law_837 (by omega) (by omega) ?_
  clear hz39 hz40
  refine zr_aload_n hB 3 dL_law_838 rfl ?_
  refine zr_iload_n hB 0 dL_law_839 rfl ?_
  refine zr_bipush hB dL_law_840 rfl (fun z41 hz41 => ?_)
  refine zr_iadd hB dL_law_842 (by omega) (by omega) (fun z42 hz42 => ?_)
  refine zl_sld hG (ni + 6) dL_law_843 (by omega) (by omega) ?_
  clear hz41 hz42
  refine zl_callM hG (As := [.int (zt_x Z (ni + 1)), .int (zt_x Z (ni + 2)), .int (zt_x Z (ni + 3)), .int (zt_x Z (ni + 4)), .int (zt_x Z (ni + 5)), .int (zt_x Z (ni + 6))]) (rest := []) dL_law_844 wm_L_83 rfl (c_M_fit (zl_K K (zt_M Z)) hG.2.2.2.2.2.2.2.2.2.2.1 σM (zt_x Z (ni + 1)) (zt_x Z (ni + 2)) (zt_x Z (ni + 3)) (zt_x Z (ni + 4)) (zt_x Z (ni + 5)) (zt_x Z (ni + 6)) hOM hT) rfl rfl (Nat.le_of_ble_eq_true rfl) ⟨(Nat.le_of_ble_eq_true rfl), (Nat.le_of_ble_eq_true rfl), rfl, rfl⟩ (fun r43 σ44 h45 => ?_)
  obtain ⟨hO46, hA47⟩ := h45
  have hT48 := zm_T.ag hT hA47 rfl (fun _ => rfl) (fun _ => rfl)
  have hN49 : (σ14.1 1 0).toInt = (σ44.1 0 1).toInt := by rw [(hA47 0 1 rfl).1]; exact hN18
  have hL50 : (σ14.1 2 1).toInt = (σ44.1 0 6).toInt := by rw [(hA47 0 6 rfl).1]; exact hL19
  have hF51 : ∀ j : Nat, (σ14.1 15 j).toInt = (σ44.1 2 j).toInt := fun j => by rw [(hA47 2 j rfl).1]; exact hF20 j
  have hD52 : ∀ j : Nat, (σ14.1 16 j).toInt = (σ44.1 3 j).toInt := fun j => by rw [(hA47 3 j rfl).1]; exact hD21 j
  have hSL53 : ∀ j : Nat, zl_R (σ14.1 37 j) (σ44.1 24 j) := fun j => by rw [(hA47 24 j rfl).1]; exact hSL22 j
  have hSN54 : ∀ j : Nat, (σ14.1 38 j).toInt = (σ44.1 25 j).toInt := fun j => by rw [(hA47 25 j rfl).1]; exact hSN23 j
  have hSC55 : zl_SC σ14 σ44 := hSC24.m hA47 (fun _ => rfl)
  have hW56 : zl_W σ14 σ44 := hW25.m hA47 (fun _ => rfl) rfl
  have hBY57 : zl_B σ14 σ44 := hBY26.m hA47 (fun _ => rfl)
  have hFA58 : (σ14.1 2 3).toInt = (σ44.1 0 7).toInt := by rw [(hA47 0 7 rfl).1]; exact hFA27
  have hE59 : zl_E σ14 σ44 := hE28.m hA47 rfl (fun _ => rfl) (fun _ => rfl) (fun _ => rfl)
  have hK60 : zw_K σ44 := zw_K.ag hK29 hA47 rfl (fun _ => rfl) (fun _ => rfl)
  have hNT61 : zl_N σ14 σ44 := hNT30.m hA47 rfl (fun _ => rfl) (fun _ => rfl) (fun _ => rfl)
  refine zr_pop hB dL_law_847 rfl ?_
  refine zr_goto hB dL_law_848 (tgt := 1780) rfl ?_
  exact kk _ _ ⟨hO16, hO46, hT48, hN49, hL50, hF51, hD52, hSL53, hSN54, hSC55, hW56, hBY57, hFA58, hE59, hK60, hNT61⟩

theorem lc_15 {K : zc_K} {G : zc_X} {Z : zl_T} (hG : zl_G K G Z) {σX σM : zc_S} {i : Int32} {ni : Nat} (hi : i.toInt = (ni : Int)) (h9 : ni + 9 ≤ zt_L Z) (hv : zl_v σX σM) (kk : ∀ σX' σM', zl_v σX' σM' → zc_V 4 K G (zl_I K G Z σX' σM') [(3, .int i), (2, .ref (zt_M Z 0)), (1, .ref (zt_X Z 0)), (0, .ref (zt_b Z))] 1780 []) : zc_V 4 K G (zl_I K G Z σX σM) [(3, .int i), (2, .ref (zt_M Z 0)), (1, .ref (zt_X Z 0)), (0, .ref (zt_b Z))] 851 [] := by
  obtain ⟨hOX, hOM, hT, hN, hL, hF, hD, hSL, hSN, hSC, hW, hBY, hFA, hE, hK, hNT⟩ := hv
  have hB := hG.1
  have hZ := hG.2.2.2.2.2.2.1
  refine zr_aload_n hB 2 dL_law_851 rfl ?_
  refine zr_aload_n hB 3 dL_law_852 rfl ?_
  refine zr_iload_n hB 0 dL_law_853 rfl ?_
  refine zr_iconst hB dL_law_854 rfl (fun z1 hz1 => ?_)
  refine zr_iadd hB dL_law_855 (by omega) (by omega) (fun z2 hz2 => ?_)
  refine zl_sld hG (ni + 1) dL_law_856 (by omega) (by omega) ?_
  clear hz1 hz2
  refine zr_aload_n hB 3 dL_law_857 rfl ?_
  refine zr_iload_n hB 0 dL_law_858 rfl ?_
  refine zr_iconst hB dL_law_859 rfl (fun z3 hz3 => ?_)
  refine zr_iadd hB dL_law_860 (by omega) (by omega) (fun z4 hz4 => ?_)
  refine zl_sld hG (ni + 2) dL_law_861 (by omega) (by omega) ?_
  clear hz3 hz4
  refine zr_aload_n hB 3 dL_law_862 rfl ?_
  refine zr_iload_n hB 0 dL_law_863 rfl ?_
  refine zr_iconst hB dL_law_864 rfl (fun z5 hz5 => ?_)
  refine zr_iadd hB dL_law_865 (by omega) (by omega) (fun z6 hz6 => ?_)
  refine zl_sld hG (ni + 3) dL_law_866 (by omega) (by omega) ?_
  clear hz5 hz6
  refine zr_aload_n hB 3 dL_law_867 rfl ?_
  refine zr_iload_n hB 0 dL_law_868 rfl ?_
  refine zr_iconst hB dL_law_869 rfl (fun z7 hz7 => ?_)
  refine zr_iadd hB dL_law_870 (by omega) (by omega) (fun z8 hz8 => ?_)
  refine zl_sld hG (ni + 4) dL_law_871 (by omega) (by omega) ?_
  clear hz7 hz8
  refine zr_aload_n hB 3 dL_law_872 rfl ?_
  refine zr_iload_n hB 0 dL_law_873 rfl ?_
  refine zr_iconst hB dL_law_874 rfl (fun z9 hz9 => ?_)
  refine zr_iadd hB dL_law_875 (by omega) (by omega) (fun z10 hz10 => ?_)
  refine zl_sld hG (ni + 5) dL_law_876 (by omega) (by omega) ?_
  clear hz9 hz10
  refine zr_aload_n hB 3 dL_law_877 rfl ?_
  refine zr_iload_n hB 0 dL_law_878 rfl ?_
  refine zr_bipush hB dL_law_879 rfl (fun z11 hz11 => ?_)
  refine zr_iadd hB dL_law_881 (by omega) (by omega) (fun z12 hz12 => ?_)
  refine zl_sld hG (ni + 6) dL_law_882 (by omega) (by omega) ?_
  clear hz11 hz12
  refine zl_callX hG (As := [.int (zt_x Z (ni + 1)), .int (zt_x Z (ni + 2)), .int (zt_x Z (ni + 3)), .int (zt_x Z (ni + 4)), .int (zt_x Z (ni + 5)), .int (zt_x Z (ni + 6))]) (rest := []) dL_law_883 wm_L_84 rfl (c_X8_span_0 (zl_K K (zt_X Z)) hG.2.2.2.2.2.2.2.2.2.1 σX (zt_x Z (ni + 1)) (zt_x Z (ni + 2)) (zt_x Z (ni + 3)) (zt_x Z (ni + 4)) (zt_x Z (ni + 5)) (zt_x Z (ni + 6)) hOX ) rfl rfl (Nat.le_of_ble_eq_true rfl) ⟨(Nat.le_of_ble_eq_true rfl), (Nat.le_of_ble_eq_true rfl), rfl, rfl⟩ (fun r13 σ14 h15 => ?_)
  obtain ⟨hO16, hA17⟩ := h15
  have hN18 : (σ14.1 1 0).toInt = (σM.1 0 1).toInt := by rw [(hA17 1 0 rfl).1]; exact hN
  have hL19 : (σ14.1 2 1).toInt = (σM.1 0 6).toInt := by rw [(hA17 2 1 rfl).1]; exact hL
  have hF20 : ∀ j : Nat, (σ14.1 15 j).toInt = (σM.1 2 j).toInt := fun j => by rw [(hA17 15 j rfl).1]; exact hF j
  have hD21 : ∀ j : Nat, (σ14.1 16 j).toInt = (σM.1 3 j).toInt := fun j => by rw [(hA17 16 j rfl).1]; exact hD j
  have hSL22 : ∀ j : Nat, zl_R (σ14.1 37 j) (σM.1 24 j) := fun j => by rw [(hA17 37 j rfl).1]; exact hSL j
  have hSN23 : ∀ j : Nat, (σ14.1 38 j).toInt = (σM.1 25 j).toInt := fun j => by rw [(hA17 38 j rfl).1]; exact hSN j
  have hSC24 : zl_SC σ14 σM := hSC.x hA17 (fun _ => rfl) (fun _ => rfl)
  have hW25 : zl_W σ14 σM := hW.x hA17 rfl (fun _ => rfl) (fun _ => rfl) (fun _ => rfl) (fun _ => rfl)
  have hBY26 : zl_B σ14 σM := hBY.x hA17 rfl (fun _ => rfl)
  have hFA27 : (σ14.1 2 3).toInt = (σM.1 0 7).toInt := by rw [(hA17 2 3 rfl).1]; exact hFA
  have hE28 : zl_E σ14 σM := hE.x hA17 rfl (fun _ => rfl) (fun _ => rfl) (fun _ => rfl)
  have hK29 : zw_K σM := hK
  have hNT30 : zl_N σ14 σM := hNT.x hA17 rfl (fun _ => rfl) (fun _ => rfl) (fun _ => rfl)
  refine zr_pop hB dL_law_886 rfl ?_
  refine zr_aload_n hB 1 dL_law_887 rfl ?_
  refine zr_aload_n hB 3 dL_law_888 rfl ?_
  refine zr_iload_n hB 0 dL_law_889 rfl ?_
  refine zr_iconst hB dL_law_890 rfl (fun z31 hz31 => ?_)
  refine zr_iadd hB dL_law_891 (by omega) (by omega) (fun z32 hz32 => ?_)
  refine zl_sld hG (ni + 1) dL_law_892 (by omega) (by omega) ?_
  clear hz31 hz32
  refine zr_aload_n hB 3 dL_law_893 rfl ?_
  refine zr_iload_n hB 0 dL_law_894 rfl ?_
  refine zr_iconst hB dL_law_895 rfl (fun z33 hz33 => ?_)
  refine zr_iadd hB dL_law_896 (by omega) (by omega) (fun z34 hz34 => ?_)
  refine zl_sld hG (ni + 2) dL_law_897 (by omega) (by omega) ?_
  clear hz33 hz34
  refine zr_aload_n hB 3 dL_law_898 rfl ?_
  refine zr_iload_n hB 0 dL_law_899 rfl ?_
  refine zr_iconst hB dL_law_900 rfl (fun z35 hz35 => ?_)
  refine zr_iadd hB dL_law_901 (by omega) (by omega) (fun z36 hz36 => ?_)
  refine zl_sld hG (ni + 3) dL_law_902 (by omega) (by omega) ?_
  clear hz35 hz36
  refine zr_aload_n hB 3 dL_law_903 rfl ?_
  refine zr_iload_n hB 0 dL_law_904 rfl ?_
  refine zr_iconst hB dL_law_905 rfl (fun z37 hz37 => ?_)
  refine zr_iadd hB dL_law_906 (by omega) (by omega) (fun z38 hz38 => ?_)
  refine zl_sld hG (ni + 4) dL_law_907 (by omega) (by omega) ?_
  clear hz37 hz38
  refine zr_aload_n hB 3 dL_law_908 rfl ?_
  refine zr_iload_n hB 0 dL_law_909 rfl ?_
  refine zr_iconst hB dL_law_910 rfl (fun z39 hz39 => ?_)
  refine zr_iadd hB dL_law_911 (by omega) (by omega) (fun z40 hz40 => ?_)
  refine zl_sld hG (ni + 5) dL_law_912 (by omega) (by omega) ?_
  clear hz39 hz40
  refine zr_aload_n hB 3 dL_law_913 rfl ?_
  refine zr_iload_n hB 0 dL_law_914 rfl ?_
  refine zr_bipush hB dL_law_915 rfl (fun z41 hz41 => ?_)
  refine zr_iadd hB dL_law_917 (by omega) (by omega) (fun z42 hz42 => ?_)
  refine zl_sld hG (ni + 6) dL_law_918 (by omega) (by omega) ?_
  clear hz41 hz42
  refine zl_callM hG (As := [.int (zt_x Z (ni + 1)), .int (zt_x Z (ni + 2)), .int (zt_x Z (ni + 3)), .int (zt_x Z (ni + 4)), .int (zt_x Z (ni + 5)), .int (zt_x Z (ni + 6))]) (rest := []) dL_law_919 wm_L_87 rfl (c_M_span (zl_K K (zt_M Z)) hG.2.2.2.2.2.2.2.2.2.2.1 σM (zt_x Z (ni + 1)) (zt_x Z (ni + 2)) (zt_x Z (ni + 3)) (zt_x Z (ni + 4)) (zt_x Z (ni + 5)) (zt_x Z (ni + 6)) hOM hT) rfl rfl (Nat.le_of_ble_eq_true rfl) ⟨(Nat.le_of_ble_eq_true rfl), (Nat.le_of_ble_eq_true rfl), rfl, rfl⟩ (fun r43 σ44 h45 => ?_)
  obtain ⟨hO46, hA47⟩ := h45
  have hT48 := zm_T.ag hT hA47 rfl (fun _ => rfl) (fun _ => rfl)
  have hN49 : (σ14.1 1 0).toInt = (σ44.1 0 1).toInt := by rw [(hA47 0 1 rfl).1]; exact hN18
  have hL50 : (σ14.1 2 1).toInt = (σ44.1 0 6).toInt := by rw [(hA47 0 6 rfl).1]; exact hL19
  have hF51 : ∀ j : Nat, (σ14.1 15 j).toInt = (σ44.1 2 j).toInt := fun j => by rw [(hA47 2 j rfl).1]; exact hF20 j
  have hD52 : ∀ j : Nat, (σ14.1 16 j).toInt = (σ44.1 3 j).toInt := fun j => by rw [(hA47 3 j rfl).1]; exact hD21 j
  have hSL53 : ∀ j : Nat, zl_R (σ14.1 37 j) (σ44.1 24 j) := fun j => by rw [(hA47 24 j rfl).1]; exact hSL22 j
  have hSN54 : ∀ j : Nat, (σ14.1 38 j).toInt = (σ44.1 25 j).toInt := fun j => by rw [(hA47 25 j rfl).1]; exact hSN23 j
  have hSC55 : zl_SC σ14 σ44 := hSC24.m hA47 (fun _ => rfl)
  have hW56 : zl_W σ14 σ44 := hW25.m hA47 (fun _ => rfl) rfl
  have hBY57 : zl_B σ14 σ44 := hBY26.m hA47 (fun _ => rfl)
  have hFA58 : (σ14.1 2 3).toInt = (σ44.1 0 7).toInt := by rw [(hA47 0 7 rfl).1]; exact hFA27
  have hE59 : zl_E σ14 σ44 := hE28.m hA47 rfl (fun _ => rfl) (fun _ => rfl) (fun _ => rfl)
  have hK60 : zw_K σ44 := zw_K.ag hK29 hA47 rfl (fun _ => rfl) (fun _ => rfl)
  have hNT61 : zl_N σ14 σ44 := hNT30.m hA47 rfl (fun _ => rfl) (fun _ => rfl) (fun _ => rfl)
  refine zr_pop hB dL_law_922 rfl ?_
  refine zr_goto hB dL_law_923 (tgt := 1780) rfl ?_
  exact kk _ _ ⟨hO16, hO46, hT48, hN49, hL50, hF51, hD52, hSL53, hSN54, hSC55, hW56, hBY57, hFA58, hE59, hK60, hNT61⟩

