set_option maxHeartbeats 1000000 in
set_option maxRecDepth 100000 in
theorem c_X7_byLike_10 (K : zc_K) (hi : zc_inj shX K.2.2.2.1) (σ0 : zc_S) (p1 : Int32) (p2 : Int32) (hO0 : zc_O okX σ0) (h2a : 0 ≤ p2.toInt) (h2b : p2.toInt ≤ 14) : zc_M shX K yX7_byLike cX7_byLike 7 (some .int) (zrm 1 21) σ0 [.ref (zk K 10), .int p1, .int p2] (zc_I (fun r9 σ9 => σ0 = σ9 ∧ (-4) ≤ r9.toInt ∧ r9.toInt ≤ 999 ∧ (r9.toInt = (-4) ∨ 0 ≤ r9.toInt))) := by
  refine zc_start RX7 hi pfX7_byLike rfl (Nat.le_of_ble_eq_true rfl) ?_
  intro G hG
  have hB := hG.1
  show zc_V 7 K G (zc_D shX K G σ0) [(0, .ref (zk K 10)), (1, .int p1), (2, .int p2)] 0 []
  refine zr_aload_n hB 0 dX7_byLike_0 rfl ?_
  refine zr_getr hG 10 0 dX7_byLike_1 rfl wf_X7_15 rfl ?_
  refine zr_aload_n hB 0 dX7_byLike_4 rfl ?_
  refine zr_geti' hG 10 2 (σ0.1 10 2) dX7_byLike_5 rfl wf_X7_25 rfl rfl ?_
  have b1 : 0 ≤ (σ0.1 10 2).toInt ∧ (σ0.1 10 2).toInt ≤ 63 := ⟨(hO0 10 2).1, (hO0 10 2).2.1⟩
  refine zr_iload_n hB 2 dX7_byLike_8 rfl ?_
  refine zr_iadd hB dX7_byLike_9 (by omega) (by omega) (fun x2 ex2 => ?_)
  refine zr_callvi hG (rest := []) 1 dX7_byLike_10 wm_X7_59 rfl rfl (c_X4_isFeast_1 K hG.2.2.2.2.2.1 σ0 x2 hO0 ) rfl rfl (Nat.le_of_ble_eq_true rfl) ⟨Nat.le_of_ble_eq_true rfl, Nat.le_of_ble_eq_true rfl, rfl, rfl⟩ (fun r3 σ4 h5 => ?_)
  obtain ⟨rfl, r3a, r3b, g6⟩ := h5
  refine zr_istore_n hB dX7_byLike_13 rfl (by decide) (lv' := [(3, .int r3), (0, .ref (zk K 10)), (1, .int p1), (2, .int p2)]) rfl ?_
  refine zr_iconst hB dX7_byLike_14 rfl (fun c7 ec7 => ?_)
  refine zr_istore hB dX7_byLike_15 (by decide) (lv' := [(4, .int c7), (3, .int r3), (0, .ref (zk K 10)), (1, .int p1), (2, .int p2)]) rfl ?_
  refine zr_iconst hB dX7_byLike_17 rfl (fun c8 ec8 => ?_)
  refine zr_istore hB dX7_byLike_18 (by decide) (lv' := [(5, .int c8), (4, .int c7), (3, .int r3), (0, .ref (zk K 10)), (1, .int p1), (2, .int p2)]) rfl ?_
  refine zr_aload_n hB 3 dX7_byLike_20 rfl ?_
  refine zr_geti' hG 10 2 (σ0.1 10 2) dX7_byLike_21 rfl wf_X7_25 rfl rfl ?_
  refine zr_iload_n hB 5 dX7_byLike_24 rfl ?_
  refine zr_iadd hB dX7_byLike_25 (by omega) (by omega) (fun x9 ex9 => ?_)
  refine zr_bipush hB dX7_byLike_26 rfl (fun c10 ec10 => ?_)
  refine zr_isub hB dX7_byLike_28 (by omega) (by omega) (fun x11 ex11 => ?_)
  refine zr_istore hB dX7_byLike_29 (by decide) (lv' := [(6, .int x11), (5, .int c8), (4, .int c7), (3, .int r3), (0, .ref (zk K 10)), (1, .int p1), (2, .int p2)]) rfl ?_
  have L31_17 : ∀ (n31 : Nat) (y4_12 : Int32) (y5_13 : Int32) (y6_14 : Int32), 0 ≤ y4_12.toInt → y4_12.toInt ≤ 63936 → 0 ≤ y5_13.toInt → y5_13.toInt ≤ 64 → (-7) ≤ y6_14.toInt → y6_14.toInt ≤ 70 → y4_12.toInt ≤ 999 * y5_13.toInt → 7 * y5_13.toInt + y6_14.toInt ≤ 70 → y6_14.toInt - (-7) < (n31 : Int) → zc_V 7 K G (zc_D shX K G σ0) [(0, .ref (zk K 10)), (1, .int p1), (2, .int p2), (3, .int r3), (4, .int y4_12), (5, .int y5_13), (6, .int y6_14)] 31 [] := by
    intro n31
    induction n31 with
    | zero => intro y4_12 y5_13 y6_14 y4_12a y4_12b y5_13a y5_13b y6_14a y6_14b e15 e16 hn31; exfalso; omega
    | succ n31 ih31 =>
      intro y4_12 y5_13 y6_14 y4_12a y4_12b y5_13a y5_13b y6_14a y6_14b e15 e16 hn31
      refine zr_iload hB 6 dX7_byLike_31 rfl ?_
      refine zr_if_lt hB dX7_byLike_33 (tgt := 97) rfl (fun c18 => ?_) (fun c18 => ?_)
      · refine zr_iload hB 5 dX7_byLike_97 rfl ?_
        refine zr_if_ne hB dX7_byLike_99 (tgt := 107) rfl (fun c19 => ?_) (fun c19 => ?_)
        · refine zr_iload hB 4 dX7_byLike_107 rfl ?_
          refine zr_iload hB 5 dX7_byLike_109 rfl ?_
          refine zr_idiv hB dX7_byLike_111 (by omega) (by omega) (fun x20 ex20 ex20a ex20b ex20c => ?_)
          have ex20d := ex20c 999 (by omega)
          exact zr_iret hG dX7_byLike_112 ⟨rfl, by omega, by omega, by omega⟩
        refine zr_bipush hB dX7_byLike_102 rfl (fun c21 ec21 => ?_)
        refine zr_goto hB dX7_byLike_104 (tgt := 112) rfl ?_
        exact zr_iret hG dX7_byLike_112 ⟨rfl, by omega, by omega, by omega⟩
      refine zr_iload hB 5 dX7_byLike_36 rfl ?_
      refine zr_iload_n hB 1 dX7_byLike_38 rfl ?_
      refine zr_icmp_ge hB dX7_byLike_39 (tgt := 97) rfl (fun c22 => ?_) (fun c22 => ?_)
      · refine zr_iload hB 5 dX7_byLike_97 rfl ?_
        refine zr_if_ne hB dX7_byLike_99 (tgt := 107) rfl (fun c23 => ?_) (fun c23 => ?_)
        · refine zr_iload hB 4 dX7_byLike_107 rfl ?_
          refine zr_iload hB 5 dX7_byLike_109 rfl ?_
          refine zr_idiv hB dX7_byLike_111 (by omega) (by omega) (fun x24 ex24 ex24a ex24b ex24c => ?_)
          have ex24d := ex24c 999 (by omega)
          exact zr_iret hG dX7_byLike_112 ⟨rfl, by omega, by omega, by omega⟩
        refine zr_bipush hB dX7_byLike_102 rfl (fun c25 ec25 => ?_)
        refine zr_goto hB dX7_byLike_104 (tgt := 112) rfl ?_
        exact zr_iret hG dX7_byLike_112 ⟨rfl, by omega, by omega, by omega⟩
      refine zr_iload hB 6 dX7_byLike_42 rfl ?_
      refine zr_aload_n hB 0 dX7_byLike_44 rfl ?_
      refine zr_geti' hG 10 2 (σ0.1 10 2) dX7_byLike_45 rfl wf_X7_25 rfl rfl ?_
      refine zr_icmp_gt hB dX7_byLike_48 (tgt := 91) rfl (fun c26 => ?_) (fun c26 => ?_)
      · refine zr_iinc hB 6 dX7_byLike_91 rfl (by decide) rfl (by omega) (by omega) (fun x27 ex27 lv' hlv => ?_)
        obtain rfl : [(6, .int x27), (0, .ref (zk K 10)), (1, .int p1), (2, .int p2), (3, .int r3), (4, .int y4_12), (5, .int y5_13)] = lv' := hlv
        refine zr_goto hB dX7_byLike_94 (tgt := 31) rfl ?_
        exact zc_sub [1, 2, 3, 4, 5, 6, 0] rfl (ih31 y4_12 y5_13 x27 (by omega) (by omega) (by omega) (by omega) (by omega) (by omega) (show y4_12.toInt ≤ 999 * y5_13.toInt by omega) (show 7 * y5_13.toInt + x27.toInt ≤ 70 by omega) (by omega))
      refine zr_aload_n hB 0 dX7_byLike_51 rfl ?_
      refine zr_getr hG 10 1 dX7_byLike_52 rfl wf_X7_9 rfl ?_
      refine zr_iload hB 6 dX7_byLike_55 rfl ?_
      refine zr_iald hG 44 dX7_byLike_57 rfl (by omega) (by omega) (fun x28 ex28 => ?_)
      have bx28 : (-4) ≤ x28.toInt ∧ x28.toInt ≤ 999 ∧ (x28.toInt = (-4) ∨ 0 ≤ x28.toInt) := by rw [ex28]; exact hO0 44 _
      refine zr_bipush hB dX7_byLike_58 rfl (fun c29 ec29 => ?_)
      refine zr_icmp_eq hB dX7_byLike_60 (tgt := 91) rfl (fun c30 => ?_) (fun c30 => ?_)
      · refine zr_iinc hB 6 dX7_byLike_91 rfl (by decide) rfl (by omega) (by omega) (fun x31 ex31 lv' hlv => ?_)
        obtain rfl : [(6, .int x31), (0, .ref (zk K 10)), (1, .int p1), (2, .int p2), (3, .int r3), (4, .int y4_12), (5, .int y5_13)] = lv' := hlv
        refine zr_goto hB dX7_byLike_94 (tgt := 31) rfl ?_
        exact zc_sub [1, 2, 3, 4, 5, 6, 0] rfl (ih31 y4_12 y5_13 x31 (by omega) (by omega) (by omega) (by omega) (by omega) (by omega) (show y4_12.toInt ≤ 999 * y5_13.toInt by omega) (show 7 * y5_13.toInt + x31.toInt ≤ 70 by omega) (by omega))
      refine zr_aload_n hB 0 dX7_byLike_63 rfl ?_
      refine zr_getr hG 10 0 dX7_byLike_64 rfl wf_X7_15 rfl ?_
      refine zr_iload hB 6 dX7_byLike_67 rfl ?_
      refine zr_callvi hG (rest := []) 1 dX7_byLike_69 wm_X7_59 rfl rfl (c_X4_isFeast_1 K hG.2.2.2.2.2.1 σ0 y6_14 hO0 ) rfl rfl (Nat.le_of_ble_eq_true rfl) ⟨Nat.le_of_ble_eq_true rfl, Nat.le_of_ble_eq_true rfl, rfl, rfl⟩ (fun r32 σ33 h34 => ?_)
      obtain ⟨rfl, r32a, r32b, g35⟩ := h34
      refine zr_iload_n hB 3 dX7_byLike_72 rfl ?_
      refine zr_icmp_ne hB dX7_byLike_73 (tgt := 91) rfl (fun c36 => ?_) (fun c36 => ?_)
      · refine zr_iinc hB 6 dX7_byLike_91 rfl (by decide) rfl (by omega) (by omega) (fun x37 ex37 lv' hlv => ?_)
        obtain rfl : [(6, .int x37), (0, .ref (zk K 10)), (1, .int p1), (2, .int p2), (3, .int r3), (4, .int y4_12), (5, .int y5_13)] = lv' := hlv
        refine zr_goto hB dX7_byLike_94 (tgt := 31) rfl ?_
        exact zc_sub [1, 2, 3, 4, 5, 6, 0] rfl (ih31 y4_12 y5_13 x37 (by omega) (by omega) (by omega) (by omega) (by omega) (by omega) (show y4_12.toInt ≤ 999 * y5_13.toInt by omega) (show 7 * y5_13.toInt + x37.toInt ≤ 70 by omega) (by omega))
      refine zr_iload hB 4 dX7_byLike_76 rfl ?_
      refine zr_aload_n hB 0 dX7_byLike_78 rfl ?_
      refine zr_getr hG 10 1 dX7_byLike_79 rfl wf_X7_9 rfl ?_
      refine zr_iload hB 6 dX7_byLike_82 rfl ?_
      refine zr_iald hG 44 dX7_byLike_84 rfl (by omega) (by omega) (fun x38 ex38 => ?_)
      obtain rfl : x28 = x38 := ex28.trans ex38.symm
      refine zr_iadd hB dX7_byLike_85 (by omega) (by omega) (fun x39 ex39 => ?_)
      refine zr_istore hB dX7_byLike_86 (by decide) (lv' := [(4, .int x39), (0, .ref (zk K 10)), (1, .int p1), (2, .int p2), (3, .int r3), (5, .int y5_13), (6, .int y6_14)]) rfl ?_
      refine zr_iinc hB 5 dX7_byLike_88 rfl (by decide) rfl (by omega) (by omega) (fun x40 ex40 lv' hlv => ?_)
      obtain rfl : [(5, .int x40), (4, .int x39), (0, .ref (zk K 10)), (1, .int p1), (2, .int p2), (3, .int r3), (6, .int y6_14)] = lv' := hlv
      refine zr_iinc hB 6 dX7_byLike_91 rfl (by decide) rfl (by omega) (by omega) (fun x41 ex41 lv' hlv => ?_)
      obtain rfl : [(6, .int x41), (5, .int x40), (4, .int x39), (0, .ref (zk K 10)), (1, .int p1), (2, .int p2), (3, .int r3)] = lv' := hlv
      refine zr_goto hB dX7_byLike_94 (tgt := 31) rfl ?_
      exact zc_sub [3, 4, 5, 6, 2, 1, 0] rfl (ih31 x39 x40 x41 (by omega) (by omega) (by omega) (by omega) (by omega) (by omega) (show x39.toInt ≤ 999 * x40.toInt by omega) (show 7 * x40.toInt + x41.toInt ≤ 70 by omega) (by omega))
  exact zc_sub [4, 5, 6, 3, 2, 1, 0] rfl (L31_17 79 c7 c8 x11 (by omega) (by omega) (by omega) (by omega) (by omega) (by omega) (show c7.toInt ≤ 999 * c8.toInt by omega) (show 7 * c8.toInt + x11.toInt ≤ 70 by omega) (by omega))

set_option maxHeartbeats 1000000 in
set_option maxRecDepth 100000 in
theorem c_X7_foretell_10 (K : zc_K) (hi : zc_inj shX K.2.2.2.1) (σ0 : zc_S) (p1 : Int32) (p2 : Int32) (p3 : Int32) (p4 : Int32) (hO0 : zc_O okX σ0) (h4a : 0 ≤ p4.toInt) (h4b : p4.toInt ≤ 14) : zc_M shX K yX7_foretell cX7_foretell 5 (some .int) (zrm 3 83) σ0 [.ref (zk K 10), .int p1, .int p2, .int p3, .int p4] (zc_I (fun r9 σ9 => σ0 = σ9 ∧ (-4) ≤ r9.toInt ∧ r9.toInt ≤ 999 ∧ (r9.toInt = (-4) ∨ 0 ≤ r9.toInt))) := by
  refine zc_start RX7 hi pfX7_foretell rfl (Nat.le_of_ble_eq_true rfl) ?_
  intro G hG
  have hB := hG.1
  show zc_V 5 K G (zc_D shX K G σ0) [(0, .ref (zk K 10)), (1, .int p1), (2, .int p2), (3, .int p3), (4, .int p4)] 0 []
  refine zr_iload_n hB 1 dX7_foretell_0 rfl ?_
  by_cases c1 : p1.toInt = 0
  · refine zr_tabIn hB 0 dX7_foretell_1 (by omega) (by omega) (off := 31) rfl (tgt := 32) rfl ?_
    refine zr_aload_n hB 0 dX7_foretell_32 rfl ?_
    refine zr_iload_n hB 2 dX7_foretell_33 rfl ?_
    refine zr_iload hB 4 dX7_foretell_34 rfl ?_
    refine zr_callvi hG (rest := []) 10 dX7_foretell_36 wm_X7_35 rfl rfl (c_X7_bySame_10 K hG.2.2.2.2.2.1 σ0 p2 p4 hO0 (by omega) (by omega)) rfl rfl (Nat.le_of_ble_eq_true rfl) ⟨Nat.le_of_ble_eq_true rfl, Nat.le_of_ble_eq_true rfl, rfl, rfl⟩ (fun r2 σ3 h4 => ?_)
    obtain ⟨rfl, r2a, r2b, r2h⟩ := h4
    exact zr_iret hG dX7_foretell_39 ⟨rfl, by omega, by omega, by omega⟩
  by_cases c5 : p1.toInt = 1
  · refine zr_tabIn hB 1 dX7_foretell_1 (by omega) (by omega) (off := 39) rfl (tgt := 40) rfl ?_
    refine zr_aload_n hB 0 dX7_foretell_40 rfl ?_
    refine zr_iload_n hB 2 dX7_foretell_41 rfl ?_
    refine zr_callvi hG (rest := []) 10 dX7_foretell_42 wm_X7_38 rfl rfl (c_X7_byMean_10 K hG.2.2.2.2.2.1 σ0 p2 hO0 ) rfl rfl (Nat.le_of_ble_eq_true rfl) ⟨Nat.le_of_ble_eq_true rfl, Nat.le_of_ble_eq_true rfl, rfl, rfl⟩ (fun r6 σ7 h8 => ?_)
    obtain ⟨rfl, r6a, r6b, r6h⟩ := h8
    exact zr_iret hG dX7_foretell_45 ⟨rfl, by omega, by omega, by omega⟩
  by_cases c9 : p1.toInt = 2
  · refine zr_tabIn hB 2 dX7_foretell_1 (by omega) (by omega) (off := 45) rfl (tgt := 46) rfl ?_
    refine zr_aload_n hB 0 dX7_foretell_46 rfl ?_
    refine zr_iload_n hB 2 dX7_foretell_47 rfl ?_
    refine zr_iload_n hB 3 dX7_foretell_48 rfl ?_
    refine zr_iload hB 4 dX7_foretell_49 rfl ?_
    refine zr_callvi hG (rest := []) 10 dX7_foretell_51 wm_X7_42 rfl rfl (c_X7_byStep_10 K hG.2.2.2.2.2.1 σ0 p2 p3 p4 hO0 ) rfl rfl (Nat.le_of_ble_eq_true rfl) ⟨Nat.le_of_ble_eq_true rfl, Nat.le_of_ble_eq_true rfl, rfl, rfl⟩ (fun r10 σ11 h12 => ?_)
    obtain ⟨rfl, r10a, r10b, r10h⟩ := h12
    exact zr_iret hG dX7_foretell_54 ⟨rfl, by omega, by omega, by omega⟩
  by_cases c13 : p1.toInt = 3
  · refine zr_tabIn hB 3 dX7_foretell_1 (by omega) (by omega) (off := 54) rfl (tgt := 55) rfl ?_
    refine zr_aload_n hB 0 dX7_foretell_55 rfl ?_
    refine zr_iload_n hB 2 dX7_foretell_56 rfl ?_
    refine zr_iload hB 4 dX7_foretell_57 rfl ?_
    refine zr_callvi hG (rest := []) 10 dX7_foretell_59 wm_X7_45 rfl rfl (c_X7_byLike_10 K hG.2.2.2.2.2.1 σ0 p2 p4 hO0 (by omega) (by omega)) rfl rfl (Nat.le_of_ble_eq_true rfl) ⟨Nat.le_of_ble_eq_true rfl, Nat.le_of_ble_eq_true rfl, rfl, rfl⟩ (fun r14 σ15 h16 => ?_)
    obtain ⟨rfl, r14a, r14b, r14h⟩ := h16
    exact zr_iret hG dX7_foretell_62 ⟨rfl, by omega, by omega, by omega⟩
  refine zr_tabOut hB dX7_foretell_1 (by omega) (tgt := 63) rfl ?_
  refine zr_bipush hB dX7_foretell_63 rfl (fun c17 ec17 => ?_)
  exact zr_iret hG dX7_foretell_65 ⟨rfl, by omega, by omega, by omega⟩

def m_X2_add_6 : zc_ms := [(6, some 0), (30, none), (31, none), (32, none), (33, none), (34, none), (35, none)]
set_option maxHeartbeats 1000000 in
set_option maxRecDepth 100000 in
theorem c_X2_add_6 (K : zc_K) (hi : zc_inj shX K.2.2.2.1) (σ0 : zc_S) (p1 : Int32) (p2 : Int32) (p3 : Int32) (p4 : Int32) (p5 : Int32) (p6 : Int32) (hO0 : zc_O okX σ0) (h1a : 0 ≤ p1.toInt) (h1b : p1.toInt ≤ 3) (h2a : 0 ≤ p2.toInt) (h2b : p2.toInt ≤ 5) (h3a : 0 ≤ p3.toInt) (h3b : p3.toInt ≤ 63) (h4a : 0 ≤ p4.toInt) (h4b : p4.toInt ≤ 77) (h5a : (-4) ≤ p5.toInt) (h5b : p5.toInt ≤ 999) (h6a : 0 ≤ p6.toInt) (h6b : p6.toInt ≤ 999) : zc_M shX K yX2_add cX2_add 7 (some .int) (zrm 0 0) σ0 [.ref (zk K 6), .int p1, .int p2, .int p3, .int p4, .int p5, .int p6] (zc_I (fun r9 σ9 => zc_O okX σ9 ∧ zc_Ag m_X2_add_6 σ0 σ9 ∧ (-3) ≤ r9.toInt ∧ r9.toInt ≤ 23 ∧ ((24 ≤ (σ0.1 6 0).toInt ∧ r9.toInt = -3 ∧ σ9 = σ0) ∨ ((σ0.1 6 0).toInt < 24 ∧ r9.toInt = (σ0.1 6 0).toInt ∧ zp_aX σ0 σ9 p1.toInt p4.toInt)))) := by
  refine zc_start RX2 hi pfX2_add rfl (Nat.le_of_ble_eq_true rfl) ?_
  intro G hG
  have hB := hG.1
  have hA0 : zc_Ag m_X2_add_6 σ0 σ0 := zc_Ag.rf
  show zc_V 7 K G (zc_D shX K G σ0) [(0, .ref (zk K 6)), (1, .int p1), (2, .int p2), (3, .int p3), (4, .int p4), (5, .int p5), (6, .int p6)] 0 []
  have bw6_0 : 0 ≤ (σ0.1 6 0).toInt ∧ (σ0.1 6 0).toInt ≤ 24 := ⟨(hO0 6 0).1, (hO0 6 0).2.1⟩
  refine zr_aload_n hB 0 dX2_add_0 rfl ?_
  refine zr_geti' hG 6 0 (σ0.1 6 0) dX2_add_1 rfl wf_X2_34 rfl rfl ?_
  refine zr_bipush hB dX2_add_4 rfl (fun c1 ec1 => ?_)
  refine zr_icmp_lt hB dX2_add_6 (tgt := 12) rfl (fun c2 => ?_) (fun c2 => ?_)
  · refine zr_aload_n hB 0 dX2_add_12 rfl ?_
    refine zr_getr hG 6 1 dX2_add_13 rfl wf_X2_9 rfl ?_
    refine zr_aload_n hB 0 dX2_add_16 rfl ?_
    refine zr_geti' hG 6 0 (σ0.1 6 0) dX2_add_17 rfl wf_X2_34 rfl rfl ?_
    refine zr_iload_n hB 1 dX2_add_20 rfl ?_
    refine zr_iast hG 30 dX2_add_21 rfl (by omega) (by omega)  ?_
    have hOw3 := zc_O.u hO0 30 (σ0.1 6 0).toInt.toNat (v := p1) (show 0 ≤ p1.toInt by omega) (show p1.toInt ≤ 3 by omega) (Or.inr (show 0 ≤ p1.toInt by omega))
    have hAw3 := zc_Ag.u hA0 30 (σ0.1 6 0).toInt.toNat p1 rfl
    refine zr_aload_n hB 0 dX2_add_22 rfl ?_
    refine zr_getr hG 6 2 dX2_add_23 rfl wf_X2_15 rfl ?_
    refine zr_aload_n hB 0 dX2_add_26 rfl ?_
    refine zr_geti' hG 6 0 (σ0.1 6 0) dX2_add_27 rfl wf_X2_34 rfl rfl ?_
    refine zr_iload_n hB 2 dX2_add_30 rfl ?_
    refine zr_iast hG 31 dX2_add_31 rfl (by omega) (by omega)  ?_
    have hOw4 := zc_O.u hOw3 31 (σ0.1 6 0).toInt.toNat (v := p2) (show 0 ≤ p2.toInt by omega) (show p2.toInt ≤ 5 by omega) (Or.inr (show 0 ≤ p2.toInt by omega))
    have hAw4 := zc_Ag.u hAw3 31 (σ0.1 6 0).toInt.toNat p2 rfl
    refine zr_aload_n hB 0 dX2_add_32 rfl ?_
    refine zr_getr hG 6 3 dX2_add_33 rfl wf_X2_18 rfl ?_
    refine zr_aload_n hB 0 dX2_add_36 rfl ?_
    refine zr_geti' hG 6 0 (σ0.1 6 0) dX2_add_37 rfl wf_X2_34 rfl rfl ?_
    refine zr_iload_n hB 3 dX2_add_40 rfl ?_
    refine zr_iast hG 32 dX2_add_41 rfl (by omega) (by omega)  ?_
    have hOw5 := zc_O.u hOw4 32 (σ0.1 6 0).toInt.toNat (v := p3) (show 0 ≤ p3.toInt by omega) (show p3.toInt ≤ 63 by omega) (Or.inr (show 0 ≤ p3.toInt by omega))
    have hAw5 := zc_Ag.u hAw4 32 (σ0.1 6 0).toInt.toNat p3 rfl
    refine zr_aload_n hB 0 dX2_add_42 rfl ?_
    refine zr_getr hG 6 4 dX2_add_43 rfl wf_X2_21 rfl ?_
    refine zr_aload_n hB 0 dX2_add_46 rfl ?_
    refine zr_geti' hG 6 0 (σ0.1 6 0) dX2_add_47 rfl wf_X2_34 rfl rfl ?_
    refine zr_iload hB 4 dX2_add_50 rfl ?_
    refine zr_iast hG 33 dX2_add_52 rfl (by omega) (by omega)  ?_
    have hOw6 := zc_O.u hOw5 33 (σ0.1 6 0).toInt.toNat (v := p4) (show 0 ≤ p4.toInt by omega) (show p4.toInt ≤ 77 by omega) (Or.inr (show 0 ≤ p4.toInt by omega))
    have hAw6 := zc_Ag.u hAw5 33 (σ0.1 6 0).toInt.toNat p4 rfl
    refine zr_aload_n hB 0 dX2_add_53 rfl ?_
    refine zr_getr hG 6 5 dX2_add_54 rfl wf_X2_24 rfl ?_
    refine zr_aload_n hB 0 dX2_add_57 rfl ?_
    refine zr_geti' hG 6 0 (σ0.1 6 0) dX2_add_58 rfl wf_X2_34 rfl rfl ?_
    refine zr_iload hB 5 dX2_add_61 rfl ?_
    refine zr_iast hG 34 dX2_add_63 rfl (by omega) (by omega)  ?_
    have hOw7 := zc_O.u hOw6 34 (σ0.1 6 0).toInt.toNat (v := p5) (show (-4) ≤ p5.toInt by omega) (show p5.toInt ≤ 999 by omega) (Or.inr (show (-4) ≤ p5.toInt by omega))
    have hAw7 := zc_Ag.u hAw6 34 (σ0.1 6 0).toInt.toNat p5 rfl
    refine zr_aload_n hB 0 dX2_add_64 rfl ?_
    refine zr_getr hG 6 6 dX2_add_65 rfl wf_X2_27 rfl ?_
    refine zr_aload_n hB 0 dX2_add_68 rfl ?_
    refine zr_geti' hG 6 0 (σ0.1 6 0) dX2_add_69 rfl wf_X2_34 rfl rfl ?_
    refine zr_iload hB 6 dX2_add_72 rfl ?_
    refine zr_iast hG 35 dX2_add_74 rfl (by omega) (by omega)  ?_
    have hOw8 := zc_O.u hOw7 35 (σ0.1 6 0).toInt.toNat (v := p6) (show 0 ≤ p6.toInt by omega) (show p6.toInt ≤ 999 by omega) (Or.inr (show 0 ≤ p6.toInt by omega))
    have hAw8 := zc_Ag.u hAw7 35 (σ0.1 6 0).toInt.toNat p6 rfl
    refine zr_aload_n hB 0 dX2_add_75 rfl ?_
    refine zr_dup hB dX2_add_76 rfl ?_
    refine zr_geti' hG 6 0 (σ0.1 6 0) dX2_add_77 rfl wf_X2_34 rfl rfl ?_
    refine zr_iconst hB dX2_add_80 rfl (fun c9 ec9 => ?_)
    refine zr_iadd hB dX2_add_81 (by omega) (by omega) (fun x10 ex10 => ?_)
    refine zr_puti hG 6 0 dX2_add_82 rfl wp_X2_34 rfl ?_
    have hOw11 := zc_O.u hOw8 6 0 (v := x10) (show 0 ≤ x10.toInt by omega) (show x10.toInt ≤ 24 by omega) (Or.inr (show 0 ≤ x10.toInt by omega))
    have hAw11 := zc_Ag.u hAw8 6 0 x10 rfl
    refine zr_aload_n hB 0 dX2_add_85 rfl ?_
    refine zr_geti' hG 6 0 x10 dX2_add_86 rfl wf_X2_34 rfl rfl ?_
    refine zr_iconst hB dX2_add_89 rfl (fun c12 ec12 => ?_)
    refine zr_isub hB dX2_add_90 (by omega) (by omega) (fun x13 ex13 => ?_)
    exact zr_iret hG dX2_add_91 ⟨hOw11, hAw11, by omega, by omega, (Or.inr ⟨by omega, by omega, zp_add (by omega) (by omega)⟩)⟩
  refine zr_bipush hB dX2_add_9 rfl (fun c14 ec14 => ?_)
  exact zr_iret hG dX2_add_11 ⟨hO0, hA0, by omega, by omega, (Or.inl ⟨by omega, by omega, rfl⟩)⟩

def m_X5_renew_7 : zc_ms := [(37, none), (38, none), (39, none)]
set_option maxHeartbeats 1000000 in
set_option maxRecDepth 100000 in
theorem c_X5_renew_7 (K : zc_K) (hi : zc_inj shX K.2.2.2.1) (σ0 : zc_S) (p1 : Int32) (p2 : Int32) (p3 : Int32) (hO0 : zc_O okX σ0) (h1a : 0 ≤ p1.toInt) (h1b : p1.toInt ≤ 3) (h2a : 0 ≤ p2.toInt) (h2b : p2.toInt ≤ 2) (h3a : 0 ≤ p3.toInt) (h3b : p3.toInt ≤ 64) : zc_M shX K yX5_renew cX5_renew 5 none (zrm 0 0) σ0 [.ref (zk K 7), .int p1, .int p2, .int p3] (zc_N (fun σ9 => zc_O okX σ9 ∧ zc_Ag m_X5_renew_7 σ0 σ9 ∧ σ9.1 37 = upd (σ0.1 37) p1.toInt.toNat p2 ∧ σ9.1 38 = upd (σ0.1 38) p1.toInt.toNat p3 ∧ zv_Z σ0 σ9 39 (64 * p1.toInt) p3.toInt)) := by
  refine zc_start RX5 hi pfX5_renew rfl (Nat.le_of_ble_eq_true rfl) ?_
  intro G hG
  have hB := hG.1
  have hA0 : zc_Ag m_X5_renew_7 σ0 σ0 := zc_Ag.rf
  show zc_V 5 K G (zc_D shX K G σ0) [(0, .ref (zk K 7)), (1, .int p1), (2, .int p2), (3, .int p3)] 0 []
  refine zr_aload_n hB 0 dX5_renew_0 rfl ?_
  refine zr_getr hG 7 0 dX5_renew_1 rfl wf_X5_9 rfl ?_
  refine zr_iload_n hB 1 dX5_renew_4 rfl ?_
  refine zr_iload_n hB 2 dX5_renew_5 rfl ?_
  refine zr_iast hG 37 dX5_renew_6 rfl (by omega) (by omega)  ?_
  have hOw1 := zc_O.u hO0 37 p1.toInt.toNat (v := p2) (show (-1) ≤ p2.toInt by omega) (show p2.toInt ≤ 2 by omega) (Or.inr (show (-1) ≤ p2.toInt by omega))
  have hAw1 := zc_Ag.u hA0 37 p1.toInt.toNat p2 rfl
  refine zr_aload_n hB 0 dX5_renew_7 rfl ?_
  refine zr_getr hG 7 1 dX5_renew_8 rfl wf_X5_15 rfl ?_
  refine zr_iload_n hB 1 dX5_renew_11 rfl ?_
  refine zr_iload_n hB 3 dX5_renew_12 rfl ?_
  refine zr_iast hG 38 dX5_renew_13 rfl (by omega) (by omega)  ?_
  have hOw2 := zc_O.u hOw1 38 p1.toInt.toNat (v := p3) (show 0 ≤ p3.toInt by omega) (show p3.toInt ≤ 64 by omega) (Or.inr (show 0 ≤ p3.toInt by omega))
  have hAw2 := zc_Ag.u hAw1 38 p1.toInt.toNat p3 rfl
  refine zr_iconst hB dX5_renew_14 rfl (fun c3 ec3 => ?_)
  refine zr_istore hB dX5_renew_15 (by decide) (lv' := [(4, .int c3), (0, .ref (zk K 7)), (1, .int p1), (2, .int p2), (3, .int p3)]) rfl ?_
  have L17_7 : ∀ (n17 : Nat) (σ5 : zc_S) (y4_4 : Int32), zc_O okX σ5 → zc_Ag m_X5_renew_7 σ0 σ5 → 0 ≤ y4_4.toInt → y4_4.toInt ≤ 64 → σ5.1 37 = upd (σ0.1 37) p1.toInt.toNat p2 → σ5.1 38 = upd (σ0.1 38) p1.toInt.toNat p3 → zv_Z σ0 σ5 39 (64 * p1.toInt) y4_4.toInt → y4_4.toInt ≤ p3.toInt → 64 - y4_4.toInt < (n17 : Int) → zc_V 5 K G (zc_D shX K G σ5) [(0, .ref (zk K 7)), (1, .int p1), (2, .int p2), (3, .int p3), (4, .int y4_4)] 17 [] := by
    intro n17
    induction n17 with
    | zero => intro σ5 y4_4 hO5 hA5 y4_4a y4_4b f1 f2 f3 e6 hn17; exfalso; omega
    | succ n17 ih17 =>
      intro σ5 y4_4 hO5 hA5 y4_4a y4_4b f1 f2 f3 e6 hn17
      refine zr_iload hB 4 dX5_renew_17 rfl ?_
      refine zr_iload_n hB 3 dX5_renew_19 rfl ?_
      refine zr_icmp_ge hB dX5_renew_20 (tgt := 42) rfl (fun c8 => ?_) (fun c8 => ?_)
      · exact zr_vret hG dX5_renew_42 ⟨hO5, hA5, f1, f2, (by rw [show p3.toInt = y4_4.toInt by omega]; exact f3)⟩
      refine zr_aload_n hB 0 dX5_renew_23 rfl ?_
      refine zr_getr hG 7 2 dX5_renew_24 rfl wf_X5_18 rfl ?_
      refine zr_iload_n hB 1 dX5_renew_27 rfl ?_
      refine zr_bipush hB dX5_renew_28 rfl (fun c9 ec9 => ?_)
      refine zr_imulc hB dX5_renew_30 ec9 (by omega) (by omega) (fun x10 ex10 => ?_)
      refine zr_iload hB 4 dX5_renew_31 rfl ?_
      refine zr_iadd hB dX5_renew_33 (by omega) (by omega) (fun x11 ex11 => ?_)
      refine zr_iconst hB dX5_renew_34 rfl (fun c12 ec12 => ?_)
      refine zr_iast hG 39 dX5_renew_35 rfl (by omega) (by omega)  ?_
      have hOw13 := zc_O.u hO5 39 x11.toInt.toNat (v := c12) (zn_lo _) (zn_hi _) (Or.inr (zn_lo _))
      have hAw13 := zc_Ag.u hA5 39 x11.toInt.toNat c12 rfl
      refine zr_iinc hB 4 dX5_renew_36 rfl (by decide) rfl (by omega) (by omega) (fun x14 ex14 lv' hlv => ?_)
      obtain rfl : [(4, .int x14), (0, .ref (zk K 7)), (1, .int p1), (2, .int p2), (3, .int p3)] = lv' := hlv
      refine zr_goto hB dX5_renew_39 (tgt := 17) rfl ?_
      exact zc_sub [1, 2, 3, 4, 0] rfl (ih17 (zc_u σ5 39 x11.toInt.toNat c12) x14 hOw13 hAw13 (by omega) (by omega) (show (zc_u σ5 39 x11.toInt.toNat c12).1 37 = upd (σ0.1 37) p1.toInt.toNat p2 by first | (simp only [zc_u_at, zc_u_ne, ne_eq, Nat.reduceEqDiff, not_false_eq_true]; done) | (simp only [zc_u_at, zc_u_ne, ne_eq, Nat.reduceEqDiff, not_false_eq_true]; assumption)) (show (zc_u σ5 39 x11.toInt.toNat c12).1 38 = upd (σ0.1 38) p1.toInt.toNat p3 by first | (simp only [zc_u_at, zc_u_ne, ne_eq, Nat.reduceEqDiff, not_false_eq_true]; done) | (simp only [zc_u_at, zc_u_ne, ne_eq, Nat.reduceEqDiff, not_false_eq_true]; assumption)) (show zv_Z σ0 (zc_u σ5 39 x11.toInt.toNat c12) 39 (64 * p1.toInt) x14.toInt by exact zv_Zu f3 (by omega) (by omega) (by omega) (by omega)) (show x14.toInt ≤ p3.toInt by omega) (by omega))
  exact zc_sub [1, 2, 3, 4, 0] rfl (L17_7 66 (zc_u (zc_u σ0 37 p1.toInt.toNat p2) 38 p1.toInt.toNat p3) c3 hOw2 hAw2 (by omega) (by omega) (show (zc_u (zc_u σ0 37 p1.toInt.toNat p2) 38 p1.toInt.toNat p3).1 37 = upd (σ0.1 37) p1.toInt.toNat p2 by first | (simp only [zc_u_at, zc_u_ne, ne_eq, Nat.reduceEqDiff, not_false_eq_true]; done) | (simp only [zc_u_at, zc_u_ne, ne_eq, Nat.reduceEqDiff, not_false_eq_true]; assumption)) (show (zc_u (zc_u σ0 37 p1.toInt.toNat p2) 38 p1.toInt.toNat p3).1 38 = upd (σ0.1 38) p1.toInt.toNat p3 by first | (simp only [zc_u_at, zc_u_ne, ne_eq, Nat.reduceEqDiff, not_false_eq_true]; done) | (simp only [zc_u_at, zc_u_ne, ne_eq, Nat.reduceEqDiff, not_false_eq_true]; assumption)) (show zv_Z σ0 (zc_u (zc_u σ0 37 p1.toInt.toNat p2) 38 p1.toInt.toNat p3) 39 (64 * p1.toInt) c3.toInt by exact zv_Z0 (by omega) (by simp only [zc_u_at, zc_u_ne, ne_eq, Nat.reduceEqDiff, not_false_eq_true])) (show c3.toInt ≤ p3.toInt by omega) (by omega))

set_option maxHeartbeats 1000000 in
set_option maxRecDepth 100000 in
theorem c_X5_faultAt_7 (K : zc_K) (hi : zc_inj shX K.2.2.2.1) (σ0 : zc_S) (p1 : Int32) (p2 : Int32) (p3 : Int32) (hO0 : zc_O okX σ0) (h1a : 0 ≤ p1.toInt) (h1b : p1.toInt ≤ 3) : zc_M shX K yX5_faultAt cX5_faultAt 4 (some .int) (zrm 0 0) σ0 [.ref (zk K 7), .int p1, .int p2, .int p3] (zc_I (fun r9 σ9 => σ0 = σ9 ∧ 0 ≤ r9.toInt ∧ r9.toInt ≤ 3 ∧ (¬ r9.toInt = 0 ∨ (0 ≤ p3.toInt ∧ p3.toInt ≤ 63)) ∧ ((r9.toInt = 1 ∧ (σ0.1 37 p1.toInt.toNat).toInt < 0) ∨ (r9.toInt = 3 ∧ 0 ≤ (σ0.1 37 p1.toInt.toNat).toInt ∧ ¬ (σ0.1 37 p1.toInt.toNat).toInt = p2.toInt) ∨ (r9.toInt = 2 ∧ 0 ≤ (σ0.1 37 p1.toInt.toNat).toInt ∧ (σ0.1 37 p1.toInt.toNat).toInt = p2.toInt ∧ (p3.toInt < 0 ∨ (σ0.1 38 p1.toInt.toNat).toInt ≤ p3.toInt)) ∨ (r9.toInt = 0 ∧ 0 ≤ (σ0.1 37 p1.toInt.toNat).toInt ∧ (σ0.1 37 p1.toInt.toNat).toInt = p2.toInt ∧ 0 ≤ p3.toInt ∧ p3.toInt < (σ0.1 38 p1.toInt.toNat).toInt)))) := by
  refine zc_start RX5 hi pfX5_faultAt rfl (Nat.le_of_ble_eq_true rfl) ?_
  intro G hG
  have hB := hG.1
  show zc_V 4 K G (zc_D shX K G σ0) [(0, .ref (zk K 7)), (1, .int p1), (2, .int p2), (3, .int p3)] 0 []
  refine zr_aload_n hB 0 dX5_faultAt_0 rfl ?_
  refine zr_getr hG 7 0 dX5_faultAt_1 rfl wf_X5_9 rfl ?_
  refine zr_iload_n hB 1 dX5_faultAt_4 rfl ?_
  refine zr_iald hG 37 dX5_faultAt_5 rfl (by omega) (by omega) (fun x1 ex1 => ?_)
  have bx1 : (-1) ≤ x1.toInt ∧ x1.toInt ≤ 2 := by rw [ex1]; exact ⟨(hO0 37 _).1, (hO0 37 _).2.1⟩
  refine zr_if_ge hB dX5_faultAt_6 (tgt := 11) rfl (fun c2 => ?_) (fun c2 => ?_)
  · refine zr_aload_n hB 0 dX5_faultAt_11 rfl ?_
    refine zr_getr hG 7 0 dX5_faultAt_12 rfl wf_X5_9 rfl ?_
    refine zr_iload_n hB 1 dX5_faultAt_15 rfl ?_
    refine zr_iald hG 37 dX5_faultAt_16 rfl (by omega) (by omega) (fun x3 ex3 => ?_)
    obtain rfl : x1 = x3 := ex1.trans ex3.symm
    refine zr_iload_n hB 2 dX5_faultAt_17 rfl ?_
    refine zr_icmp_eq hB dX5_faultAt_18 (tgt := 23) rfl (fun c4 => ?_) (fun c4 => ?_)
    · refine zr_iload_n hB 3 dX5_faultAt_23 rfl ?_
      refine zr_if_lt hB dX5_faultAt_24 (tgt := 37) rfl (fun c5 => ?_) (fun c5 => ?_)
      · refine zr_iconst hB dX5_faultAt_37 rfl (fun c6 ec6 => ?_)
        refine zr_goto hB dX5_faultAt_38 (tgt := 42) rfl ?_
        exact zr_iret hG dX5_faultAt_42 ⟨rfl, by omega, by omega, by omega, (by have hqx1 := congrArg Int32.toInt ex1; omega)⟩
      refine zr_iload_n hB 3 dX5_faultAt_27 rfl ?_
      refine zr_aload_n hB 0 dX5_faultAt_28 rfl ?_
      refine zr_getr hG 7 1 dX5_faultAt_29 rfl wf_X5_15 rfl ?_
      refine zr_iload_n hB 1 dX5_faultAt_32 rfl ?_
      refine zr_iald hG 38 dX5_faultAt_33 rfl (by omega) (by omega) (fun x7 ex7 => ?_)
      have bx7 : 0 ≤ x7.toInt ∧ x7.toInt ≤ 64 := by rw [ex7]; exact ⟨(hO0 38 _).1, (hO0 38 _).2.1⟩
      refine zr_icmp_lt hB dX5_faultAt_34 (tgt := 41) rfl (fun c8 => ?_) (fun c8 => ?_)
      · refine zr_iconst hB dX5_faultAt_41 rfl (fun c9 ec9 => ?_)
        exact zr_iret hG dX5_faultAt_42 ⟨rfl, by omega, by omega, by omega, (by have hqx1 := congrArg Int32.toInt ex1; have hqx7 := congrArg Int32.toInt ex7; omega)⟩
      refine zr_iconst hB dX5_faultAt_37 rfl (fun c10 ec10 => ?_)
      refine zr_goto hB dX5_faultAt_38 (tgt := 42) rfl ?_
      exact zr_iret hG dX5_faultAt_42 ⟨rfl, by omega, by omega, by omega, (by have hqx1 := congrArg Int32.toInt ex1; have hqx7 := congrArg Int32.toInt ex7; omega)⟩
    refine zr_iconst hB dX5_faultAt_21 rfl (fun c11 ec11 => ?_)
    exact zr_iret hG dX5_faultAt_22 ⟨rfl, by omega, by omega, by omega, (by have hqx1 := congrArg Int32.toInt ex1; omega)⟩
  refine zr_iconst hB dX5_faultAt_9 rfl (fun c12 ec12 => ?_)
  exact zr_iret hG dX5_faultAt_10 ⟨rfl, by omega, by omega, by omega, (by have hqx1 := congrArg Int32.toInt ex1; omega)⟩

def m_X5_put_7 : zc_ms := [(39, none)]
set_option maxHeartbeats 1000000 in
set_option maxRecDepth 100000 in
theorem c_X5_put_7 (K : zc_K) (hi : zc_inj shX K.2.2.2.1) (σ0 : zc_S) (p1 : Int32) (p2 : Int32) (p3 : Int32) (hO0 : zc_O okX σ0) (h1a : 0 ≤ p1.toInt) (h1b : p1.toInt ≤ 3) (h2a : 0 ≤ p2.toInt) (h2b : p2.toInt ≤ 63) : zc_M shX K yX5_put cX5_put 4 none (zrm 0 0) σ0 [.ref (zk K 7), .int p1, .int p2, .int p3] (zc_N (fun σ9 => zc_O okX σ9 ∧ zc_Ag m_X5_put_7 σ0 σ9 ∧ (∃ x9 : Int32, x9.toInt = zv_nr (σ0.1 37 p1.toInt.toNat).toInt p3.toInt ∧ σ9 = zc_u σ0 39 (p1.toInt * 64 + p2.toInt).toNat x9))) := by
  refine zc_start RX5 hi pfX5_put rfl (Nat.le_of_ble_eq_true rfl) ?_
  intro G hG
  have hB := hG.1
  have hA0 : zc_Ag m_X5_put_7 σ0 σ0 := zc_Ag.rf
  show zc_V 4 K G (zc_D shX K G σ0) [(0, .ref (zk K 7)), (1, .int p1), (2, .int p2), (3, .int p3)] 0 []
  refine zr_aload_n hB 0 dX5_put_0 rfl ?_
  refine zr_getr hG 7 2 dX5_put_1 rfl wf_X5_18 rfl ?_
  refine zr_iload_n hB 1 dX5_put_4 rfl ?_
  refine zr_bipush hB dX5_put_5 rfl (fun c1 ec1 => ?_)
  refine zr_imulc hB dX5_put_7 ec1 (by omega) (by omega) (fun x2 ex2 => ?_)
  refine zr_iload_n hB 2 dX5_put_8 rfl ?_
  refine zr_iadd hB dX5_put_9 (by omega) (by omega) (fun x3 ex3 => ?_)
  refine zr_aload_n hB 0 dX5_put_10 rfl ?_
  refine zr_getr hG 7 0 dX5_put_11 rfl wf_X5_9 rfl ?_
  refine zr_iload_n hB 1 dX5_put_14 rfl ?_
  refine zr_iald hG 37 dX5_put_15 rfl (by omega) (by omega) (fun x4 ex4 => ?_)
  have bx4 : (-1) ≤ x4.toInt ∧ x4.toInt ≤ 2 := by rw [ex4]; exact ⟨(hO0 37 _).1, (hO0 37 _).2.1⟩
  refine zr_if_ne hB dX5_put_16 (tgt := 24) rfl (fun c5 => ?_) (fun c5 => ?_)
  · refine zr_aload_n hB 0 dX5_put_24 rfl ?_
    refine zr_getr hG 7 0 dX5_put_25 rfl wf_X5_9 rfl ?_
    refine zr_iload_n hB 1 dX5_put_28 rfl ?_
    refine zr_iald hG 37 dX5_put_29 rfl (by omega) (by omega) (fun x6 ex6 => ?_)
    obtain rfl : x4 = x6 := ex4.trans ex6.symm
    refine zr_iconst hB dX5_put_30 rfl (fun c7 ec7 => ?_)
    refine zr_icmp_ne hB dX5_put_31 (tgt := 39) rfl (fun c8 => ?_) (fun c8 => ?_)
    · refine zr_iload_n hB 3 dX5_put_39 rfl ?_
      refine zr_iast hG 39 dX5_put_40 rfl (by omega) (by omega)  ?_
      have hOw9 := zc_O.u hO0 39 x3.toInt.toNat (v := p3) (zn_lo _) (zn_hi _) (Or.inr (zn_lo _))
      have hAw9 := zc_Ag.u hA0 39 x3.toInt.toNat p3 rfl
      exact zr_vret hG dX5_put_41 ⟨hOw9, hAw9, ⟨p3, by have hqx4 := congrArg Int32.toInt ex4; unfold zv_nr; rw [if_neg (by omega), if_neg (by omega)], by rw [show (p1.toInt * 64 + p2.toInt).toNat = x3.toInt.toNat by omega]⟩⟩
    refine zr_iload_n hB 3 dX5_put_34 rfl ?_
    refine zr_i2s hB dX5_put_35 (fun x10 ex10 => ?_)
    refine zr_goto hB dX5_put_36 (tgt := 40) rfl ?_
    refine zr_iast hG 39 dX5_put_40 rfl (by omega) (by omega)  ?_
    have hOw11 := zc_O.u hO0 39 x3.toInt.toNat (v := x10) (zn_lo _) (zn_hi _) (Or.inr (zn_lo _))
    have hAw11 := zc_Ag.u hA0 39 x3.toInt.toNat x10 rfl
    exact zr_vret hG dX5_put_41 ⟨hOw11, hAw11, ⟨x10, by have hqx4 := congrArg Int32.toInt ex4; unfold zv_nr; rw [if_neg (by omega), if_pos (by omega)]; exact zv_s ex10, by rw [show (p1.toInt * 64 + p2.toInt).toNat = x3.toInt.toNat by omega]⟩⟩
  refine zr_iload_n hB 3 dX5_put_19 rfl ?_
  refine zr_i2b hB dX5_put_20 (fun x12 ex12 => ?_)
  refine zr_goto hB dX5_put_21 (tgt := 40) rfl ?_
  refine zr_iast hG 39 dX5_put_40 rfl (by omega) (by omega)  ?_
  have hOw13 := zc_O.u hO0 39 x3.toInt.toNat (v := x12) (zn_lo _) (zn_hi _) (Or.inr (zn_lo _))
  have hAw13 := zc_Ag.u hA0 39 x3.toInt.toNat x12 rfl
  exact zr_vret hG dX5_put_41 ⟨hOw13, hAw13, ⟨x12, by have hqx4 := congrArg Int32.toInt ex4; unfold zv_nr; rw [if_pos (by omega)]; exact zv_b ex12, by rw [show (p1.toInt * 64 + p2.toInt).toNat = x3.toInt.toNat by omega]⟩⟩

set_option maxHeartbeats 1000000 in
set_option maxRecDepth 100000 in
theorem c_X5_cell_7 (K : zc_K) (hi : zc_inj shX K.2.2.2.1) (σ0 : zc_S) (p1 : Int32) (p2 : Int32) (hO0 : zc_O okX σ0) (h1a : 0 ≤ p1.toInt) (h1b : p1.toInt ≤ 3) (h2a : 0 ≤ p2.toInt) (h2b : p2.toInt ≤ 63) : zc_M shX K yX5_cell cX5_cell 3 (some .int) (zrm 0 0) σ0 [.ref (zk K 7), .int p1, .int p2] (zc_I (fun r9 σ9 => σ0 = σ9 ∧ r9 = σ0.1 39 (p1.toInt * 64 + p2.toInt).toNat)) := by
  refine zc_start RX5 hi pfX5_cell rfl (Nat.le_of_ble_eq_true rfl) ?_
  intro G hG
  have hB := hG.1
  show zc_V 3 K G (zc_D shX K G σ0) [(0, .ref (zk K 7)), (1, .int p1), (2, .int p2)] 0 []
  refine zr_aload_n hB 0 dX5_cell_0 rfl ?_
  refine zr_getr hG 7 2 dX5_cell_1 rfl wf_X5_18 rfl ?_
  refine zr_iload_n hB 1 dX5_cell_4 rfl ?_
  refine zr_bipush hB dX5_cell_5 rfl (fun c1 ec1 => ?_)
  refine zr_imulc hB dX5_cell_7 ec1 (by omega) (by omega) (fun x2 ex2 => ?_)
  refine zr_iload_n hB 2 dX5_cell_8 rfl ?_
  refine zr_iadd hB dX5_cell_9 (by omega) (by omega) (fun x3 ex3 => ?_)
  refine zr_iald hG 39 dX5_cell_10 rfl (by omega) (by omega) (fun x4 ex4 => ?_)
  exact zr_iret hG dX5_cell_11 ⟨rfl, ex4.trans (congrArg (σ0.1 39) (by omega))⟩

set_option maxHeartbeats 1000000 in
set_option maxRecDepth 100000 in
theorem c_X6_isLetter (K : zc_K) (hi : zc_inj shX K.2.2.2.1) (σ0 : zc_S) (p0 : Int32) (hO0 : zc_O okX σ0)  : zc_M shX K yX6_isLetter cX6_isLetter 1 (some .boolean) (zrm 0 0) σ0 [.int p0] (zc_I (fun r9 σ9 => σ0 = σ9 ∧ zc_if r9 (97 ≤ p0.toInt ∧ p0.toInt ≤ 122))) := by
  refine zc_start RX6 hi pfX6_isLetter rfl (Nat.le_of_ble_eq_true rfl) ?_
  intro G hG
  have hB := hG.1
  show zc_V 1 K G (zc_D shX K G σ0) [(0, .int p0)] 0 []
  refine zr_iload_n hB 0 dX6_isLetter_0 rfl ?_
  refine zr_bipush hB dX6_isLetter_1 rfl (fun c1 ec1 => ?_)
  refine zr_icmp_lt hB dX6_isLetter_3 (tgt := 16) rfl (fun c2 => ?_) (fun c2 => ?_)
  · refine zr_iconst hB dX6_isLetter_16 rfl (fun c3 ec3 => ?_)
    exact zr_zret hG dX6_isLetter_17 (by omega) (by omega) ⟨rfl, zc_if.mf (by omega) (by omega)⟩
  refine zr_iload_n hB 0 dX6_isLetter_6 rfl ?_
  refine zr_bipush hB dX6_isLetter_7 rfl (fun c4 ec4 => ?_)
  refine zr_icmp_gt hB dX6_isLetter_9 (tgt := 16) rfl (fun c5 => ?_) (fun c5 => ?_)
  · refine zr_iconst hB dX6_isLetter_16 rfl (fun c6 ec6 => ?_)
    exact zr_zret hG dX6_isLetter_17 (by omega) (by omega) ⟨rfl, zc_if.mf (by omega) (by omega)⟩
  refine zr_iconst hB dX6_isLetter_12 rfl (fun c7 ec7 => ?_)
  refine zr_goto hB dX6_isLetter_13 (tgt := 17) rfl ?_
  exact zr_zret hG dX6_isLetter_17 (by omega) (by omega) ⟨rfl, zc_if.mt (by omega) (by omega)⟩

set_option maxHeartbeats 1000000 in
set_option maxRecDepth 100000 in
theorem c_X6_isDigit (K : zc_K) (hi : zc_inj shX K.2.2.2.1) (σ0 : zc_S) (p0 : Int32) (hO0 : zc_O okX σ0)  : zc_M shX K yX6_isDigit cX6_isDigit 1 (some .boolean) (zrm 0 0) σ0 [.int p0] (zc_I (fun r9 σ9 => σ0 = σ9 ∧ zc_if r9 (48 ≤ p0.toInt ∧ p0.toInt ≤ 57))) := by
  refine zc_start RX6 hi pfX6_isDigit rfl (Nat.le_of_ble_eq_true rfl) ?_
  intro G hG
  have hB := hG.1
  show zc_V 1 K G (zc_D shX K G σ0) [(0, .int p0)] 0 []
  refine zr_iload_n hB 0 dX6_isDigit_0 rfl ?_
  refine zr_bipush hB dX6_isDigit_1 rfl (fun c1 ec1 => ?_)
  refine zr_icmp_lt hB dX6_isDigit_3 (tgt := 16) rfl (fun c2 => ?_) (fun c2 => ?_)
  · refine zr_iconst hB dX6_isDigit_16 rfl (fun c3 ec3 => ?_)
    exact zr_zret hG dX6_isDigit_17 (by omega) (by omega) ⟨rfl, zc_if.mf (by omega) (by omega)⟩
  refine zr_iload_n hB 0 dX6_isDigit_6 rfl ?_
  refine zr_bipush hB dX6_isDigit_7 rfl (fun c4 ec4 => ?_)
  refine zr_icmp_gt hB dX6_isDigit_9 (tgt := 16) rfl (fun c5 => ?_) (fun c5 => ?_)
  · refine zr_iconst hB dX6_isDigit_16 rfl (fun c6 ec6 => ?_)
    exact zr_zret hG dX6_isDigit_17 (by omega) (by omega) ⟨rfl, zc_if.mf (by omega) (by omega)⟩
  refine zr_iconst hB dX6_isDigit_12 rfl (fun c7 ec7 => ?_)
  refine zr_goto hB dX6_isDigit_13 (tgt := 17) rfl ?_
  exact zr_zret hG dX6_isDigit_17 (by omega) (by omega) ⟨rfl, zc_if.mt (by omega) (by omega)⟩

def m_X6_push_2 : zc_ms := [(2, some 1), (17, none)]
set_option maxHeartbeats 1000000 in
set_option maxRecDepth 100000 in
theorem c_X6_push_2 (K : zc_K) (hi : zc_inj shX K.2.2.2.1) (σ0 : zc_S) (p1 : Int64) (hO0 : zc_O okX σ0)  : zc_M shX K yX6_push cX6_push 4 (some .int) (zrm 0 0) σ0 [.ref (zk K 2), .long p1] (zc_I (fun r9 σ9 => zc_O okX σ9 ∧ zc_Ag m_X6_push_2 σ0 σ9 ∧ (-3) ≤ r9.toInt ∧ r9.toInt ≤ 120 ∧ ((112 < (σ0.1 2 1).toInt ∧ r9.toInt = -3 ∧ (σ9.1 2 1).toInt = (σ0.1 2 1).toInt) ∨ ((σ0.1 2 1).toInt ≤ 112 ∧ r9.toInt = (σ0.1 2 1).toInt + 8 ∧ (σ9.1 2 1).toInt = (σ0.1 2 1).toInt + 8)) ∧ ((112 < (σ0.1 2 1).toInt ∧ σ9 = σ0) ∨ ((σ0.1 2 1).toInt ≤ 112 ∧ zw_I 17 σ0 σ9 (σ0.1 2 1).toInt ((σ0.1 2 1).toInt + 8) p1)))) := by
  refine zc_start RX6 hi pfX6_push rfl (Nat.le_of_ble_eq_true rfl) ?_
  intro G hG
  have hB := hG.1
  have hA0 : zc_Ag m_X6_push_2 σ0 σ0 := zc_Ag.rf
  show zc_V 4 K G (zc_D shX K G σ0) [(0, .ref (zk K 2)), (1, .long p1)] 0 []
  refine zr_aload_n hB 0 dX6_push_0 rfl ?_
  refine zr_geti' hG 2 1 (σ0.1 2 1) dX6_push_1 rfl wf_X6_22 rfl rfl ?_
  have b1 : 0 ≤ (σ0.1 2 1).toInt ∧ (σ0.1 2 1).toInt ≤ 120 := ⟨(hO0 2 1).1, (hO0 2 1).2.1⟩
  refine zr_bipush hB dX6_push_4 rfl (fun c2 ec2 => ?_)
  refine zr_iadd hB dX6_push_6 (by omega) (by omega) (fun x3 ex3 => ?_)
  refine zr_bipush hB dX6_push_7 rfl (fun c4 ec4 => ?_)
  refine zr_icmp_le hB dX6_push_9 (tgt := 15) rfl (fun c5 => ?_) (fun c5 => ?_)
  · refine zr_bipush hB dX6_push_15 rfl (fun c6 ec6 => ?_)
    refine zr_istore_n hB dX6_push_17 rfl (by decide) (lv' := [(3, .int c6), (0, .ref (zk K 2)), (1, .long p1)]) rfl ?_
    have L18_13 : ∀ (n18 : Nat) (σ8 : zc_S) (y3_7 : Int32), zc_O okX σ8 → zc_Ag m_X6_push_2 σ0 σ8 → (-1000000) ≤ y3_7.toInt → y3_7.toInt ≤ 56 → (σ8.1 2 1).toInt * 8 + y3_7.toInt ≤ 952 → 0 ≤ (σ8.1 2 1).toInt → (σ8.1 2 1).toInt * 8 + y3_7.toInt = (σ0.1 2 1).toInt * 8 + 56 → -8 ≤ y3_7.toInt → zw_I 17 σ0 σ8 (σ0.1 2 1).toInt (σ8.1 2 1).toInt p1 → y3_7.toInt - (-1000000) < (n18 : Int) → zc_V 4 K G (zc_D shX K G σ8) [(0, .ref (zk K 2)), (1, .long p1), (3, .int y3_7)] 18 [] := by
      intro n18
      induction n18 with
      | zero => intro σ8 y3_7 hO8 hA8 y3_7a y3_7b e9 e10 e11 e12 hI hn18; exfalso; omega
      | succ n18 ih18 =>
        intro σ8 y3_7 hO8 hA8 y3_7a y3_7b e9 e10 e11 e12 hI hn18
        refine zr_iload_n hB 2 dX6_push_18 rfl ?_
        refine zr_if_lt hB dX6_push_19 (tgt := 55) rfl (fun c14 => ?_) (fun c14 => ?_)
        · refine zr_aload_n hB 0 dX6_push_55 rfl ?_
          refine zr_geti' hG 2 1 (σ8.1 2 1) dX6_push_56 rfl wf_X6_22 rfl rfl ?_
          have b15 : 0 ≤ (σ8.1 2 1).toInt ∧ (σ8.1 2 1).toInt ≤ 120 := ⟨(hO8 2 1).1, (hO8 2 1).2.1⟩
          exact zr_iret hG dX6_push_59 ⟨hO8, hA8, by omega, by omega, (show ((112 < (σ0.1 2 1).toInt ∧ (σ8.1 2 1).toInt = -3 ∧ (σ8.1 2 1).toInt = (σ0.1 2 1).toInt) ∨ ((σ0.1 2 1).toInt ≤ 112 ∧ (σ8.1 2 1).toInt = (σ0.1 2 1).toInt + 8 ∧ (σ8.1 2 1).toInt = (σ0.1 2 1).toInt + 8)) by omega), (Or.inr ⟨by omega, by rw [show (σ0.1 2 1).toInt + 8 = (σ8.1 2 1).toInt by omega]; exact hI⟩)⟩
        refine zr_aload_n hB 0 dX6_push_22 rfl ?_
        refine zr_getr hG 2 0 dX6_push_23 rfl wf_X6_9 rfl ?_
        refine zr_aload_n hB 0 dX6_push_26 rfl ?_
        refine zr_geti' hG 2 1 (σ8.1 2 1) dX6_push_27 rfl wf_X6_22 rfl rfl ?_
        have b16 : 0 ≤ (σ8.1 2 1).toInt ∧ (σ8.1 2 1).toInt ≤ 120 := ⟨(hO8 2 1).1, (hO8 2 1).2.1⟩
        refine zr_lload_n hB 1 dX6_push_30 rfl ?_
        refine zr_iload_n hB 2 dX6_push_31 rfl ?_
        refine zr_lushr hB dX6_push_32 (fun l17 el17 => ?_)
        refine zr_l2iw hB dX6_push_33 (fun x18 ex18 => ?_)
        refine zr_sipush hB dX6_push_34 rfl (fun c19 ec19 => ?_)
        refine zr_iand hB dX6_push_37 (fun x20 ex20 => ?_)
        have bx20 := zn_and ex20 ec19 (k := 8) rfl (by decide)
        have hby : x20.toInt = zw_by p1 y3_7.toInt := zw_ush (y := y3_7) el17 ex18 ex20 (show c19.toInt = 255 by omega) (by omega)
        refine zr_iast hG 17 dX6_push_38 rfl (by omega) (by omega)  ?_
        have hOw21 := zc_O.u hO8 17 (σ8.1 2 1).toInt.toNat (v := x20) (show 0 ≤ x20.toInt by omega) (show x20.toInt ≤ 255 by omega) (Or.inr (show 0 ≤ x20.toInt by omega))
        have hAw21 := zc_Ag.u hA8 17 (σ8.1 2 1).toInt.toNat x20 rfl
        refine zr_aload_n hB 0 dX6_push_39 rfl ?_
        refine zr_dup hB dX6_push_40 rfl ?_
        refine zr_geti' hG 2 1 (σ8.1 2 1) dX6_push_41 rfl wf_X6_22 rfl rfl ?_
        refine zr_iconst hB dX6_push_44 rfl (fun c22 ec22 => ?_)
        refine zr_iadd hB dX6_push_45 (by omega) (by omega) (fun x23 ex23 => ?_)
        refine zr_puti hG 2 1 dX6_push_46 rfl wp_X6_22 rfl ?_
        have hOw24 := zc_O.u hOw21 2 1 (v := x23) (show 0 ≤ x23.toInt by omega) (show x23.toInt ≤ 120 by omega) (Or.inr (show 0 ≤ x23.toInt by omega))
        have hAw24 := zc_Ag.u hAw21 2 1 x23 rfl
        refine zr_iinc hB 2 dX6_push_49 rfl (by decide) rfl (by omega) (by omega) (fun x25 ex25 lv' hlv => ?_)
        obtain rfl : [(3, .int x25), (0, .ref (zk K 2)), (1, .long p1)] = lv' := hlv
        refine zr_goto hB dX6_push_52 (tgt := 18) rfl ?_
        exact zc_sub [1, 2, 0] rfl (ih18 (zc_u (zc_u σ8 17 (σ8.1 2 1).toInt.toNat x20) 2 1 x23) x25 hOw24 hAw24 (by omega) (by omega) (show x23.toInt * 8 + x25.toInt ≤ 952 by omega) (show 0 ≤ x23.toInt by omega) (show x23.toInt * 8 + x25.toInt = (σ0.1 2 1).toInt * 8 + 56 by omega) (show -8 ≤ x25.toInt by omega) (show zw_I 17 σ0 (zc_u (zc_u σ8 17 (σ8.1 2 1).toInt.toNat x20) 2 1 x23) (σ0.1 2 1).toInt x23.toInt p1 by exact zw_In (zw_Iu hI (by omega) (by omega) hby (by omega) (by omega)) (by decide)) (by omega))
    exact zc_sub [1, 2, 0] rfl (L18_13 1000058 σ0 c6 hO0 hA0 (by omega) (by omega) (show (σ0.1 2 1).toInt * 8 + c6.toInt ≤ 952 by omega) (show 0 ≤ (σ0.1 2 1).toInt by omega) (show (σ0.1 2 1).toInt * 8 + c6.toInt = (σ0.1 2 1).toInt * 8 + 56 by omega) (show -8 ≤ c6.toInt by omega) (show zw_I 17 σ0 σ0 (σ0.1 2 1).toInt (σ0.1 2 1).toInt p1 by exact zw_I0 (by omega)) (by omega))
  refine zr_bipush hB dX6_push_12 rfl (fun c26 ec26 => ?_)
  exact zr_iret hG dX6_push_14 ⟨hO0, hA0, by omega, by omega, (show ((112 < (σ0.1 2 1).toInt ∧ c26.toInt = -3 ∧ (σ0.1 2 1).toInt = (σ0.1 2 1).toInt) ∨ ((σ0.1 2 1).toInt ≤ 112 ∧ c26.toInt = (σ0.1 2 1).toInt + 8 ∧ (σ0.1 2 1).toInt = (σ0.1 2 1).toInt + 8)) by omega), (Or.inl ⟨by omega, rfl⟩)⟩

def m_X6_advance_2 : zc_ms := [(2, some 3), (2, some 4), (2, some 5), (2, some 6)]
set_option maxHeartbeats 1000000 in
set_option maxRecDepth 100000 in
theorem c_X6_advance_2 (K : zc_K) (hi : zc_inj shX K.2.2.2.1) (σ0 : zc_S)  (hO0 : zc_O okX σ0) (hx0 : (σ0.1 2 3).toInt = 0) : zc_M shX K yX6_advance cX6_advance 1 none (zrm 1 20) σ0 [.ref (zk K 2)] (zc_N (fun σ9 => zc_O okX σ9 ∧ zc_Ag m_X6_advance_2 σ0 σ9 ∧ zw_X σ9 = zw_tk (zw_bX σ0) (σ0.1 2 6).toInt.toNat)) := by
  refine zc_start RX6 hi pfX6_advance rfl (Nat.le_of_ble_eq_true rfl) ?_
  intro G hG
  have hB := hG.1
  have hA0 : zc_Ag m_X6_advance_2 σ0 σ0 := zc_Ag.rf
  show zc_V 1 K G (zc_D shX K G σ0) [(0, .ref (zk K 2))] 0 []
  have bw2_1 : 0 ≤ (σ0.1 2 1).toInt ∧ (σ0.1 2 1).toInt ≤ 120 := ⟨(hO0 2 1).1, (hO0 2 1).2.1⟩
  refine zr_aload_n hB 0 dX6_advance_0 rfl ?_
  refine zr_aload_n hB 0 dX6_advance_1 rfl ?_
  refine zr_geti' hG 2 6 (σ0.1 2 6) dX6_advance_2 rfl wf_X6_32 rfl rfl ?_
  have b1 : 0 ≤ (σ0.1 2 6).toInt ∧ (σ0.1 2 6).toInt ≤ 120 := ⟨(hO0 2 6).1, (hO0 2 6).2.1⟩
  refine zr_puti hG 2 5 dX6_advance_5 rfl wp_X6_60 rfl ?_
  have hOw2 := zc_O.u hO0 2 5 (v := (σ0.1 2 6)) (show 0 ≤ (σ0.1 2 6).toInt by omega) (show (σ0.1 2 6).toInt ≤ 120 by omega) (Or.inr (show 0 ≤ (σ0.1 2 6).toInt by omega))
  have hAw2 := zc_Ag.u hA0 2 5 (σ0.1 2 6) rfl
  have L8_8 : ∀ (n8 : Nat) (σ3 : zc_S) , zc_O okX σ3 → zc_Ag m_X6_advance_2 σ0 σ3 → 0 ≤ (σ3.1 2 5).toInt → (σ3.1 2 5).toInt ≤ 120 → zw_to zw_sp (zw_bX σ0) (σ3.1 2 5).toInt.toNat = (zw_s (zw_bX σ0) (σ0.1 2 6).toInt.toNat) → (σ3.1 2 3).toInt = 0 → (σ3.1 2 1).toInt = (σ0.1 2 1).toInt → 120 - (σ3.1 2 5).toInt < (n8 : Int) → zc_V 1 K G (zc_D shX K G σ3) [(0, .ref (zk K 2))] 8 [] := by
    intro n8
    induction n8 with
    | zero => intro σ3 hO3 hA3 e4 e5 h_sp e6 e7 hn8; exfalso; omega
    | succ n8 ih8 =>
      intro σ3 hO3 hA3 e4 e5 h_sp e6 e7 hn8
      refine zr_aload_n hB 0 dX6_advance_8 rfl ?_
      refine zr_geti' hG 2 5 (σ3.1 2 5) dX6_advance_9 rfl wf_X6_60 rfl rfl ?_
      have b9 : 0 ≤ (σ3.1 2 5).toInt ∧ (σ3.1 2 5).toInt ≤ 120 := ⟨(hO3 2 5).1, (hO3 2 5).2.1⟩
      refine zr_aload_n hB 0 dX6_advance_12 rfl ?_
      refine zr_geti' hG 2 1 (σ3.1 2 1) dX6_advance_13 rfl wf_X6_22 rfl rfl ?_
      have b10 : 0 ≤ (σ3.1 2 1).toInt ∧ (σ3.1 2 1).toInt ≤ 120 := ⟨(hO3 2 1).1, (hO3 2 1).2.1⟩
      have L46_13 : (σ3.1 2 5).toInt = (((zw_s (zw_bX σ0) (σ0.1 2 6).toInt.toNat) : Nat) : Int) → (σ3.1 2 3).toInt = 0 → (σ3.1 2 1).toInt = (σ0.1 2 1).toInt → zc_V 1 K G (zc_D shX K G σ3) [(0, .ref (zk K 2))] 46 [] := by
        intro h46 e11 e12
        have hsn : (zw_s (zw_bX σ0) (σ0.1 2 6).toInt.toNat) = (σ3.1 2 5).toInt.toNat := by omega
        refine zr_aload_n hB 0 dX6_advance_46 rfl ?_
        refine zr_aload_n hB 0 dX6_advance_47 rfl ?_
        refine zr_geti' hG 2 5 (σ3.1 2 5) dX6_advance_48 rfl wf_X6_60 rfl rfl ?_
        refine zr_puti hG 2 6 dX6_advance_51 rfl wp_X6_32 rfl ?_
        have hOw14 := zc_O.u hO3 2 6 (v := (σ3.1 2 5)) (show 0 ≤ (σ3.1 2 5).toInt by omega) (show (σ3.1 2 5).toInt ≤ 120 by omega) (Or.inr (show 0 ≤ (σ3.1 2 5).toInt by omega))
        have hAw14 := zc_Ag.u hA3 2 6 (σ3.1 2 5) rfl
        refine zr_aload_n hB 0 dX6_advance_54 rfl ?_
        refine zr_geti' hG 2 5 (σ3.1 2 5) dX6_advance_55 rfl wf_X6_60 rfl rfl ?_
        refine zr_aload_n hB 0 dX6_advance_58 rfl ?_
        refine zr_geti' hG 2 1 (σ3.1 2 1) dX6_advance_59 rfl wf_X6_22 rfl rfl ?_
        refine zr_icmp_lt hB dX6_advance_62 (tgt := 73) rfl (fun c15 => ?_) (fun c15 => ?_)
        · refine zr_aload_n hB 0 dX6_advance_73 rfl ?_
          refine zr_getr hG 2 0 dX6_advance_74 rfl wf_X6_9 rfl ?_
          refine zr_aload_n hB 0 dX6_advance_77 rfl ?_
          refine zr_geti' hG 2 5 (σ3.1 2 5) dX6_advance_78 rfl wf_X6_60 rfl rfl ?_
          refine zr_iald hG 17 dX6_advance_81 rfl (by omega) (by omega) (fun x16 ex16 => ?_)
          have bx16 : 0 ≤ x16.toInt ∧ x16.toInt ≤ 255 := by rw [ex16]; exact ⟨(hOw14 17 _).1, (hOw14 17 _).2.1⟩
          have hb17 : (zw_bX σ0) (σ3.1 2 5).toInt.toNat = x16.toInt := by rw [zw_bX_in (by omega), ex16, (hAw14 17 _ rfl).1]
          refine zr_callsi hG (rest := []) dX6_advance_82 wm_X6_69 (c_X6_isLetter K hG.2.2.2.2.2.1 (zc_u σ3 2 6 (σ3.1 2 5)) x16 hOw14 ) rfl rfl (Nat.le_of_ble_eq_true rfl) ⟨Nat.le_of_ble_eq_true rfl, Nat.le_of_ble_eq_true rfl, rfl, rfl⟩ (fun r18 σ19 h20 => ?_)
          obtain ⟨rfl, r18q⟩ := h20
          have r18z := r18q.b
          refine zr_if_eq hB dX6_advance_85 (tgt := 132) rfl (fun c21 => ?_) (fun c21 => ?_)
          · have q22 := r18q.f c21
            refine zr_aload_n hB 0 dX6_advance_132 rfl ?_
            refine zr_getr hG 2 0 dX6_advance_133 rfl wf_X6_9 rfl ?_
            refine zr_aload_n hB 0 dX6_advance_136 rfl ?_
            refine zr_geti' hG 2 5 (σ3.1 2 5) dX6_advance_137 rfl wf_X6_60 rfl rfl ?_
            refine zr_iald hG 17 dX6_advance_140 rfl (by omega) (by omega) (fun x23 ex23 => ?_)
            obtain rfl : x16 = x23 := ex16.trans ex23.symm
            refine zr_callsi hG (rest := []) dX6_advance_141 wm_X6_73 (c_X6_isDigit K hG.2.2.2.2.2.1 (zc_u σ3 2 6 (σ3.1 2 5)) x16 hOw14 ) rfl rfl (Nat.le_of_ble_eq_true rfl) ⟨Nat.le_of_ble_eq_true rfl, Nat.le_of_ble_eq_true rfl, rfl, rfl⟩ (fun r24 σ25 h26 => ?_)
            obtain ⟨rfl, r24q⟩ := h26
            have r24z := r24q.b
            refine zr_if_eq hB dX6_advance_144 (tgt := 216) rfl (fun c27 => ?_) (fun c27 => ?_)
            · have q28 := r24q.f c27
              refine zr_aload_n hB 0 dX6_advance_216 rfl ?_
              refine zr_iconst hB dX6_advance_217 rfl (fun c29 ec29 => ?_)
              refine zr_puti hG 2 4 dX6_advance_218 rfl wp_X6_38 rfl ?_
              have hOw30 := zc_O.u hOw14 2 4 (v := c29) (show 0 ≤ c29.toInt by omega) (show c29.toInt ≤ 3 by omega) (Or.inr (show 0 ≤ c29.toInt by omega))
              have hAw30 := zc_Ag.u hAw14 2 4 c29 rfl
              refine zr_aload_n hB 0 dX6_advance_221 rfl ?_
              refine zr_dup hB dX6_advance_222 rfl ?_
              refine zr_geti' hG 2 6 (σ3.1 2 5) dX6_advance_223 rfl wf_X6_32 rfl rfl ?_
              refine zr_iconst hB dX6_advance_226 rfl (fun c31 ec31 => ?_)
              refine zr_iadd hB dX6_advance_227 (by omega) (by omega) (fun x32 ex32 => ?_)
              refine zr_puti hG 2 6 dX6_advance_228 rfl wp_X6_32 rfl ?_
              have hOw33 := zc_O.u hOw30 2 6 (v := x32) (show 0 ≤ x32.toInt by omega) (show x32.toInt ≤ 120 by omega) (Or.inr (show 0 ≤ x32.toInt by omega))
              have hAw33 := zc_Ag.u hAw30 2 6 x32 rfl
              refine zr_aload_n hB 0 dX6_advance_231 rfl ?_
              refine zr_aload_n hB 0 dX6_advance_232 rfl ?_
              refine zr_getr hG 2 0 dX6_advance_233 rfl wf_X6_9 rfl ?_
              refine zr_aload_n hB 0 dX6_advance_236 rfl ?_
              refine zr_geti' hG 2 5 (σ3.1 2 5) dX6_advance_237 rfl wf_X6_60 rfl rfl ?_
              refine zr_iald hG 17 dX6_advance_240 rfl (by omega) (by omega) (fun x34 ex34 => ?_)
              have bx34 : 0 ≤ x34.toInt ∧ x34.toInt ≤ 255 := by rw [ex34]; exact ⟨(hOw33 17 _).1, (hOw33 17 _).2.1⟩
              have hb35 : (zw_bX σ0) (σ3.1 2 5).toInt.toNat = x34.toInt := by rw [zw_bX_in (by omega), ex34, (hAw33 17 _ rfl).1]
              refine zr_bipush hB dX6_advance_241 rfl (fun c36 ec36 => ?_)
              refine zr_icmp_ne hB dX6_advance_243 (tgt := 250) rfl (fun c37 => ?_) (fun c37 => ?_)
              · refine zr_iconst hB dX6_advance_250 rfl (fun c38 ec38 => ?_)
                refine zr_puti hG 2 3 dX6_advance_251 rfl wp_X6_29 rfl ?_
                have hOw39 := zc_O.u hOw33 2 3 (v := c38) (show 0 ≤ c38.toInt by omega) (show c38.toInt ≤ 5 by omega) (Or.inr (show 0 ≤ c38.toInt by omega))
                have hAw39 := zc_Ag.u hAw33 2 3 c38 rfl
                exact zr_vret hG dX6_advance_254 ⟨hOw39, hAw39, (by rw [zw_tk3 (by rw [hsn, hb17]; omega) (by rw [hsn, hb17]; omega) (by rw [hsn, hb17]; omega), if_neg (by rw [hsn, hb35]; omega)]; exact zw_X_mk (show c38.toInt = 1 by omega) (show (σ3.1 2 5).toInt = (((zw_s (zw_bX σ0) (σ0.1 2 6).toInt.toNat) : Nat) : Int) by omega) (show x32.toInt = (((zw_s (zw_bX σ0) (σ0.1 2 6).toInt.toNat) + 1 : Nat) : Int) by omega) (show c29.toInt = 3 by omega))⟩
              refine zr_iconst hB dX6_advance_246 rfl (fun c40 ec40 => ?_)
              refine zr_goto hB dX6_advance_247 (tgt := 251) rfl ?_
              refine zr_puti hG 2 3 dX6_advance_251 rfl wp_X6_29 rfl ?_
              have hOw41 := zc_O.u hOw33 2 3 (v := c40) (show 0 ≤ c40.toInt by omega) (show c40.toInt ≤ 5 by omega) (Or.inr (show 0 ≤ c40.toInt by omega))
              have hAw41 := zc_Ag.u hAw33 2 3 c40 rfl
              exact zr_vret hG dX6_advance_254 ⟨hOw41, hAw41, (by rw [zw_tk3 (by rw [hsn, hb17]; omega) (by rw [hsn, hb17]; omega) (by rw [hsn, hb17]; omega), if_pos (by rw [hsn, hb35]; omega)]; exact zw_X_mk (show c40.toInt = 0 by omega) (show (σ3.1 2 5).toInt = (((zw_s (zw_bX σ0) (σ0.1 2 6).toInt.toNat) : Nat) : Int) by omega) (show x32.toInt = (((zw_s (zw_bX σ0) (σ0.1 2 6).toInt.toNat) + 1 : Nat) : Int) by omega) (show c29.toInt = 3 by omega))⟩
            have q42 := r24q.t c27
            refine zr_aload_n hB 0 dX6_advance_147 rfl ?_
            refine zr_iconst hB dX6_advance_148 rfl (fun c43 ec43 => ?_)
            refine zr_puti hG 2 4 dX6_advance_149 rfl wp_X6_38 rfl ?_
            have hOw44 := zc_O.u hOw14 2 4 (v := c43) (show 0 ≤ c43.toInt by omega) (show c43.toInt ≤ 3 by omega) (Or.inr (show 0 ≤ c43.toInt by omega))
            have hAw44 := zc_Ag.u hAw14 2 4 c43 rfl
            have L152_52 : ∀ (n152 : Nat) (σ45 : zc_S) , zc_O okX σ45 → zc_Ag m_X6_advance_2 σ0 σ45 → 0 ≤ (σ45.1 2 6).toInt → (σ45.1 2 6).toInt ≤ 120 → zw_to zw_di (zw_bX σ0) (σ45.1 2 6).toInt.toNat = zw_to zw_di (zw_bX σ0) (zw_s (zw_bX σ0) (σ0.1 2 6).toInt.toNat) → (σ45.1 2 5).toInt = (((zw_s (zw_bX σ0) (σ0.1 2 6).toInt.toNat) : Nat) : Int) → (σ45.1 2 4).toInt = 2 → (σ45.1 2 3).toInt = 0 → (σ45.1 2 1).toInt = (σ0.1 2 1).toInt → 120 - (σ45.1 2 6).toInt < (n152 : Int) → zc_V 1 K G (zc_D shX K G σ45) [(0, .ref (zk K 2))] 152 [] := by
              intro n152
              induction n152 with
              | zero => intro σ45 hO45 hA45 e46 e47 h_di e48 e49 e50 e51 hn152; exfalso; omega
              | succ n152 ih152 =>
                intro σ45 hO45 hA45 e46 e47 h_di e48 e49 e50 e51 hn152
                refine zr_aload_n hB 0 dX6_advance_152 rfl ?_
                refine zr_geti' hG 2 6 (σ45.1 2 6) dX6_advance_153 rfl wf_X6_32 rfl rfl ?_
                have b53 : 0 ≤ (σ45.1 2 6).toInt ∧ (σ45.1 2 6).toInt ≤ 120 := ⟨(hO45 2 6).1, (hO45 2 6).2.1⟩
                refine zr_aload_n hB 0 dX6_advance_156 rfl ?_
                refine zr_geti' hG 2 1 (σ45.1 2 1) dX6_advance_157 rfl wf_X6_22 rfl rfl ?_
                have b54 : 0 ≤ (σ45.1 2 1).toInt ∧ (σ45.1 2 1).toInt ≤ 120 := ⟨(hO45 2 1).1, (hO45 2 1).2.1⟩
                have L191_58 : (σ45.1 2 6).toInt = ((zw_to zw_di (zw_bX σ0) (zw_s (zw_bX σ0) (σ0.1 2 6).toInt.toNat) : Nat) : Int) → (σ45.1 2 5).toInt = (((zw_s (zw_bX σ0) (σ0.1 2 6).toInt.toNat) : Nat) : Int) → (σ45.1 2 4).toInt = 2 → (σ45.1 2 1).toInt = (σ0.1 2 1).toInt → zc_V 1 K G (zc_D shX K G σ45) [(0, .ref (zk K 2))] 191 [] := by
                  intro h191 e55 e56 e57
                  refine zr_aload_n hB 0 dX6_advance_191 rfl ?_
                  refine zr_aload_n hB 0 dX6_advance_192 rfl ?_
                  refine zr_geti' hG 2 6 (σ45.1 2 6) dX6_advance_193 rfl wf_X6_32 rfl rfl ?_
                  refine zr_aload_n hB 0 dX6_advance_196 rfl ?_
                  refine zr_geti' hG 2 5 (σ45.1 2 5) dX6_advance_197 rfl wf_X6_60 rfl rfl ?_
                  have b59 : 0 ≤ (σ45.1 2 5).toInt ∧ (σ45.1 2 5).toInt ≤ 120 := ⟨(hO45 2 5).1, (hO45 2 5).2.1⟩
                  refine zr_isub hB dX6_advance_200 (by omega) (by omega) (fun x60 ex60 => ?_)
                  refine zr_iconst hB dX6_advance_201 rfl (fun c61 ec61 => ?_)
                  refine zr_icmp_le hB dX6_advance_202 (tgt := 209) rfl (fun c62 => ?_) (fun c62 => ?_)
                  · refine zr_iconst hB dX6_advance_209 rfl (fun c63 ec63 => ?_)
                    refine zr_puti hG 2 3 dX6_advance_210 rfl wp_X6_29 rfl ?_
                    have hOw64 := zc_O.u hO45 2 3 (v := c63) (show 0 ≤ c63.toInt by omega) (show c63.toInt ≤ 5 by omega) (Or.inr (show 0 ≤ c63.toInt by omega))
                    have hAw64 := zc_Ag.u hA45 2 3 c63 rfl
                    refine zr_goto hB dX6_advance_213 (tgt := 254) rfl ?_
                    exact zr_vret hG dX6_advance_254 ⟨hOw64, hAw64, (by rw [zw_tk2 (by rw [hsn, hb17]; omega) (by rw [hsn, hb17]; omega), if_neg (by omega)]; exact zw_X_mk (show c63.toInt = 0 by omega) (show (σ45.1 2 5).toInt = (((zw_s (zw_bX σ0) (σ0.1 2 6).toInt.toNat) : Nat) : Int) by omega) (show (σ45.1 2 6).toInt = ((zw_to zw_di (zw_bX σ0) (zw_s (zw_bX σ0) (σ0.1 2 6).toInt.toNat) : Nat) : Int) by omega) (show (σ45.1 2 4).toInt = 2 by omega))⟩
                  refine zr_iconst hB dX6_advance_205 rfl (fun c65 ec65 => ?_)
                  refine zr_goto hB dX6_advance_206 (tgt := 210) rfl ?_
                  refine zr_puti hG 2 3 dX6_advance_210 rfl wp_X6_29 rfl ?_
                  have hOw66 := zc_O.u hO45 2 3 (v := c65) (show 0 ≤ c65.toInt by omega) (show c65.toInt ≤ 5 by omega) (Or.inr (show 0 ≤ c65.toInt by omega))
                  have hAw66 := zc_Ag.u hA45 2 3 c65 rfl
                  refine zr_goto hB dX6_advance_213 (tgt := 254) rfl ?_
                  exact zr_vret hG dX6_advance_254 ⟨hOw66, hAw66, (by rw [zw_tk2 (by rw [hsn, hb17]; omega) (by rw [hsn, hb17]; omega), if_pos (by omega)]; exact zw_X_mk (show c65.toInt = 1 by omega) (show (σ45.1 2 5).toInt = (((zw_s (zw_bX σ0) (σ0.1 2 6).toInt.toNat) : Nat) : Int) by omega) (show (σ45.1 2 6).toInt = ((zw_to zw_di (zw_bX σ0) (zw_s (zw_bX σ0) (σ0.1 2 6).toInt.toNat) : Nat) : Int) by omega) (show (σ45.1 2 4).toInt = 2 by omega))⟩
                refine zr_icmp_ge hB dX6_advance_160 (tgt := 191) rfl (fun c67 => ?_) (fun c67 => ?_)
                · have b68 : 0 ≤ (σ45.1 2 5).toInt ∧ (σ45.1 2 5).toInt ≤ 120 := ⟨(hO45 2 5).1, (hO45 2 5).2.1⟩
                  have b69 : 0 ≤ (σ45.1 2 4).toInt ∧ (σ45.1 2 4).toInt ≤ 3 := ⟨(hO45 2 4).1, (hO45 2 4).2.1⟩
                  exact L191_58 (show (σ45.1 2 6).toInt = ((zw_to zw_di (zw_bX σ0) (zw_s (zw_bX σ0) (σ0.1 2 6).toInt.toNat) : Nat) : Int) by have h9 := h_di; rw [zw_no (Or.inl (by rw [zw_bX_out (by omega)]; rfl))] at h9; omega) (show (σ45.1 2 5).toInt = (((zw_s (zw_bX σ0) (σ0.1 2 6).toInt.toNat) : Nat) : Int) by omega) (show (σ45.1 2 4).toInt = 2 by omega) (show (σ45.1 2 1).toInt = (σ0.1 2 1).toInt by omega)
                refine zr_aload_n hB 0 dX6_advance_163 rfl ?_
                refine zr_getr hG 2 0 dX6_advance_164 rfl wf_X6_9 rfl ?_
                refine zr_aload_n hB 0 dX6_advance_167 rfl ?_
                refine zr_geti' hG 2 6 (σ45.1 2 6) dX6_advance_168 rfl wf_X6_32 rfl rfl ?_
                refine zr_iald hG 17 dX6_advance_171 rfl (by omega) (by omega) (fun x70 ex70 => ?_)
                have bx70 : 0 ≤ x70.toInt ∧ x70.toInt ≤ 255 := by rw [ex70]; exact ⟨(hO45 17 _).1, (hO45 17 _).2.1⟩
                have hb71 : (zw_bX σ0) (σ45.1 2 6).toInt.toNat = x70.toInt := by rw [zw_bX_in (by omega), ex70, (hA45 17 _ rfl).1]
                refine zr_callsi hG (rest := []) dX6_advance_172 wm_X6_73 (c_X6_isDigit K hG.2.2.2.2.2.1 σ45 x70 hO45 ) rfl rfl (Nat.le_of_ble_eq_true rfl) ⟨Nat.le_of_ble_eq_true rfl, Nat.le_of_ble_eq_true rfl, rfl, rfl⟩ (fun r72 σ73 h74 => ?_)
                obtain ⟨rfl, r72q⟩ := h74
                have r72z := r72q.b
                refine zr_if_eq hB dX6_advance_175 (tgt := 191) rfl (fun c75 => ?_) (fun c75 => ?_)
                · have q76 := r72q.f c75
                  have b77 : 0 ≤ (σ45.1 2 5).toInt ∧ (σ45.1 2 5).toInt ≤ 120 := ⟨(hO45 2 5).1, (hO45 2 5).2.1⟩
                  have b78 : 0 ≤ (σ45.1 2 4).toInt ∧ (σ45.1 2 4).toInt ≤ 3 := ⟨(hO45 2 4).1, (hO45 2 4).2.1⟩
                  exact L191_58 (show (σ45.1 2 6).toInt = ((zw_to zw_di (zw_bX σ0) (zw_s (zw_bX σ0) (σ0.1 2 6).toInt.toNat) : Nat) : Int) by have h9 := h_di; rw [zw_no (Or.inl (by rw [hb71]; exact decide_eq_false (by omega)))] at h9; omega) (show (σ45.1 2 5).toInt = (((zw_s (zw_bX σ0) (σ0.1 2 6).toInt.toNat) : Nat) : Int) by omega) (show (σ45.1 2 4).toInt = 2 by omega) (show (σ45.1 2 1).toInt = (σ0.1 2 1).toInt by omega)
                have q79 := r72q.t c75
                refine zr_aload_n hB 0 dX6_advance_178 rfl ?_
                refine zr_dup hB dX6_advance_179 rfl ?_
                refine zr_geti' hG 2 6 (σ45.1 2 6) dX6_advance_180 rfl wf_X6_32 rfl rfl ?_
                refine zr_iconst hB dX6_advance_183 rfl (fun c80 ec80 => ?_)
                refine zr_iadd hB dX6_advance_184 (by omega) (by omega) (fun x81 ex81 => ?_)
                refine zr_puti hG 2 6 dX6_advance_185 rfl wp_X6_32 rfl ?_
                have hOw82 := zc_O.u hO45 2 6 (v := x81) (show 0 ≤ x81.toInt by omega) (show x81.toInt ≤ 120 by omega) (Or.inr (show 0 ≤ x81.toInt by omega))
                have hAw82 := zc_Ag.u hA45 2 6 x81 rfl
                refine zr_goto hB dX6_advance_188 (tgt := 152) rfl ?_
                have b83 : 0 ≤ (σ45.1 2 5).toInt ∧ (σ45.1 2 5).toInt ≤ 120 := ⟨(hOw82 2 5).1, (hOw82 2 5).2.1⟩
                have b84 : 0 ≤ (σ45.1 2 4).toInt ∧ (σ45.1 2 4).toInt ≤ 3 := ⟨(hOw82 2 4).1, (hOw82 2 4).2.1⟩
                have b85 : 0 ≤ (σ45.1 2 3).toInt ∧ (σ45.1 2 3).toInt ≤ 5 := ⟨(hOw82 2 3).1, (hOw82 2 3).2.1⟩
                exact ih152 (zc_u σ45 2 6 x81) hOw82 hAw82 (show 0 ≤ x81.toInt by omega) (show x81.toInt ≤ 120 by omega) (show zw_to zw_di (zw_bX σ0) x81.toInt.toNat = zw_to zw_di (zw_bX σ0) (zw_s (zw_bX σ0) (σ0.1 2 6).toInt.toNat) by rw [← h_di]; exact (zw_go (by omega) (by rw [hb71]; exact decide_eq_true (by omega)) (by omega)).symm) (show (σ45.1 2 5).toInt = (((zw_s (zw_bX σ0) (σ0.1 2 6).toInt.toNat) : Nat) : Int) by omega) (show (σ45.1 2 4).toInt = 2 by omega) (show (σ45.1 2 3).toInt = 0 by omega) (show (σ45.1 2 1).toInt = (σ0.1 2 1).toInt by omega) (show 120 - x81.toInt < (n152 : Int) by omega)
            have b86 : 0 ≤ (σ3.1 2 3).toInt ∧ (σ3.1 2 3).toInt ≤ 5 := ⟨(hOw44 2 3).1, (hOw44 2 3).2.1⟩
            exact L152_52 122 (zc_u (zc_u σ3 2 6 (σ3.1 2 5)) 2 4 c43) hOw44 hAw44 (show 0 ≤ (σ3.1 2 5).toInt by omega) (show (σ3.1 2 5).toInt ≤ 120 by omega) (show zw_to zw_di (zw_bX σ0) (σ3.1 2 5).toInt.toNat = zw_to zw_di (zw_bX σ0) (zw_s (zw_bX σ0) (σ0.1 2 6).toInt.toNat) by rw [hsn]) (show (σ3.1 2 5).toInt = (((zw_s (zw_bX σ0) (σ0.1 2 6).toInt.toNat) : Nat) : Int) by omega) (show c43.toInt = 2 by omega) (show (σ3.1 2 3).toInt = 0 by omega) (show (σ3.1 2 1).toInt = (σ0.1 2 1).toInt by omega) (show 120 - (σ3.1 2 5).toInt < ((122 : Nat) : Int) by omega)
          have q87 := r18q.t c21
          refine zr_aload_n hB 0 dX6_advance_88 rfl ?_
          refine zr_iconst hB dX6_advance_89 rfl (fun c88 ec88 => ?_)
          refine zr_puti hG 2 4 dX6_advance_90 rfl wp_X6_38 rfl ?_
          have hOw89 := zc_O.u hOw14 2 4 (v := c88) (show 0 ≤ c88.toInt by omega) (show c88.toInt ≤ 3 by omega) (Or.inr (show 0 ≤ c88.toInt by omega))
          have hAw89 := zc_Ag.u hAw14 2 4 c88 rfl
          have L93_97 : ∀ (n93 : Nat) (σ90 : zc_S) , zc_O okX σ90 → zc_Ag m_X6_advance_2 σ0 σ90 → 0 ≤ (σ90.1 2 6).toInt → (σ90.1 2 6).toInt ≤ 120 → zw_to zw_le (zw_bX σ0) (σ90.1 2 6).toInt.toNat = zw_to zw_le (zw_bX σ0) (zw_s (zw_bX σ0) (σ0.1 2 6).toInt.toNat) → (σ90.1 2 5).toInt = (((zw_s (zw_bX σ0) (σ0.1 2 6).toInt.toNat) : Nat) : Int) → (σ90.1 2 4).toInt = 1 → (σ90.1 2 3).toInt = 0 → (σ90.1 2 1).toInt = (σ0.1 2 1).toInt → 120 - (σ90.1 2 6).toInt < (n93 : Int) → zc_V 1 K G (zc_D shX K G σ90) [(0, .ref (zk K 2))] 93 [] := by
            intro n93
            induction n93 with
            | zero => intro σ90 hO90 hA90 e91 e92 h_le e93 e94 e95 e96 hn93; exfalso; omega
            | succ n93 ih93 =>
              intro σ90 hO90 hA90 e91 e92 h_le e93 e94 e95 e96 hn93
              refine zr_aload_n hB 0 dX6_advance_93 rfl ?_
              refine zr_geti' hG 2 6 (σ90.1 2 6) dX6_advance_94 rfl wf_X6_32 rfl rfl ?_
              have b98 : 0 ≤ (σ90.1 2 6).toInt ∧ (σ90.1 2 6).toInt ≤ 120 := ⟨(hO90 2 6).1, (hO90 2 6).2.1⟩
              refine zr_aload_n hB 0 dX6_advance_97 rfl ?_
              refine zr_geti' hG 2 1 (σ90.1 2 1) dX6_advance_98 rfl wf_X6_22 rfl rfl ?_
              have b99 : 0 ≤ (σ90.1 2 1).toInt ∧ (σ90.1 2 1).toInt ≤ 120 := ⟨(hO90 2 1).1, (hO90 2 1).2.1⟩
              refine zr_icmp_ge hB dX6_advance_101 (tgt := 254) rfl (fun c100 => ?_) (fun c100 => ?_)
              · exact zr_vret hG dX6_advance_254 ⟨hO90, hA90, (by rw [zw_tk1 (by rw [hsn, hb17]; omega) (by rw [hsn, hb17]; omega)]; exact zw_X_mk (show (σ90.1 2 3).toInt = 0 by omega) (show (σ90.1 2 5).toInt = (((zw_s (zw_bX σ0) (σ0.1 2 6).toInt.toNat) : Nat) : Int) by omega) (show (σ90.1 2 6).toInt = ((zw_to zw_le (zw_bX σ0) (zw_s (zw_bX σ0) (σ0.1 2 6).toInt.toNat) : Nat) : Int) by have h9 := h_le; rw [zw_no (Or.inl (by rw [zw_bX_out (by omega)]; rfl))] at h9; omega) (show (σ90.1 2 4).toInt = 1 by omega))⟩
              refine zr_aload_n hB 0 dX6_advance_104 rfl ?_
              refine zr_getr hG 2 0 dX6_advance_105 rfl wf_X6_9 rfl ?_
              refine zr_aload_n hB 0 dX6_advance_108 rfl ?_
              refine zr_geti' hG 2 6 (σ90.1 2 6) dX6_advance_109 rfl wf_X6_32 rfl rfl ?_
              refine zr_iald hG 17 dX6_advance_112 rfl (by omega) (by omega) (fun x101 ex101 => ?_)
              have bx101 : 0 ≤ x101.toInt ∧ x101.toInt ≤ 255 := by rw [ex101]; exact ⟨(hO90 17 _).1, (hO90 17 _).2.1⟩
              have hb102 : (zw_bX σ0) (σ90.1 2 6).toInt.toNat = x101.toInt := by rw [zw_bX_in (by omega), ex101, (hA90 17 _ rfl).1]
              refine zr_callsi hG (rest := []) dX6_advance_113 wm_X6_69 (c_X6_isLetter K hG.2.2.2.2.2.1 σ90 x101 hO90 ) rfl rfl (Nat.le_of_ble_eq_true rfl) ⟨Nat.le_of_ble_eq_true rfl, Nat.le_of_ble_eq_true rfl, rfl, rfl⟩ (fun r103 σ104 h105 => ?_)
              obtain ⟨rfl, r103q⟩ := h105
              have r103z := r103q.b
              refine zr_if_eq hB dX6_advance_116 (tgt := 254) rfl (fun c106 => ?_) (fun c106 => ?_)
              · have q107 := r103q.f c106
                exact zr_vret hG dX6_advance_254 ⟨hO90, hA90, (by rw [zw_tk1 (by rw [hsn, hb17]; omega) (by rw [hsn, hb17]; omega)]; exact zw_X_mk (show (σ90.1 2 3).toInt = 0 by omega) (show (σ90.1 2 5).toInt = (((zw_s (zw_bX σ0) (σ0.1 2 6).toInt.toNat) : Nat) : Int) by omega) (show (σ90.1 2 6).toInt = ((zw_to zw_le (zw_bX σ0) (zw_s (zw_bX σ0) (σ0.1 2 6).toInt.toNat) : Nat) : Int) by have h9 := h_le; rw [zw_no (Or.inl (by rw [hb102]; exact decide_eq_false (by omega)))] at h9; omega) (show (σ90.1 2 4).toInt = 1 by omega))⟩
              have q108 := r103q.t c106
              refine zr_aload_n hB 0 dX6_advance_119 rfl ?_
              refine zr_dup hB dX6_advance_120 rfl ?_
              refine zr_geti' hG 2 6 (σ90.1 2 6) dX6_advance_121 rfl wf_X6_32 rfl rfl ?_
              refine zr_iconst hB dX6_advance_124 rfl (fun c109 ec109 => ?_)
              refine zr_iadd hB dX6_advance_125 (by omega) (by omega) (fun x110 ex110 => ?_)
              refine zr_puti hG 2 6 dX6_advance_126 rfl wp_X6_32 rfl ?_
              have hOw111 := zc_O.u hO90 2 6 (v := x110) (show 0 ≤ x110.toInt by omega) (show x110.toInt ≤ 120 by omega) (Or.inr (show 0 ≤ x110.toInt by omega))
              have hAw111 := zc_Ag.u hA90 2 6 x110 rfl
              refine zr_goto hB dX6_advance_129 (tgt := 93) rfl ?_
              have b112 : 0 ≤ (σ90.1 2 5).toInt ∧ (σ90.1 2 5).toInt ≤ 120 := ⟨(hOw111 2 5).1, (hOw111 2 5).2.1⟩
              have b113 : 0 ≤ (σ90.1 2 4).toInt ∧ (σ90.1 2 4).toInt ≤ 3 := ⟨(hOw111 2 4).1, (hOw111 2 4).2.1⟩
              have b114 : 0 ≤ (σ90.1 2 3).toInt ∧ (σ90.1 2 3).toInt ≤ 5 := ⟨(hOw111 2 3).1, (hOw111 2 3).2.1⟩
              exact ih93 (zc_u σ90 2 6 x110) hOw111 hAw111 (show 0 ≤ x110.toInt by omega) (show x110.toInt ≤ 120 by omega) (show zw_to zw_le (zw_bX σ0) x110.toInt.toNat = zw_to zw_le (zw_bX σ0) (zw_s (zw_bX σ0) (σ0.1 2 6).toInt.toNat) by rw [← h_le]; exact (zw_go (by omega) (by rw [hb102]; exact decide_eq_true (by omega)) (by omega)).symm) (show (σ90.1 2 5).toInt = (((zw_s (zw_bX σ0) (σ0.1 2 6).toInt.toNat) : Nat) : Int) by omega) (show (σ90.1 2 4).toInt = 1 by omega) (show (σ90.1 2 3).toInt = 0 by omega) (show (σ90.1 2 1).toInt = (σ0.1 2 1).toInt by omega) (show 120 - x110.toInt < (n93 : Int) by omega)
          have b115 : 0 ≤ (σ3.1 2 3).toInt ∧ (σ3.1 2 3).toInt ≤ 5 := ⟨(hOw89 2 3).1, (hOw89 2 3).2.1⟩
          exact L93_97 122 (zc_u (zc_u σ3 2 6 (σ3.1 2 5)) 2 4 c88) hOw89 hAw89 (show 0 ≤ (σ3.1 2 5).toInt by omega) (show (σ3.1 2 5).toInt ≤ 120 by omega) (show zw_to zw_le (zw_bX σ0) (σ3.1 2 5).toInt.toNat = zw_to zw_le (zw_bX σ0) (zw_s (zw_bX σ0) (σ0.1 2 6).toInt.toNat) by rw [hsn]) (show (σ3.1 2 5).toInt = (((zw_s (zw_bX σ0) (σ0.1 2 6).toInt.toNat) : Nat) : Int) by omega) (show c88.toInt = 1 by omega) (show (σ3.1 2 3).toInt = 0 by omega) (show (σ3.1 2 1).toInt = (σ0.1 2 1).toInt by omega) (show 120 - (σ3.1 2 5).toInt < ((122 : Nat) : Int) by omega)
        refine zr_aload_n hB 0 dX6_advance_65 rfl ?_
        refine zr_iconst hB dX6_advance_66 rfl (fun c116 ec116 => ?_)
        refine zr_puti hG 2 4 dX6_advance_67 rfl wp_X6_38 rfl ?_
        have hOw117 := zc_O.u hOw14 2 4 (v := c116) (show 0 ≤ c116.toInt by omega) (show c116.toInt ≤ 3 by omega) (Or.inr (show 0 ≤ c116.toInt by omega))
        have hAw117 := zc_Ag.u hAw14 2 4 c116 rfl
        refine zr_goto hB dX6_advance_70 (tgt := 254) rfl ?_
        exact zr_vret hG dX6_advance_254 ⟨hOw117, hAw117, (by rw [zw_tk0 (by rw [hsn]; exact zw_bX_out (by omega))]; exact zw_X_mk (show (σ3.1 2 3).toInt = 0 by omega) (show (σ3.1 2 5).toInt = (((zw_s (zw_bX σ0) (σ0.1 2 6).toInt.toNat) : Nat) : Int) by omega) (show (σ3.1 2 5).toInt = (((zw_s (zw_bX σ0) (σ0.1 2 6).toInt.toNat) : Nat) : Int) by omega) (show c116.toInt = 0 by omega))⟩
      refine zr_icmp_ge hB dX6_advance_16 (tgt := 46) rfl (fun c118 => ?_) (fun c118 => ?_)
      · have b119 : 0 ≤ (σ3.1 2 3).toInt ∧ (σ3.1 2 3).toInt ≤ 5 := ⟨(hO3 2 3).1, (hO3 2 3).2.1⟩
        exact L46_13 (show (σ3.1 2 5).toInt = (((zw_s (zw_bX σ0) (σ0.1 2 6).toInt.toNat) : Nat) : Int) by have h9 := h_sp; rw [zw_no (Or.inl (by rw [zw_bX_out (by omega)]; rfl))] at h9; omega) (show (σ3.1 2 3).toInt = 0 by omega) (show (σ3.1 2 1).toInt = (σ0.1 2 1).toInt by omega)
      refine zr_aload_n hB 0 dX6_advance_19 rfl ?_
      refine zr_getr hG 2 0 dX6_advance_20 rfl wf_X6_9 rfl ?_
      refine zr_aload_n hB 0 dX6_advance_23 rfl ?_
      refine zr_geti' hG 2 5 (σ3.1 2 5) dX6_advance_24 rfl wf_X6_60 rfl rfl ?_
      refine zr_iald hG 17 dX6_advance_27 rfl (by omega) (by omega) (fun x120 ex120 => ?_)
      have bx120 : 0 ≤ x120.toInt ∧ x120.toInt ≤ 255 := by rw [ex120]; exact ⟨(hO3 17 _).1, (hO3 17 _).2.1⟩
      have hb121 : (zw_bX σ0) (σ3.1 2 5).toInt.toNat = x120.toInt := by rw [zw_bX_in (by omega), ex120, (hA3 17 _ rfl).1]
      refine zr_bipush hB dX6_advance_28 rfl (fun c122 ec122 => ?_)
      refine zr_icmp_ne hB dX6_advance_30 (tgt := 46) rfl (fun c123 => ?_) (fun c123 => ?_)
      · have b124 : 0 ≤ (σ3.1 2 3).toInt ∧ (σ3.1 2 3).toInt ≤ 5 := ⟨(hO3 2 3).1, (hO3 2 3).2.1⟩
        exact L46_13 (show (σ3.1 2 5).toInt = (((zw_s (zw_bX σ0) (σ0.1 2 6).toInt.toNat) : Nat) : Int) by have h9 := h_sp; rw [zw_no (Or.inl (by rw [hb121]; exact decide_eq_false (by omega)))] at h9; omega) (show (σ3.1 2 3).toInt = 0 by omega) (show (σ3.1 2 1).toInt = (σ0.1 2 1).toInt by omega)
      refine zr_aload_n hB 0 dX6_advance_33 rfl ?_
      refine zr_dup hB dX6_advance_34 rfl ?_
      refine zr_geti' hG 2 5 (σ3.1 2 5) dX6_advance_35 rfl wf_X6_60 rfl rfl ?_
      refine zr_iconst hB dX6_advance_38 rfl (fun c125 ec125 => ?_)
      refine zr_iadd hB dX6_advance_39 (by omega) (by omega) (fun x126 ex126 => ?_)
      refine zr_puti hG 2 5 dX6_advance_40 rfl wp_X6_60 rfl ?_
      have hOw127 := zc_O.u hO3 2 5 (v := x126) (show 0 ≤ x126.toInt by omega) (show x126.toInt ≤ 120 by omega) (Or.inr (show 0 ≤ x126.toInt by omega))
      have hAw127 := zc_Ag.u hA3 2 5 x126 rfl
      refine zr_goto hB dX6_advance_43 (tgt := 8) rfl ?_
      have b128 : 0 ≤ (σ3.1 2 3).toInt ∧ (σ3.1 2 3).toInt ≤ 5 := ⟨(hOw127 2 3).1, (hOw127 2 3).2.1⟩
      exact ih8 (zc_u σ3 2 5 x126) hOw127 hAw127 (show 0 ≤ x126.toInt by omega) (show x126.toInt ≤ 120 by omega) (show zw_to zw_sp (zw_bX σ0) x126.toInt.toNat = (zw_s (zw_bX σ0) (σ0.1 2 6).toInt.toNat) by rw [← h_sp]; exact (zw_go (by omega) (by rw [hb121]; exact decide_eq_true (by omega)) (by omega)).symm) (show (σ3.1 2 3).toInt = 0 by omega) (show (σ3.1 2 1).toInt = (σ0.1 2 1).toInt by omega) (show 120 - x126.toInt < (n8 : Int) by omega)
  have b129 : 0 ≤ (σ0.1 2 3).toInt ∧ (σ0.1 2 3).toInt ≤ 5 := ⟨(hOw2 2 3).1, (hOw2 2 3).2.1⟩
  exact L8_8 122 (zc_u σ0 2 5 (σ0.1 2 6)) hOw2 hAw2 (show 0 ≤ (σ0.1 2 6).toInt by omega) (show (σ0.1 2 6).toInt ≤ 120 by omega) (show zw_to zw_sp (zw_bX σ0) (σ0.1 2 6).toInt.toNat = (zw_s (zw_bX σ0) (σ0.1 2 6).toInt.toNat) by rfl) (show (σ0.1 2 3).toInt = 0 by omega) (show (σ0.1 2 1).toInt = (σ0.1 2 1).toInt by omega) (show 120 - (σ0.1 2 6).toInt < ((122 : Nat) : Int) by omega)

set_option maxHeartbeats 1000000 in
set_option maxRecDepth 100000 in
theorem c_X6_isName_2_2 (K : zc_K) (hi : zc_inj shX K.2.2.2.1) (σ0 : zc_S)  (hO0 : zc_O okX σ0) (hx0 : (σ0.1 2 6).toInt ≤ (σ0.1 2 1).toInt) : zc_M shX K yX6_isName cX6_isName 3 (some .boolean) (zrm 4 85) σ0 [.ref (zk K 2), .ref (zz K 2)] (zc_I (fun r9 σ9 => σ0 = σ9 ∧ 0 ≤ r9.toInt ∧ r9.toInt ≤ 1 ∧ ((r9.toInt = 1 ∧ zw_is (zw_bX σ0) (σ0.1 2 5).toInt.toNat (σ0.1 2 6).toInt.toNat 0) ∨ (r9.toInt = 0 ∧ ¬ zw_is (zw_bX σ0) (σ0.1 2 5).toInt.toNat (σ0.1 2 6).toInt.toNat 0)))) := by
  refine zc_start RX6 hi pfX6_isName rfl (Nat.le_of_ble_eq_true rfl) ?_
  intro G hG
  have hB := hG.1
  show zc_V 3 K G (zc_D shX K G σ0) [(0, .ref (zk K 2)), (1, .ref (zz K 2))] 0 []
  refine zr_aload_n hB 0 dX6_isName_0 rfl ?_
  refine zr_geti' hG 2 6 (σ0.1 2 6) dX6_isName_1 rfl wf_X6_32 rfl rfl ?_
  have b1 : 0 ≤ (σ0.1 2 6).toInt ∧ (σ0.1 2 6).toInt ≤ 120 := ⟨(hO0 2 6).1, (hO0 2 6).2.1⟩
  refine zr_aload_n hB 0 dX6_isName_4 rfl ?_
  refine zr_geti' hG 2 5 (σ0.1 2 5) dX6_isName_5 rfl wf_X6_60 rfl rfl ?_
  have b2 : 0 ≤ (σ0.1 2 5).toInt ∧ (σ0.1 2 5).toInt ≤ 120 := ⟨(hO0 2 5).1, (hO0 2 5).2.1⟩
  refine zr_isub hB dX6_isName_8 (by omega) (by omega) (fun x3 ex3 => ?_)
  refine zr_aload_n hB 1 dX6_isName_9 rfl ?_
  refine zr_callzi hG (rest := [.int x3]) 0 dX6_isName_10 wm_X6_90 (by decide) rfl (c_J0_length_8abf5_2 K hG.2.2.2.2.2.1 σ0  hO0 ) rfl rfl (Nat.le_of_ble_eq_true rfl) ⟨Nat.le_of_ble_eq_true rfl, Nat.le_of_ble_eq_true rfl, rfl, rfl⟩ (fun r4 σ5 h6 => ?_)
  obtain ⟨rfl, r4a, r4b⟩ := h6
  refine zr_icmp_eq hB dX6_isName_13 (tgt := 18) rfl (fun c7 => ?_) (fun c7 => ?_)
  · refine zr_iconst hB dX6_isName_18 rfl (fun c8 ec8 => ?_)
    refine zr_istore_n hB dX6_isName_19 rfl (by decide) (lv' := [(2, .int c8), (0, .ref (zk K 2)), (1, .ref (zz K 2))]) rfl ?_
    have L20_10 : ∀ (n20 : Nat) (y2_9 : Int32), 0 ≤ y2_9.toInt → y2_9.toInt ≤ 4 → (∀ j : Nat, (j : Int) < y2_9.toInt → (zw_bX σ0) ((σ0.1 2 5).toInt.toNat + j) = ((zc_byt.getD 0 []).getD j 0).toInt) → 4 - y2_9.toInt < (n20 : Int) → zc_V 3 K G (zc_D shX K G σ0) [(0, .ref (zk K 2)), (1, .ref (zz K 2)), (2, .int y2_9)] 20 [] := by
      intro n20
      induction n20 with
      | zero => intro y2_9 y2_9a y2_9b hjj hn20; exfalso; omega
      | succ n20 ih20 =>
        intro y2_9 y2_9a y2_9b hjj hn20
        refine zr_iload_n hB 2 dX6_isName_20 rfl ?_
        refine zr_aload_n hB 1 dX6_isName_21 rfl ?_
        refine zr_callzi hG (rest := [.int y2_9]) 0 dX6_isName_22 wm_X6_90 (by decide) rfl (c_J0_length_8abf5_2 K hG.2.2.2.2.2.1 σ0  hO0 ) rfl rfl (Nat.le_of_ble_eq_true rfl) ⟨Nat.le_of_ble_eq_true rfl, Nat.le_of_ble_eq_true rfl, rfl, rfl⟩ (fun r11 σ12 h13 => ?_)
        obtain ⟨rfl, r11a, r11b⟩ := h13
        refine zr_icmp_ge hB dX6_isName_25 (tgt := 55) rfl (fun c14 => ?_) (fun c14 => ?_)
        · refine zr_iconst hB dX6_isName_55 rfl (fun c15 ec15 => ?_)
          exact zr_zret hG dX6_isName_56 (by omega) (by omega) ⟨rfl, by omega, by omega, (Or.inl ⟨by omega, (show (σ0.1 2 6).toInt.toNat = (σ0.1 2 5).toInt.toNat + 4 by omega), fun j (hj : j < 4) => hjj j (by omega)⟩)⟩
        refine zr_aload_n hB 0 dX6_isName_28 rfl ?_
        refine zr_getr hG 2 0 dX6_isName_29 rfl wf_X6_9 rfl ?_
        refine zr_aload_n hB 0 dX6_isName_32 rfl ?_
        refine zr_geti' hG 2 5 (σ0.1 2 5) dX6_isName_33 rfl wf_X6_60 rfl rfl ?_
        refine zr_iload_n hB 2 dX6_isName_36 rfl ?_
        refine zr_iadd hB dX6_isName_37 (by omega) (by omega) (fun x16 ex16 => ?_)
        refine zr_iald hG 17 dX6_isName_38 rfl (by omega) (by omega) (fun x17 ex17 => ?_)
        have bx17 : 0 ≤ x17.toInt ∧ x17.toInt ≤ 255 := by rw [ex17]; exact ⟨(hO0 17 _).1, (hO0 17 _).2.1⟩
        have hb : (zw_bX σ0) x16.toInt.toNat = x17.toInt := by rw [zw_bX_in (by omega), ex17]
        refine zr_aload_n hB 1 dX6_isName_39 rfl ?_
        refine zr_iload_n hB 2 dX6_isName_40 rfl ?_
        refine zr_callzi hG (rest := [.int x17]) 0 dX6_isName_41 wm_X6_94 (by decide) rfl (c_J0_charAt_5068e_2 K hG.2.2.2.2.2.1 σ0 y2_9 hO0 (by omega) (by omega)) rfl rfl (Nat.le_of_ble_eq_true rfl) ⟨Nat.le_of_ble_eq_true rfl, Nat.le_of_ble_eq_true rfl, rfl, rfl⟩ (fun r18 σ19 h20 => ?_)
        obtain ⟨rfl, g21⟩ := h20
        refine zr_icmp_eq hB dX6_isName_44 (tgt := 49) rfl (fun c22 => ?_) (fun c22 => ?_)
        · refine zr_iinc hB 2 dX6_isName_49 rfl (by decide) rfl (by omega) (by omega) (fun x23 ex23 lv' hlv => ?_)
          obtain rfl : [(2, .int x23), (0, .ref (zk K 2)), (1, .ref (zz K 2))] = lv' := hlv
          refine zr_goto hB dX6_isName_52 (tgt := 20) rfl ?_
          exact zc_sub [1, 2, 0] rfl (ih20 x23 (by omega) (by omega) (show ∀ j : Nat, (j : Int) < x23.toInt → (zw_bX σ0) ((σ0.1 2 5).toInt.toNat + j) = ((zc_byt.getD 0 []).getD j 0).toInt by intro j hj; by_cases h9 : (j : Int) < y2_9.toInt; exact hjj j h9; (obtain rfl : j = y2_9.toInt.toNat := (by omega); rw [show (σ0.1 2 5).toInt.toNat + y2_9.toInt.toNat = x16.toInt.toNat by omega, hb, ← g21]; omega)) (by omega))
        refine zr_iconst hB dX6_isName_47 rfl (fun c24 ec24 => ?_)
        exact zr_zret hG dX6_isName_48 (by omega) (by omega) ⟨rfl, by omega, by omega, (Or.inr ⟨by omega, fun h => by have h9 := h.2 y2_9.toInt.toNat (show y2_9.toInt.toNat < 4 by omega); rw [show (σ0.1 2 5).toInt.toNat + y2_9.toInt.toNat = x16.toInt.toNat by omega, hb, ← g21] at h9; omega⟩)⟩
    exact zc_sub [1, 2, 0] rfl (L20_10 6 c8 (by omega) (by omega) (show ∀ j : Nat, (j : Int) < c8.toInt → (zw_bX σ0) ((σ0.1 2 5).toInt.toNat + j) = ((zc_byt.getD 0 []).getD j 0).toInt by intro j hj; exfalso; omega) (by omega))
  refine zr_iconst hB dX6_isName_16 rfl (fun c25 ec25 => ?_)
  exact zr_zret hG dX6_isName_17 (by omega) (by omega) ⟨rfl, by omega, by omega, (Or.inr ⟨by omega, fun h => by have h9 : (σ0.1 2 6).toInt.toNat = (σ0.1 2 5).toInt.toNat + 4 := h.1; omega⟩)⟩

set_option maxHeartbeats 1000000 in
set_option maxRecDepth 100000 in
theorem c_X6_isName_2_3 (K : zc_K) (hi : zc_inj shX K.2.2.2.1) (σ0 : zc_S)  (hO0 : zc_O okX σ0) (hx0 : (σ0.1 2 6).toInt ≤ (σ0.1 2 1).toInt) : zc_M shX K yX6_isName cX6_isName 3 (some .boolean) (zrm 4 85) σ0 [.ref (zk K 2), .ref (zz K 3)] (zc_I (fun r9 σ9 => σ0 = σ9 ∧ 0 ≤ r9.toInt ∧ r9.toInt ≤ 1 ∧ ((r9.toInt = 1 ∧ zw_is (zw_bX σ0) (σ0.1 2 5).toInt.toNat (σ0.1 2 6).toInt.toNat 1) ∨ (r9.toInt = 0 ∧ ¬ zw_is (zw_bX σ0) (σ0.1 2 5).toInt.toNat (σ0.1 2 6).toInt.toNat 1)))) := by
  refine zc_start RX6 hi pfX6_isName rfl (Nat.le_of_ble_eq_true rfl) ?_
  intro G hG
  have hB := hG.1
  show zc_V 3 K G (zc_D shX K G σ0) [(0, .ref (zk K 2)), (1, .ref (zz K 3))] 0 []
  refine zr_aload_n hB 0 dX6_isName_0 rfl ?_
  refine zr_geti' hG 2 6 (σ0.1 2 6) dX6_isName_1 rfl wf_X6_32 rfl rfl ?_
  have b1 : 0 ≤ (σ0.1 2 6).toInt ∧ (σ0.1 2 6).toInt ≤ 120 := ⟨(hO0 2 6).1, (hO0 2 6).2.1⟩
  refine zr_aload_n hB 0 dX6_isName_4 rfl ?_
  refine zr_geti' hG 2 5 (σ0.1 2 5) dX6_isName_5 rfl wf_X6_60 rfl rfl ?_
  have b2 : 0 ≤ (σ0.1 2 5).toInt ∧ (σ0.1 2 5).toInt ≤ 120 := ⟨(hO0 2 5).1, (hO0 2 5).2.1⟩
  refine zr_isub hB dX6_isName_8 (by omega) (by omega) (fun x3 ex3 => ?_)
  refine zr_aload_n hB 1 dX6_isName_9 rfl ?_
  refine zr_callzi hG (rest := [.int x3]) 1 dX6_isName_10 wm_X6_90 (by decide) rfl (c_J0_length_8abf5_3 K hG.2.2.2.2.2.1 σ0  hO0 ) rfl rfl (Nat.le_of_ble_eq_true rfl) ⟨Nat.le_of_ble_eq_true rfl, Nat.le_of_ble_eq_true rfl, rfl, rfl⟩ (fun r4 σ5 h6 => ?_)
  obtain ⟨rfl, r4a, r4b⟩ := h6
  refine zr_icmp_eq hB dX6_isName_13 (tgt := 18) rfl (fun c7 => ?_) (fun c7 => ?_)
  · refine zr_iconst hB dX6_isName_18 rfl (fun c8 ec8 => ?_)
    refine zr_istore_n hB dX6_isName_19 rfl (by decide) (lv' := [(2, .int c8), (0, .ref (zk K 2)), (1, .ref (zz K 3))]) rfl ?_
    have L20_10 : ∀ (n20 : Nat) (y2_9 : Int32), 0 ≤ y2_9.toInt → y2_9.toInt ≤ 4 → (∀ j : Nat, (j : Int) < y2_9.toInt → (zw_bX σ0) ((σ0.1 2 5).toInt.toNat + j) = ((zc_byt.getD 1 []).getD j 0).toInt) → 4 - y2_9.toInt < (n20 : Int) → zc_V 3 K G (zc_D shX K G σ0) [(0, .ref (zk K 2)), (1, .ref (zz K 3)), (2, .int y2_9)] 20 [] := by
      intro n20
      induction n20 with
      | zero => intro y2_9 y2_9a y2_9b hjj hn20; exfalso; omega
      | succ n20 ih20 =>
        intro y2_9 y2_9a y2_9b hjj hn20
        refine zr_iload_n hB 2 dX6_isName_20 rfl ?_
        refine zr_aload_n hB 1 dX6_isName_21 rfl ?_
        refine zr_callzi hG (rest := [.int y2_9]) 1 dX6_isName_22 wm_X6_90 (by decide) rfl (c_J0_length_8abf5_3 K hG.2.2.2.2.2.1 σ0  hO0 ) rfl rfl (Nat.le_of_ble_eq_true rfl) ⟨Nat.le_of_ble_eq_true rfl, Nat.le_of_ble_eq_true rfl, rfl, rfl⟩ (fun r11 σ12 h13 => ?_)
        obtain ⟨rfl, r11a, r11b⟩ := h13
        refine zr_icmp_ge hB dX6_isName_25 (tgt := 55) rfl (fun c14 => ?_) (fun c14 => ?_)
        · refine zr_iconst hB dX6_isName_55 rfl (fun c15 ec15 => ?_)
          exact zr_zret hG dX6_isName_56 (by omega) (by omega) ⟨rfl, by omega, by omega, (Or.inl ⟨by omega, (show (σ0.1 2 6).toInt.toNat = (σ0.1 2 5).toInt.toNat + 4 by omega), fun j (hj : j < 4) => hjj j (by omega)⟩)⟩
        refine zr_aload_n hB 0 dX6_isName_28 rfl ?_
        refine zr_getr hG 2 0 dX6_isName_29 rfl wf_X6_9 rfl ?_
        refine zr_aload_n hB 0 dX6_isName_32 rfl ?_
        refine zr_geti' hG 2 5 (σ0.1 2 5) dX6_isName_33 rfl wf_X6_60 rfl rfl ?_
        refine zr_iload_n hB 2 dX6_isName_36 rfl ?_
        refine zr_iadd hB dX6_isName_37 (by omega) (by omega) (fun x16 ex16 => ?_)
        refine zr_iald hG 17 dX6_isName_38 rfl (by omega) (by omega) (fun x17 ex17 => ?_)
        have bx17 : 0 ≤ x17.toInt ∧ x17.toInt ≤ 255 := by rw [ex17]; exact ⟨(hO0 17 _).1, (hO0 17 _).2.1⟩
        have hb : (zw_bX σ0) x16.toInt.toNat = x17.toInt := by rw [zw_bX_in (by omega), ex17]
        refine zr_aload_n hB 1 dX6_isName_39 rfl ?_
        refine zr_iload_n hB 2 dX6_isName_40 rfl ?_
        refine zr_callzi hG (rest := [.int x17]) 1 dX6_isName_41 wm_X6_94 (by decide) rfl (c_J0_charAt_5068e_3 K hG.2.2.2.2.2.1 σ0 y2_9 hO0 (by omega) (by omega)) rfl rfl (Nat.le_of_ble_eq_true rfl) ⟨Nat.le_of_ble_eq_true rfl, Nat.le_of_ble_eq_true rfl, rfl, rfl⟩ (fun r18 σ19 h20 => ?_)
        obtain ⟨rfl, g21⟩ := h20
        refine zr_icmp_eq hB dX6_isName_44 (tgt := 49) rfl (fun c22 => ?_) (fun c22 => ?_)
        · refine zr_iinc hB 2 dX6_isName_49 rfl (by decide) rfl (by omega) (by omega) (fun x23 ex23 lv' hlv => ?_)
          obtain rfl : [(2, .int x23), (0, .ref (zk K 2)), (1, .ref (zz K 3))] = lv' := hlv
          refine zr_goto hB dX6_isName_52 (tgt := 20) rfl ?_
          exact zc_sub [1, 2, 0] rfl (ih20 x23 (by omega) (by omega) (show ∀ j : Nat, (j : Int) < x23.toInt → (zw_bX σ0) ((σ0.1 2 5).toInt.toNat + j) = ((zc_byt.getD 1 []).getD j 0).toInt by intro j hj; by_cases h9 : (j : Int) < y2_9.toInt; exact hjj j h9; (obtain rfl : j = y2_9.toInt.toNat := (by omega); rw [show (σ0.1 2 5).toInt.toNat + y2_9.toInt.toNat = x16.toInt.toNat by omega, hb, ← g21]; omega)) (by omega))
        refine zr_iconst hB dX6_isName_47 rfl (fun c24 ec24 => ?_)
        exact zr_zret hG dX6_isName_48 (by omega) (by omega) ⟨rfl, by omega, by omega, (Or.inr ⟨by omega, fun h => by have h9 := h.2 y2_9.toInt.toNat (show y2_9.toInt.toNat < 4 by omega); rw [show (σ0.1 2 5).toInt.toNat + y2_9.toInt.toNat = x16.toInt.toNat by omega, hb, ← g21] at h9; omega⟩)⟩
    exact zc_sub [1, 2, 0] rfl (L20_10 6 c8 (by omega) (by omega) (show ∀ j : Nat, (j : Int) < c8.toInt → (zw_bX σ0) ((σ0.1 2 5).toInt.toNat + j) = ((zc_byt.getD 1 []).getD j 0).toInt by intro j hj; exfalso; omega) (by omega))
  refine zr_iconst hB dX6_isName_16 rfl (fun c25 ec25 => ?_)
  exact zr_zret hG dX6_isName_17 (by omega) (by omega) ⟨rfl, by omega, by omega, (Or.inr ⟨by omega, fun h => by have h9 : (σ0.1 2 6).toInt.toNat = (σ0.1 2 5).toInt.toNat + 4 := h.1; omega⟩)⟩

set_option maxHeartbeats 1000000 in
set_option maxRecDepth 100000 in
theorem c_X6_isName_2_4 (K : zc_K) (hi : zc_inj shX K.2.2.2.1) (σ0 : zc_S)  (hO0 : zc_O okX σ0) (hx0 : (σ0.1 2 6).toInt ≤ (σ0.1 2 1).toInt) : zc_M shX K yX6_isName cX6_isName 3 (some .boolean) (zrm 4 85) σ0 [.ref (zk K 2), .ref (zz K 4)] (zc_I (fun r9 σ9 => σ0 = σ9 ∧ 0 ≤ r9.toInt ∧ r9.toInt ≤ 1 ∧ ((r9.toInt = 1 ∧ zw_is (zw_bX σ0) (σ0.1 2 5).toInt.toNat (σ0.1 2 6).toInt.toNat 2) ∨ (r9.toInt = 0 ∧ ¬ zw_is (zw_bX σ0) (σ0.1 2 5).toInt.toNat (σ0.1 2 6).toInt.toNat 2)))) := by
  refine zc_start RX6 hi pfX6_isName rfl (Nat.le_of_ble_eq_true rfl) ?_
  intro G hG
  have hB := hG.1
  show zc_V 3 K G (zc_D shX K G σ0) [(0, .ref (zk K 2)), (1, .ref (zz K 4))] 0 []
  refine zr_aload_n hB 0 dX6_isName_0 rfl ?_
  refine zr_geti' hG 2 6 (σ0.1 2 6) dX6_isName_1 rfl wf_X6_32 rfl rfl ?_
  have b1 : 0 ≤ (σ0.1 2 6).toInt ∧ (σ0.1 2 6).toInt ≤ 120 := ⟨(hO0 2 6).1, (hO0 2 6).2.1⟩
  refine zr_aload_n hB 0 dX6_isName_4 rfl ?_
  refine zr_geti' hG 2 5 (σ0.1 2 5) dX6_isName_5 rfl wf_X6_60 rfl rfl ?_
  have b2 : 0 ≤ (σ0.1 2 5).toInt ∧ (σ0.1 2 5).toInt ≤ 120 := ⟨(hO0 2 5).1, (hO0 2 5).2.1⟩
  refine zr_isub hB dX6_isName_8 (by omega) (by omega) (fun x3 ex3 => ?_)
  refine zr_aload_n hB 1 dX6_isName_9 rfl ?_
  refine zr_callzi hG (rest := [.int x3]) 2 dX6_isName_10 wm_X6_90 (by decide) rfl (c_J0_length_8abf5_4 K hG.2.2.2.2.2.1 σ0  hO0 ) rfl rfl (Nat.le_of_ble_eq_true rfl) ⟨Nat.le_of_ble_eq_true rfl, Nat.le_of_ble_eq_true rfl, rfl, rfl⟩ (fun r4 σ5 h6 => ?_)
  obtain ⟨rfl, r4a, r4b⟩ := h6
  refine zr_icmp_eq hB dX6_isName_13 (tgt := 18) rfl (fun c7 => ?_) (fun c7 => ?_)
  · refine zr_iconst hB dX6_isName_18 rfl (fun c8 ec8 => ?_)
    refine zr_istore_n hB dX6_isName_19 rfl (by decide) (lv' := [(2, .int c8), (0, .ref (zk K 2)), (1, .ref (zz K 4))]) rfl ?_
    have L20_10 : ∀ (n20 : Nat) (y2_9 : Int32), 0 ≤ y2_9.toInt → y2_9.toInt ≤ 4 → (∀ j : Nat, (j : Int) < y2_9.toInt → (zw_bX σ0) ((σ0.1 2 5).toInt.toNat + j) = ((zc_byt.getD 2 []).getD j 0).toInt) → 4 - y2_9.toInt < (n20 : Int) → zc_V 3 K G (zc_D shX K G σ0) [(0, .ref (zk K 2)), (1, .ref (zz K 4)), (2, .int y2_9)] 20 [] := by
      intro n20
      induction n20 with
      | zero => intro y2_9 y2_9a y2_9b hjj hn20; exfalso; omega
      | succ n20 ih20 =>
        intro y2_9 y2_9a y2_9b hjj hn20
        refine zr_iload_n hB 2 dX6_isName_20 rfl ?_
        refine zr_aload_n hB 1 dX6_isName_21 rfl ?_
        refine zr_callzi hG (rest := [.int y2_9]) 2 dX6_isName_22 wm_X6_90 (by decide) rfl (c_J0_length_8abf5_4 K hG.2.2.2.2.2.1 σ0  hO0 ) rfl rfl (Nat.le_of_ble_eq_true rfl) ⟨Nat.le_of_ble_eq_true rfl, Nat.le_of_ble_eq_true rfl, rfl, rfl⟩ (fun r11 σ12 h13 => ?_)
        obtain ⟨rfl, r11a, r11b⟩ := h13
        refine zr_icmp_ge hB dX6_isName_25 (tgt := 55) rfl (fun c14 => ?_) (fun c14 => ?_)
        · refine zr_iconst hB dX6_isName_55 rfl (fun c15 ec15 => ?_)
          exact zr_zret hG dX6_isName_56 (by omega) (by omega) ⟨rfl, by omega, by omega, (Or.inl ⟨by omega, (show (σ0.1 2 6).toInt.toNat = (σ0.1 2 5).toInt.toNat + 4 by omega), fun j (hj : j < 4) => hjj j (by omega)⟩)⟩
        refine zr_aload_n hB 0 dX6_isName_28 rfl ?_
        refine zr_getr hG 2 0 dX6_isName_29 rfl wf_X6_9 rfl ?_
        refine zr_aload_n hB 0 dX6_isName_32 rfl ?_
        refine zr_geti' hG 2 5 (σ0.1 2 5) dX6_isName_33 rfl wf_X6_60 rfl rfl ?_
        refine zr_iload_n hB 2 dX6_isName_36 rfl ?_
        refine zr_iadd hB dX6_isName_37 (by omega) (by omega) (fun x16 ex16 => ?_)
        refine zr_iald hG 17 dX6_isName_38 rfl (by omega) (by omega) (fun x17 ex17 => ?_)
        have bx17 : 0 ≤ x17.toInt ∧ x17.toInt ≤ 255 := by rw [ex17]; exact ⟨(hO0 17 _).1, (hO0 17 _).2.1⟩
        have hb : (zw_bX σ0) x16.toInt.toNat = x17.toInt := by rw [zw_bX_in (by omega), ex17]
        refine zr_aload_n hB 1 dX6_isName_39 rfl ?_
        refine zr_iload_n hB 2 dX6_isName_40 rfl ?_
        refine zr_callzi hG (rest := [.int x17]) 2 dX6_isName_41 wm_X6_94 (by decide) rfl (c_J0_charAt_5068e_4 K hG.2.2.2.2.2.1 σ0 y2_9 hO0 (by omega) (by omega)) rfl rfl (Nat.le_of_ble_eq_true rfl) ⟨Nat.le_of_ble_eq_true rfl, Nat.le_of_ble_eq_true rfl, rfl, rfl⟩ (fun r18 σ19 h20 => ?_)
        obtain ⟨rfl, g21⟩ := h20
        refine zr_icmp_eq hB dX6_isName_44 (tgt := 49) rfl (fun c22 => ?_) (fun c22 => ?_)
        · refine zr_iinc hB 2 dX6_isName_49 rfl (by decide) rfl (by omega) (by omega) (fun x23 ex23 lv' hlv => ?_)
          obtain rfl : [(2, .int x23), (0, .ref (zk K 2)), (1, .ref (zz K 4))] = lv' := hlv
          refine zr_goto hB dX6_isName_52 (tgt := 20) rfl ?_
          exact zc_sub [1, 2, 0] rfl (ih20 x23 (by omega) (by omega) (show ∀ j : Nat, (j : Int) < x23.toInt → (zw_bX σ0) ((σ0.1 2 5).toInt.toNat + j) = ((zc_byt.getD 2 []).getD j 0).toInt by intro j hj; by_cases h9 : (j : Int) < y2_9.toInt; exact hjj j h9; (obtain rfl : j = y2_9.toInt.toNat := (by omega); rw [show (σ0.1 2 5).toInt.toNat + y2_9.toInt.toNat = x16.toInt.toNat by omega, hb, ← g21]; omega)) (by omega))
        refine zr_iconst hB dX6_isName_47 rfl (fun c24 ec24 => ?_)
        exact zr_zret hG dX6_isName_48 (by omega) (by omega) ⟨rfl, by omega, by omega, (Or.inr ⟨by omega, fun h => by have h9 := h.2 y2_9.toInt.toNat (show y2_9.toInt.toNat < 4 by omega); rw [show (σ0.1 2 5).toInt.toNat + y2_9.toInt.toNat = x16.toInt.toNat by omega, hb, ← g21] at h9; omega⟩)⟩
    exact zc_sub [1, 2, 0] rfl (L20_10 6 c8 (by omega) (by omega) (show ∀ j : Nat, (j : Int) < c8.toInt → (zw_bX σ0) ((σ0.1 2 5).toInt.toNat + j) = ((zc_byt.getD 2 []).getD j 0).toInt by intro j hj; exfalso; omega) (by omega))
  refine zr_iconst hB dX6_isName_16 rfl (fun c25 ec25 => ?_)
  exact zr_zret hG dX6_isName_17 (by omega) (by omega) ⟨rfl, by omega, by omega, (Or.inr ⟨by omega, fun h => by have h9 : (σ0.1 2 6).toInt.toNat = (σ0.1 2 5).toInt.toNat + 4 := h.1; omega⟩)⟩

set_option maxHeartbeats 1000000 in
set_option maxRecDepth 100000 in
theorem c_X6_isName_2_5 (K : zc_K) (hi : zc_inj shX K.2.2.2.1) (σ0 : zc_S)  (hO0 : zc_O okX σ0) (hx0 : (σ0.1 2 6).toInt ≤ (σ0.1 2 1).toInt) : zc_M shX K yX6_isName cX6_isName 3 (some .boolean) (zrm 4 85) σ0 [.ref (zk K 2), .ref (zz K 5)] (zc_I (fun r9 σ9 => σ0 = σ9 ∧ 0 ≤ r9.toInt ∧ r9.toInt ≤ 1 ∧ ((r9.toInt = 1 ∧ zw_is (zw_bX σ0) (σ0.1 2 5).toInt.toNat (σ0.1 2 6).toInt.toNat 3) ∨ (r9.toInt = 0 ∧ ¬ zw_is (zw_bX σ0) (σ0.1 2 5).toInt.toNat (σ0.1 2 6).toInt.toNat 3)))) := by
  refine zc_start RX6 hi pfX6_isName rfl (Nat.le_of_ble_eq_true rfl) ?_
  intro G hG
  have hB := hG.1
  show zc_V 3 K G (zc_D shX K G σ0) [(0, .ref (zk K 2)), (1, .ref (zz K 5))] 0 []
  refine zr_aload_n hB 0 dX6_isName_0 rfl ?_
  refine zr_geti' hG 2 6 (σ0.1 2 6) dX6_isName_1 rfl wf_X6_32 rfl rfl ?_
  have b1 : 0 ≤ (σ0.1 2 6).toInt ∧ (σ0.1 2 6).toInt ≤ 120 := ⟨(hO0 2 6).1, (hO0 2 6).2.1⟩
  refine zr_aload_n hB 0 dX6_isName_4 rfl ?_
  refine zr_geti' hG 2 5 (σ0.1 2 5) dX6_isName_5 rfl wf_X6_60 rfl rfl ?_
  have b2 : 0 ≤ (σ0.1 2 5).toInt ∧ (σ0.1 2 5).toInt ≤ 120 := ⟨(hO0 2 5).1, (hO0 2 5).2.1⟩
  refine zr_isub hB dX6_isName_8 (by omega) (by omega) (fun x3 ex3 => ?_)
  refine zr_aload_n hB 1 dX6_isName_9 rfl ?_
  refine zr_callzi hG (rest := [.int x3]) 3 dX6_isName_10 wm_X6_90 (by decide) rfl (c_J0_length_8abf5_5 K hG.2.2.2.2.2.1 σ0  hO0 ) rfl rfl (Nat.le_of_ble_eq_true rfl) ⟨Nat.le_of_ble_eq_true rfl, Nat.le_of_ble_eq_true rfl, rfl, rfl⟩ (fun r4 σ5 h6 => ?_)
  obtain ⟨rfl, r4a, r4b⟩ := h6
  refine zr_icmp_eq hB dX6_isName_13 (tgt := 18) rfl (fun c7 => ?_) (fun c7 => ?_)
  · refine zr_iconst hB dX6_isName_18 rfl (fun c8 ec8 => ?_)
    refine zr_istore_n hB dX6_isName_19 rfl (by decide) (lv' := [(2, .int c8), (0, .ref (zk K 2)), (1, .ref (zz K 5))]) rfl ?_
    have L20_10 : ∀ (n20 : Nat) (y2_9 : Int32), 0 ≤ y2_9.toInt → y2_9.toInt ≤ 4 → (∀ j : Nat, (j : Int) < y2_9.toInt → (zw_bX σ0) ((σ0.1 2 5).toInt.toNat + j) = ((zc_byt.getD 3 []).getD j 0).toInt) → 4 - y2_9.toInt < (n20 : Int) → zc_V 3 K G (zc_D shX K G σ0) [(0, .ref (zk K 2)), (1, .ref (zz K 5)), (2, .int y2_9)] 20 [] := by
      intro n20
      induction n20 with
      | zero => intro y2_9 y2_9a y2_9b hjj hn20; exfalso; omega
      | succ n20 ih20 =>
        intro y2_9 y2_9a y2_9b hjj hn20
        refine zr_iload_n hB 2 dX6_isName_20 rfl ?_
        refine zr_aload_n hB 1 dX6_isName_21 rfl ?_
        refine zr_callzi hG (rest := [.int y2_9]) 3 dX6_isName_22 wm_X6_90 (by decide) rfl (c_J0_length_8abf5_5 K hG.2.2.2.2.2.1 σ0  hO0 ) rfl rfl (Nat.le_of_ble_eq_true rfl) ⟨Nat.le_of_ble_eq_true rfl, Nat.le_of_ble_eq_true rfl, rfl, rfl⟩ (fun r11 σ12 h13 => ?_)
        obtain ⟨rfl, r11a, r11b⟩ := h13
        refine zr_icmp_ge hB dX6_isName_25 (tgt := 55) rfl (fun c14 => ?_) (fun c14 => ?_)
        · refine zr_iconst hB dX6_isName_55 rfl (fun c15 ec15 => ?_)
          exact zr_zret hG dX6_isName_56 (by omega) (by omega) ⟨rfl, by omega, by omega, (Or.inl ⟨by omega, (show (σ0.1 2 6).toInt.toNat = (σ0.1 2 5).toInt.toNat + 4 by omega), fun j (hj : j < 4) => hjj j (by omega)⟩)⟩
        refine zr_aload_n hB 0 dX6_isName_28 rfl ?_
        refine zr_getr hG 2 0 dX6_isName_29 rfl wf_X6_9 rfl ?_
        refine zr_aload_n hB 0 dX6_isName_32 rfl ?_
        refine zr_geti' hG 2 5 (σ0.1 2 5) dX6_isName_33 rfl wf_X6_60 rfl rfl ?_
        refine zr_iload_n hB 2 dX6_isName_36 rfl ?_
        refine zr_iadd hB dX6_isName_37 (by omega) (by omega) (fun x16 ex16 => ?_)
        refine zr_iald hG 17 dX6_isName_38 rfl (by omega) (by omega) (fun x17 ex17 => ?_)
        have bx17 : 0 ≤ x17.toInt ∧ x17.toInt ≤ 255 := by rw [ex17]; exact ⟨(hO0 17 _).1, (hO0 17 _).2.1⟩
        have hb : (zw_bX σ0) x16.toInt.toNat = x17.toInt := by rw [zw_bX_in (by omega), ex17]
        refine zr_aload_n hB 1 dX6_isName_39 rfl ?_
        refine zr_iload_n hB 2 dX6_isName_40 rfl ?_
        refine zr_callzi hG (rest := [.int x17]) 3 dX6_isName_41 wm_X6_94 (by decide) rfl (c_J0_charAt_5068e_5 K hG.2.2.2.2.2.1 σ0 y2_9 hO0 (by omega) (by omega)) rfl rfl (Nat.le_of_ble_eq_true rfl) ⟨Nat.le_of_ble_eq_true rfl, Nat.le_of_ble_eq_true rfl, rfl, rfl⟩ (fun r18 σ19 h20 => ?_)
        obtain ⟨rfl, g21⟩ := h20
        refine zr_icmp_eq hB dX6_isName_44 (tgt := 49) rfl (fun c22 => ?_) (fun c22 => ?_)
        · refine zr_iinc hB 2 dX6_isName_49 rfl (by decide) rfl (by omega) (by omega) (fun x23 ex23 lv' hlv => ?_)
          obtain rfl : [(2, .int x23), (0, .ref (zk K 2)), (1, .ref (zz K 5))] = lv' := hlv
          refine zr_goto hB dX6_isName_52 (tgt := 20) rfl ?_
          exact zc_sub [1, 2, 0] rfl (ih20 x23 (by omega) (by omega) (show ∀ j : Nat, (j : Int) < x23.toInt → (zw_bX σ0) ((σ0.1 2 5).toInt.toNat + j) = ((zc_byt.getD 3 []).getD j 0).toInt by intro j hj; by_cases h9 : (j : Int) < y2_9.toInt; exact hjj j h9; (obtain rfl : j = y2_9.toInt.toNat := (by omega); rw [show (σ0.1 2 5).toInt.toNat + y2_9.toInt.toNat = x16.toInt.toNat by omega, hb, ← g21]; omega)) (by omega))
        refine zr_iconst hB dX6_isName_47 rfl (fun c24 ec24 => ?_)
        exact zr_zret hG dX6_isName_48 (by omega) (by omega) ⟨rfl, by omega, by omega, (Or.inr ⟨by omega, fun h => by have h9 := h.2 y2_9.toInt.toNat (show y2_9.toInt.toNat < 4 by omega); rw [show (σ0.1 2 5).toInt.toNat + y2_9.toInt.toNat = x16.toInt.toNat by omega, hb, ← g21] at h9; omega⟩)⟩
    exact zc_sub [1, 2, 0] rfl (L20_10 6 c8 (by omega) (by omega) (show ∀ j : Nat, (j : Int) < c8.toInt → (zw_bX σ0) ((σ0.1 2 5).toInt.toNat + j) = ((zc_byt.getD 3 []).getD j 0).toInt by intro j hj; exfalso; omega) (by omega))
  refine zr_iconst hB dX6_isName_16 rfl (fun c25 ec25 => ?_)
  exact zr_zret hG dX6_isName_17 (by omega) (by omega) ⟨rfl, by omega, by omega, (Or.inr ⟨by omega, fun h => by have h9 : (σ0.1 2 6).toInt.toNat = (σ0.1 2 5).toInt.toNat + 4 := h.1; omega⟩)⟩

set_option maxHeartbeats 1000000 in
set_option maxRecDepth 100000 in
theorem c_X6_isName_2_6 (K : zc_K) (hi : zc_inj shX K.2.2.2.1) (σ0 : zc_S)  (hO0 : zc_O okX σ0) (hx0 : (σ0.1 2 6).toInt ≤ (σ0.1 2 1).toInt) : zc_M shX K yX6_isName cX6_isName 3 (some .boolean) (zrm 4 85) σ0 [.ref (zk K 2), .ref (zz K 6)] (zc_I (fun r9 σ9 => σ0 = σ9 ∧ 0 ≤ r9.toInt ∧ r9.toInt ≤ 1 ∧ ((r9.toInt = 1 ∧ zw_is (zw_bX σ0) (σ0.1 2 5).toInt.toNat (σ0.1 2 6).toInt.toNat 4) ∨ (r9.toInt = 0 ∧ ¬ zw_is (zw_bX σ0) (σ0.1 2 5).toInt.toNat (σ0.1 2 6).toInt.toNat 4)))) := by
  refine zc_start RX6 hi pfX6_isName rfl (Nat.le_of_ble_eq_true rfl) ?_
  intro G hG
  have hB := hG.1
  show zc_V 3 K G (zc_D shX K G σ0) [(0, .ref (zk K 2)), (1, .ref (zz K 6))] 0 []
  refine zr_aload_n hB 0 dX6_isName_0 rfl ?_
  refine zr_geti' hG 2 6 (σ0.1 2 6) dX6_isName_1 rfl wf_X6_32 rfl rfl ?_
  have b1 : 0 ≤ (σ0.1 2 6).toInt ∧ (σ0.1 2 6).toInt ≤ 120 := ⟨(hO0 2 6).1, (hO0 2 6).2.1⟩
  refine zr_aload_n hB 0 dX6_isName_4 rfl ?_
  refine zr_geti' hG 2 5 (σ0.1 2 5) dX6_isName_5 rfl wf_X6_60 rfl rfl ?_
  have b2 : 0 ≤ (σ0.1 2 5).toInt ∧ (σ0.1 2 5).toInt ≤ 120 := ⟨(hO0 2 5).1, (hO0 2 5).2.1⟩
  refine zr_isub hB dX6_isName_8 (by omega) (by omega) (fun x3 ex3 => ?_)
  refine zr_aload_n hB 1 dX6_isName_9 rfl ?_
  refine zr_callzi hG (rest := [.int x3]) 4 dX6_isName_10 wm_X6_90 (by decide) rfl (c_J0_length_8abf5_6 K hG.2.2.2.2.2.1 σ0  hO0 ) rfl rfl (Nat.le_of_ble_eq_true rfl) ⟨Nat.le_of_ble_eq_true rfl, Nat.le_of_ble_eq_true rfl, rfl, rfl⟩ (fun r4 σ5 h6 => ?_)
  obtain ⟨rfl, r4a, r4b⟩ := h6
  refine zr_icmp_eq hB dX6_isName_13 (tgt := 18) rfl (fun c7 => ?_) (fun c7 => ?_)
  · refine zr_iconst hB dX6_isName_18 rfl (fun c8 ec8 => ?_)
    refine zr_istore_n hB dX6_isName_19 rfl (by decide) (lv' := [(2, .int c8), (0, .ref (zk K 2)), (1, .ref (zz K 6))]) rfl ?_
    have L20_10 : ∀ (n20 : Nat) (y2_9 : Int32), 0 ≤ y2_9.toInt → y2_9.toInt ≤ 6 → (∀ j : Nat, (j : Int) < y2_9.toInt → (zw_bX σ0) ((σ0.1 2 5).toInt.toNat + j) = ((zc_byt.getD 4 []).getD j 0).toInt) → 6 - y2_9.toInt < (n20 : Int) → zc_V 3 K G (zc_D shX K G σ0) [(0, .ref (zk K 2)), (1, .ref (zz K 6)), (2, .int y2_9)] 20 [] := by
      intro n20
      induction n20 with
      | zero => intro y2_9 y2_9a y2_9b hjj hn20; exfalso; omega
      | succ n20 ih20 =>
        intro y2_9 y2_9a y2_9b hjj hn20
        refine zr_iload_n hB 2 dX6_isName_20 rfl ?_
        refine zr_aload_n hB 1 dX6_isName_21 rfl ?_
        refine zr_callzi hG (rest := [.int y2_9]) 4 dX6_isName_22 wm_X6_90 (by decide) rfl (c_J0_length_8abf5_6 K hG.2.2.2.2.2.1 σ0  hO0 ) rfl rfl (Nat.le_of_ble_eq_true rfl) ⟨Nat.le_of_ble_eq_true rfl, Nat.le_of_ble_eq_true rfl, rfl, rfl⟩ (fun r11 σ12 h13 => ?_)
        obtain ⟨rfl, r11a, r11b⟩ := h13
        refine zr_icmp_ge hB dX6_isName_25 (tgt := 55) rfl (fun c14 => ?_) (fun c14 => ?_)
        · refine zr_iconst hB dX6_isName_55 rfl (fun c15 ec15 => ?_)
          exact zr_zret hG dX6_isName_56 (by omega) (by omega) ⟨rfl, by omega, by omega, (Or.inl ⟨by omega, (show (σ0.1 2 6).toInt.toNat = (σ0.1 2 5).toInt.toNat + 6 by omega), fun j (hj : j < 6) => hjj j (by omega)⟩)⟩
        refine zr_aload_n hB 0 dX6_isName_28 rfl ?_
        refine zr_getr hG 2 0 dX6_isName_29 rfl wf_X6_9 rfl ?_
        refine zr_aload_n hB 0 dX6_isName_32 rfl ?_
        refine zr_geti' hG 2 5 (σ0.1 2 5) dX6_isName_33 rfl wf_X6_60 rfl rfl ?_
        refine zr_iload_n hB 2 dX6_isName_36 rfl ?_
        refine zr_iadd hB dX6_isName_37 (by omega) (by omega) (fun x16 ex16 => ?_)
        refine zr_iald hG 17 dX6_isName_38 rfl (by omega) (by omega) (fun x17 ex17 => ?_)
        have bx17 : 0 ≤ x17.toInt ∧ x17.toInt ≤ 255 := by rw [ex17]; exact ⟨(hO0 17 _).1, (hO0 17 _).2.1⟩
        have hb : (zw_bX σ0) x16.toInt.toNat = x17.toInt := by rw [zw_bX_in (by omega), ex17]
        refine zr_aload_n hB 1 dX6_isName_39 rfl ?_
        refine zr_iload_n hB 2 dX6_isName_40 rfl ?_
        refine zr_callzi hG (rest := [.int x17]) 4 dX6_isName_41 wm_X6_94 (by decide) rfl (c_J0_charAt_5068e_6 K hG.2.2.2.2.2.1 σ0 y2_9 hO0 (by omega) (by omega)) rfl rfl (Nat.le_of_ble_eq_true rfl) ⟨Nat.le_of_ble_eq_true rfl, Nat.le_of_ble_eq_true rfl, rfl, rfl⟩ (fun r18 σ19 h20 => ?_)
        obtain ⟨rfl, g21⟩ := h20
        refine zr_icmp_eq hB dX6_isName_44 (tgt := 49) rfl (fun c22 => ?_) (fun c22 => ?_)
        · refine zr_iinc hB 2 dX6_isName_49 rfl (by decide) rfl (by omega) (by omega) (fun x23 ex23 lv' hlv => ?_)
          obtain rfl : [(2, .int x23), (0, .ref (zk K 2)), (1, .ref (zz K 6))] = lv' := hlv
          refine zr_goto hB dX6_isName_52 (tgt := 20) rfl ?_
          exact zc_sub [1, 2, 0] rfl (ih20 x23 (by omega) (by omega) (show ∀ j : Nat, (j : Int) < x23.toInt → (zw_bX σ0) ((σ0.1 2 5).toInt.toNat + j) = ((zc_byt.getD 4 []).getD j 0).toInt by intro j hj; by_cases h9 : (j : Int) < y2_9.toInt; exact hjj j h9; (obtain rfl : j = y2_9.toInt.toNat := (by omega); rw [show (σ0.1 2 5).toInt.toNat + y2_9.toInt.toNat = x16.toInt.toNat by omega, hb, ← g21]; omega)) (by omega))
        refine zr_iconst hB dX6_isName_47 rfl (fun c24 ec24 => ?_)
        exact zr_zret hG dX6_isName_48 (by omega) (by omega) ⟨rfl, by omega, by omega, (Or.inr ⟨by omega, fun h => by have h9 := h.2 y2_9.toInt.toNat (show y2_9.toInt.toNat < 6 by omega); rw [show (σ0.1 2 5).toInt.toNat + y2_9.toInt.toNat = x16.toInt.toNat by omega, hb, ← g21] at h9; omega⟩)⟩
    exact zc_sub [1, 2, 0] rfl (L20_10 8 c8 (by omega) (by omega) (show ∀ j : Nat, (j : Int) < c8.toInt → (zw_bX σ0) ((σ0.1 2 5).toInt.toNat + j) = ((zc_byt.getD 4 []).getD j 0).toInt by intro j hj; exfalso; omega) (by omega))
  refine zr_iconst hB dX6_isName_16 rfl (fun c25 ec25 => ?_)
  exact zr_zret hG dX6_isName_17 (by omega) (by omega) ⟨rfl, by omega, by omega, (Or.inr ⟨by omega, fun h => by have h9 : (σ0.1 2 6).toInt.toNat = (σ0.1 2 5).toInt.toNat + 6 := h.1; omega⟩)⟩

set_option maxHeartbeats 1000000 in
set_option maxRecDepth 100000 in
theorem c_X6_kindOfName_2 (K : zc_K) (hi : zc_inj shX K.2.2.2.1) (σ0 : zc_S)  (hO0 : zc_O okX σ0) (hx0 : (σ0.1 2 6).toInt ≤ (σ0.1 2 1).toInt) : zc_M shX K yX6_kindOfName cX6_kindOfName 1 (some .int) (zrm 5 107) σ0 [.ref (zk K 2)] (zc_I (fun r9 σ9 => σ0 = σ9 ∧ (-4) ≤ r9.toInt ∧ r9.toInt ≤ 4 ∧ r9.toInt = zw_nm (zw_bX σ0) (σ0.1 2 5).toInt.toNat (σ0.1 2 6).toInt.toNat)) := by
  refine zc_start RX6 hi pfX6_kindOfName rfl (Nat.le_of_ble_eq_true rfl) ?_
  intro G hG
  have hB := hG.1
  show zc_V 1 K G (zc_D shX K G σ0) [(0, .ref (zk K 2))] 0 []
  refine zr_aload_n hB 0 dX6_kindOfName_0 rfl ?_
  refine zr_ldcS hG 0 dX6_kindOfName_1 (by decide) rfl ?_
  refine zr_callvi hG (rest := []) 2 dX6_kindOfName_3 wm_X6_78 rfl rfl (c_X6_isName_2_2 K hG.2.2.2.2.2.1 σ0  hO0 (by omega)) rfl rfl (Nat.le_of_ble_eq_true rfl) ⟨Nat.le_of_ble_eq_true rfl, Nat.le_of_ble_eq_true rfl, rfl, rfl⟩ (fun r1 σ2 h3 => ?_)
  obtain ⟨rfl, r1a, r1b, g4⟩ := h3
  refine zr_if_eq hB dX6_kindOfName_6 (tgt := 11) rfl (fun c5 => ?_) (fun c5 => ?_)
  · refine zr_aload_n hB 0 dX6_kindOfName_11 rfl ?_
    refine zr_ldcS hG 1 dX6_kindOfName_12 (by decide) rfl ?_
    refine zr_callvi hG (rest := []) 2 dX6_kindOfName_14 wm_X6_78 rfl rfl (c_X6_isName_2_3 K hG.2.2.2.2.2.1 σ0  hO0 (by omega)) rfl rfl (Nat.le_of_ble_eq_true rfl) ⟨Nat.le_of_ble_eq_true rfl, Nat.le_of_ble_eq_true rfl, rfl, rfl⟩ (fun r6 σ7 h8 => ?_)
    obtain ⟨rfl, r6a, r6b, g9⟩ := h8
    refine zr_if_eq hB dX6_kindOfName_17 (tgt := 22) rfl (fun c10 => ?_) (fun c10 => ?_)
    · refine zr_aload_n hB 0 dX6_kindOfName_22 rfl ?_
      refine zr_ldcS hG 2 dX6_kindOfName_23 (by decide) rfl ?_
      refine zr_callvi hG (rest := []) 2 dX6_kindOfName_25 wm_X6_78 rfl rfl (c_X6_isName_2_4 K hG.2.2.2.2.2.1 σ0  hO0 (by omega)) rfl rfl (Nat.le_of_ble_eq_true rfl) ⟨Nat.le_of_ble_eq_true rfl, Nat.le_of_ble_eq_true rfl, rfl, rfl⟩ (fun r11 σ12 h13 => ?_)
      obtain ⟨rfl, r11a, r11b, g14⟩ := h13
      refine zr_if_eq hB dX6_kindOfName_28 (tgt := 33) rfl (fun c15 => ?_) (fun c15 => ?_)
      · refine zr_aload_n hB 0 dX6_kindOfName_33 rfl ?_
        refine zr_ldcS hG 3 dX6_kindOfName_34 (by decide) rfl ?_
        refine zr_callvi hG (rest := []) 2 dX6_kindOfName_36 wm_X6_78 rfl rfl (c_X6_isName_2_5 K hG.2.2.2.2.2.1 σ0  hO0 (by omega)) rfl rfl (Nat.le_of_ble_eq_true rfl) ⟨Nat.le_of_ble_eq_true rfl, Nat.le_of_ble_eq_true rfl, rfl, rfl⟩ (fun r16 σ17 h18 => ?_)
        obtain ⟨rfl, r16a, r16b, g19⟩ := h18
        refine zr_if_eq hB dX6_kindOfName_39 (tgt := 44) rfl (fun c20 => ?_) (fun c20 => ?_)
        · refine zr_aload_n hB 0 dX6_kindOfName_44 rfl ?_
          refine zr_ldcS hG 4 dX6_kindOfName_45 (by decide) rfl ?_
          refine zr_callvi hG (rest := []) 2 dX6_kindOfName_47 wm_X6_78 rfl rfl (c_X6_isName_2_6 K hG.2.2.2.2.2.1 σ0  hO0 (by omega)) rfl rfl (Nat.le_of_ble_eq_true rfl) ⟨Nat.le_of_ble_eq_true rfl, Nat.le_of_ble_eq_true rfl, rfl, rfl⟩ (fun r21 σ22 h23 => ?_)
          obtain ⟨rfl, r21a, r21b, g24⟩ := h23
          refine zr_if_eq hB dX6_kindOfName_50 (tgt := 57) rfl (fun c25 => ?_) (fun c25 => ?_)
          · refine zr_bipush hB dX6_kindOfName_57 rfl (fun c26 ec26 => ?_)
            exact zr_iret hG dX6_kindOfName_59 ⟨rfl, by omega, by omega, (by rw [zw_nm5 (zw_b0 g4 (by omega)) (zw_b0 g9 (by omega)) (zw_b0 g14 (by omega)) (zw_b0 g19 (by omega)) (zw_b0 g24 (by omega))]; omega)⟩
          refine zr_iconst hB dX6_kindOfName_53 rfl (fun c27 ec27 => ?_)
          refine zr_goto hB dX6_kindOfName_54 (tgt := 59) rfl ?_
          exact zr_iret hG dX6_kindOfName_59 ⟨rfl, by omega, by omega, (by rw [zw_nm4 (zw_b0 g4 (by omega)) (zw_b0 g9 (by omega)) (zw_b0 g14 (by omega)) (zw_b0 g19 (by omega)) (zw_b1 g24 (by omega))]; omega)⟩
        refine zr_iconst hB dX6_kindOfName_42 rfl (fun c28 ec28 => ?_)
        exact zr_iret hG dX6_kindOfName_43 ⟨rfl, by omega, by omega, (by rw [zw_nm3 (zw_b0 g4 (by omega)) (zw_b0 g9 (by omega)) (zw_b0 g14 (by omega)) (zw_b1 g19 (by omega))]; omega)⟩
      refine zr_iconst hB dX6_kindOfName_31 rfl (fun c29 ec29 => ?_)
      exact zr_iret hG dX6_kindOfName_32 ⟨rfl, by omega, by omega, (by rw [zw_nm2 (zw_b0 g4 (by omega)) (zw_b0 g9 (by omega)) (zw_b1 g14 (by omega))]; omega)⟩
    refine zr_iconst hB dX6_kindOfName_20 rfl (fun c30 ec30 => ?_)
    exact zr_iret hG dX6_kindOfName_21 ⟨rfl, by omega, by omega, (by rw [zw_nm1 (zw_b0 g4 (by omega)) (zw_b1 g9 (by omega))]; omega)⟩
  refine zr_iconst hB dX6_kindOfName_9 rfl (fun c31 ec31 => ?_)
  exact zr_iret hG dX6_kindOfName_10 ⟨rfl, by omega, by omega, (by rw [zw_nm0  (zw_b1 g4 (by omega))]; omega)⟩

def m_X6_expect_2 : zc_ms := [(2, some 3), (2, some 4), (2, some 5), (2, some 6)]
set_option maxHeartbeats 1000000 in
set_option maxRecDepth 100000 in
theorem c_X6_expect_2 (K : zc_K) (hi : zc_inj shX K.2.2.2.1) (σ0 : zc_S) (p1 : Int32) (hO0 : zc_O okX σ0)  : zc_M shX K yX6_expect cX6_expect 2 none (zrm 2 40) σ0 [.ref (zk K 2), .int p1] (zc_N (fun σ9 => zc_O okX σ9 ∧ zc_Ag m_X6_expect_2 σ0 σ9 ∧ zw_X σ9 = zw_chk p1.toInt (zw_adv (zw_bX σ0) (zw_X σ0)))) := by
  refine zc_start RX6 hi pfX6_expect rfl (Nat.le_of_ble_eq_true rfl) ?_
  intro G hG
  have hB := hG.1
  have hA0 : zc_Ag m_X6_expect_2 σ0 σ0 := zc_Ag.rf
  show zc_V 2 K G (zc_D shX K G σ0) [(0, .ref (zk K 2)), (1, .int p1)] 0 []
  refine zr_aload_n hB 0 dX6_expect_0 rfl ?_
  refine zr_geti' hG 2 3 (σ0.1 2 3) dX6_expect_1 rfl wf_X6_29 rfl rfl ?_
  have b1 : 0 ≤ (σ0.1 2 3).toInt ∧ (σ0.1 2 3).toInt ≤ 5 := ⟨(hO0 2 3).1, (hO0 2 3).2.1⟩
  have L11_3 : ∀ (σ2 : zc_S) , zc_O okX σ2 → zc_Ag m_X6_expect_2 σ0 σ2 → zw_X σ2 = zw_adv (zw_bX σ0) (zw_X σ0) → zc_V 2 K G (zc_D shX K G σ2) [(0, .ref (zk K 2)), (1, .int p1)] 11 [] := by
    intro σ2 hO2 hA2 hP
    refine zr_aload_n hB 0 dX6_expect_11 rfl ?_
    refine zr_geti' hG 2 3 (σ2.1 2 3) dX6_expect_12 rfl wf_X6_29 rfl rfl ?_
    have b4 : 0 ≤ (σ2.1 2 3).toInt ∧ (σ2.1 2 3).toInt ≤ 5 := ⟨(hO2 2 3).1, (hO2 2 3).2.1⟩
    refine zr_if_ne hB dX6_expect_15 (tgt := 31) rfl (fun c5 => ?_) (fun c5 => ?_)
    · exact zr_vret hG dX6_expect_31 ⟨hO2, hA2, (by rw [← hP]; exact (zw_chk_n (by first | exact Or.inl (show ¬ (σ2.1 2 3).toInt = 0 by omega) | exact Or.inr (show (σ2.1 2 4).toInt = p1.toInt by omega))).symm)⟩
    refine zr_aload_n hB 0 dX6_expect_18 rfl ?_
    refine zr_geti' hG 2 4 (σ2.1 2 4) dX6_expect_19 rfl wf_X6_38 rfl rfl ?_
    have b6 : 0 ≤ (σ2.1 2 4).toInt ∧ (σ2.1 2 4).toInt ≤ 3 := ⟨(hO2 2 4).1, (hO2 2 4).2.1⟩
    refine zr_iload_n hB 1 dX6_expect_22 rfl ?_
    refine zr_icmp_eq hB dX6_expect_23 (tgt := 31) rfl (fun c7 => ?_) (fun c7 => ?_)
    · exact zr_vret hG dX6_expect_31 ⟨hO2, hA2, (by rw [← hP]; exact (zw_chk_n (by first | exact Or.inl (show ¬ (σ2.1 2 3).toInt = 0 by omega) | exact Or.inr (show (σ2.1 2 4).toInt = p1.toInt by omega))).symm)⟩
    refine zr_aload_n hB 0 dX6_expect_26 rfl ?_
    refine zr_iconst hB dX6_expect_27 rfl (fun c8 ec8 => ?_)
    refine zr_puti hG 2 3 dX6_expect_28 rfl wp_X6_29 rfl ?_
    have hOw9 := zc_O.u hO2 2 3 (v := c8) (show 0 ≤ c8.toInt by omega) (show c8.toInt ≤ 5 by omega) (Or.inr (show 0 ≤ c8.toInt by omega))
    have hAw9 := zc_Ag.u hA2 2 3 c8 rfl
    exact zr_vret hG dX6_expect_31 ⟨hOw9, hAw9, (by rw [← hP, zw_chk_y (show (σ2.1 2 3).toInt = 0 by omega) (show ¬ (σ2.1 2 4).toInt = p1.toInt by omega)]; exact zw_X_f (show c8.toInt = 2 by omega))⟩
  refine zr_if_ne hB dX6_expect_4 (tgt := 11) rfl (fun c10 => ?_) (fun c10 => ?_)
  · exact L11_3 σ0 hO0 hA0 (show zw_X σ0 = zw_adv (zw_bX σ0) (zw_X σ0) by exact (zw_adv_n (show ¬ (σ0.1 2 3).toInt = 0 by omega)).symm)
  refine zr_aload_n hB 0 dX6_expect_7 rfl ?_
  refine zr_callvn hG (rest := []) 2 dX6_expect_8 wm_X6_35 rfl rfl (c_X6_advance_2 K hG.2.2.2.2.2.1 σ0  hO0 (by omega)) rfl rfl (Nat.le_of_ble_eq_true rfl) ⟨Nat.le_of_ble_eq_true rfl, Nat.le_of_ble_eq_true rfl, rfl, rfl⟩ (fun σ12 h13 => ?_)
  obtain ⟨hO14, hAc15, g16⟩ := h13
  have hA17 := zc_Ag.tr hA0 hAc15 rfl
  exact L11_3 σ12 hO14 hA17 (show zw_X σ12 = zw_adv (zw_bX σ0) (zw_X σ0) by exact g16.trans (zw_adv_0 (b := (zw_bX σ0)) (P := zw_X σ0) (show (σ0.1 2 3).toInt = 0 by omega)).symm)

def m_X6_readNumber_2 : zc_ms := [(2, some 3), (2, some 4), (2, some 5), (2, some 6)]
set_option maxHeartbeats 1000000 in
set_option maxRecDepth 100000 in
theorem c_X6_readNumber_2 (K : zc_K) (hi : zc_inj shX K.2.2.2.1) (σ0 : zc_S) (p1 : Int32) (hO0 : zc_O okX σ0) (h1a : 0 ≤ p1.toInt) (h1b : p1.toInt ≤ 4) : zc_M shX K yX6_readNumber cX6_readNumber 4 (some .int) (zrm 3 61) σ0 [.ref (zk K 2), .int p1] (zc_I (fun r9 σ9 => zc_O okX σ9 ∧ zc_Ag m_X6_readNumber_2 σ0 σ9 ∧ zw_X σ9 = zw_1 (zw_bX σ0) p1.toInt (zw_X σ0) ∧ r9.toInt = zw_v1 (zw_bX σ0) (zw_X σ0))) := by
  refine zc_start RX6 hi pfX6_readNumber rfl (Nat.le_of_ble_eq_true rfl) ?_
  intro G hG
  have hB := hG.1
  have hA0 : zc_Ag m_X6_readNumber_2 σ0 σ0 := zc_Ag.rf
  show zc_V 4 K G (zc_D shX K G σ0) [(0, .ref (zk K 2)), (1, .int p1)] 0 []
  refine zr_aload_n hB 0 dX6_readNumber_0 rfl ?_
  refine zr_iconst hB dX6_readNumber_1 rfl (fun c1 ec1 => ?_)
  refine zr_callvn hG (rest := []) 2 dX6_readNumber_2 wm_X6_52 rfl rfl (c_X6_expect_2 K hG.2.2.2.2.2.1 σ0 c1 hO0 ) rfl rfl (Nat.le_of_ble_eq_true rfl) ⟨Nat.le_of_ble_eq_true rfl, Nat.le_of_ble_eq_true rfl, rfl, rfl⟩ (fun σ3 h4 => ?_)
  obtain ⟨hO5, hAc6, g7⟩ := h4
  have hA8 := zc_Ag.tr hA0 hAc6 rfl
  have hP := g7
  rw [ec1] at hP
  refine zr_aload_n hB 0 dX6_readNumber_5 rfl ?_
  refine zr_geti' hG 2 3 (σ3.1 2 3) dX6_readNumber_6 rfl wf_X6_29 rfl rfl ?_
  have b9 : 0 ≤ (σ3.1 2 3).toInt ∧ (σ3.1 2 3).toInt ≤ 5 := ⟨(hO5 2 3).1, (hO5 2 3).2.1⟩
  refine zr_if_eq hB dX6_readNumber_9 (tgt := 14) rfl (fun c10 => ?_) (fun c10 => ?_)
  · have hg := zw_got (b := (zw_bX σ0)) (w := 2) (P := zw_X σ0) (by rw [← hP]; exact (show (σ3.1 2 3).toInt = 0 by omega))
    have hq : zw_X σ3 = zw_tk (zw_bX σ0) (σ0.1 2 6).toInt.toNat := hP.trans hg.2.2.2
    have hn5 : 0 ≤ (σ3.1 2 5).toInt := (hO5 2 5).1
    have hn6 : 0 ≤ (σ3.1 2 6).toInt ∧ (σ3.1 2 6).toInt ≤ 120 := ⟨(hO5 2 6).1, (hO5 2 6).2.1⟩
    have hnl : (σ0.1 2 1).toInt ≤ 120 := (hO0 2 1).2.1
    have h5 : (σ3.1 2 5).toInt = (((zw_s (zw_bX σ0) (σ0.1 2 6).toInt.toNat) : Nat) : Int) := zw_X_s hq hn5
    have h6 : (σ3.1 2 6).toInt = ((zw_e (zw_bX σ0) (σ0.1 2 6).toInt.toNat : Nat) : Int) := zw_X_e hq hn6.1
    have hk2 := zw_k2 (b := (zw_bX σ0)) (q := (σ0.1 2 6).toInt.toNat) hg.2.1
    have hd2 := zw_di_in (σ := σ0) (i := (zw_s (zw_bX σ0) (σ0.1 2 6).toInt.toNat)) (decide_eq_true hk2)
    have ht := zw_two (b := (zw_bX σ0)) (q := (σ0.1 2 6).toInt.toNat) hg.2.1 hg.2.2.1 (by omega)
    have he2 := zw_e2 (b := (zw_bX σ0)) (q := (σ0.1 2 6).toInt.toNat) hg.2.1
    refine zr_iconst hB dX6_readNumber_14 rfl (fun c11 ec11 => ?_)
    refine zr_istore_n hB dX6_readNumber_15 rfl (by decide) (lv' := [(2, .int c11), (0, .ref (zk K 2)), (1, .int p1)]) rfl ?_
    refine zr_aload_n hB 1 dX6_readNumber_16 rfl ?_
    refine zr_geti' hG 2 5 (σ3.1 2 5) dX6_readNumber_17 rfl wf_X6_60 rfl rfl ?_
    have b12 : 0 ≤ (σ3.1 2 5).toInt ∧ (σ3.1 2 5).toInt ≤ 120 := ⟨(hO5 2 5).1, (hO5 2 5).2.1⟩
    refine zr_istore_n hB dX6_readNumber_20 rfl (by decide) (lv' := [(3, .int (σ3.1 2 5)), (2, .int c11), (0, .ref (zk K 2)), (1, .int p1)]) rfl ?_
    have L21_16 : ∀ (n21 : Nat) (y2_13 : Int32) (y3_14 : Int32), 0 ≤ y2_13.toInt → y2_13.toInt ≤ 99 → 0 ≤ y3_14.toInt → y3_14.toInt ≤ 120 → (((y3_14.toInt = (((zw_s (zw_bX σ0) (σ0.1 2 6).toInt.toNat) : Nat) : Int) ∧ y2_13.toInt = 0) ∨ (y3_14.toInt = (((zw_s (zw_bX σ0) (σ0.1 2 6).toInt.toNat) : Nat) : Int) + 1 ∧ y2_13.toInt = (zw_bX σ0) (zw_s (zw_bX σ0) (σ0.1 2 6).toInt.toNat) - 48) ∨ (y3_14.toInt = (((zw_s (zw_bX σ0) (σ0.1 2 6).toInt.toNat) : Nat) : Int) + 2 ∧ y2_13.toInt = ((zw_bX σ0) (zw_s (zw_bX σ0) (σ0.1 2 6).toInt.toNat) - 48) * 10 + ((zw_bX σ0) ((zw_s (zw_bX σ0) (σ0.1 2 6).toInt.toNat) + 1) - 48)))) → y3_14.toInt ≤ ((zw_e (zw_bX σ0) (σ0.1 2 6).toInt.toNat : Nat) : Int) → 120 - y3_14.toInt < (n21 : Int) → zc_V 4 K G (zc_D shX K G σ3) [(0, .ref (zk K 2)), (1, .int p1), (2, .int y2_13), (3, .int y3_14)] 21 [] := by
      intro n21
      induction n21 with
      | zero => intro y2_13 y3_14 y2_13a y2_13b y3_14a y3_14b hvv e15 hn21; exfalso; omega
      | succ n21 ih21 =>
        intro y2_13 y3_14 y2_13a y2_13b y3_14a y3_14b hvv e15 hn21
        refine zr_iload_n hB 3 dX6_readNumber_21 rfl ?_
        refine zr_aload_n hB 0 dX6_readNumber_22 rfl ?_
        refine zr_geti' hG 2 6 (σ3.1 2 6) dX6_readNumber_23 rfl wf_X6_32 rfl rfl ?_
        have b17 : 0 ≤ (σ3.1 2 6).toInt ∧ (σ3.1 2 6).toInt ≤ 120 := ⟨(hO5 2 6).1, (hO5 2 6).2.1⟩
        refine zr_icmp_ge hB dX6_readNumber_26 (tgt := 50) rfl (fun c18 => ?_) (fun c18 => ?_)
        · have hv9 : y2_13.toInt = zw_v (zw_bX σ0) (zw_s (zw_bX σ0) (σ0.1 2 6).toInt.toNat) (zw_e (zw_bX σ0) (σ0.1 2 6).toInt.toNat) := by unfold zw_v; split <;> omega
          refine zr_iload_n hB 2 dX6_readNumber_50 rfl ?_
          refine zr_getsL hG dX6_readNumber_51 ws_X6_63 ?_
          refine zr_iload_n hB 1 dX6_readNumber_54 rfl ?_
          refine zr_taldL hG dX6_readNumber_55 (by omega) (by omega) (fun x19 ex19 => ?_)
          have hlo : x19.toInt = zw_lo p1.toInt := by rw [ex19]; rcases (show p1.toInt = 0 ∨ p1.toInt = 1 ∨ p1.toInt = 2 ∨ p1.toInt = 3 ∨ p1.toInt = 4 by omega) with h | h | h | h | h <;> rw [h] <;> decide
          refine zr_icmp_lt hB dX6_readNumber_56 (tgt := 68) rfl (fun c20 => ?_) (fun c20 => ?_)
          · refine zr_aload_n hB 0 dX6_readNumber_68 rfl ?_
            refine zr_iconst hB dX6_readNumber_69 rfl (fun c21 ec21 => ?_)
            refine zr_puti hG 2 3 dX6_readNumber_70 rfl wp_X6_29 rfl ?_
            have hOw22 := zc_O.u hO5 2 3 (v := c21) (show 0 ≤ c21.toInt by omega) (show c21.toInt ≤ 5 by omega) (Or.inr (show 0 ≤ c21.toInt by omega))
            have hAw22 := zc_Ag.u hA8 2 3 c21 rfl
            refine zr_iload_n hB 2 dX6_readNumber_73 rfl ?_
            exact zr_iret hG dX6_readNumber_74 ⟨hOw22, hAw22, (by unfold zw_1 zw_val; rw [← hP, if_pos (show (zw_X σ3).1 = 0 from (show (σ3.1 2 3).toInt = 0 by omega)), hq]; show _ = zw_rng (zw_v (zw_bX σ0) (zw_s (zw_bX σ0) (σ0.1 2 6).toInt.toNat) (zw_e (zw_bX σ0) (σ0.1 2 6).toInt.toNat)) (zw_lo p1.toInt) (zw_hi p1.toInt) (zw_tk (zw_bX σ0) (σ0.1 2 6).toInt.toNat); rw [zw_rng_y (P := (zw_tk (zw_bX σ0) (σ0.1 2 6).toInt.toNat)) hg.2.2.1 (show zw_v (zw_bX σ0) (zw_s (zw_bX σ0) (σ0.1 2 6).toInt.toNat) (zw_e (zw_bX σ0) (σ0.1 2 6).toInt.toNat) < zw_lo p1.toInt ∨ zw_hi p1.toInt < zw_v (zw_bX σ0) (zw_s (zw_bX σ0) (σ0.1 2 6).toInt.toNat) (zw_e (zw_bX σ0) (σ0.1 2 6).toInt.toNat) by omega), ← hq]; exact zw_X_f (show c21.toInt = 3 by omega)), (by unfold zw_v1 zw_val; rw [← hP, if_pos (show (zw_X σ3).1 = 0 from (show (σ3.1 2 3).toInt = 0 by omega)), hq]; exact hv9)⟩
          refine zr_iload_n hB 2 dX6_readNumber_59 rfl ?_
          refine zr_getsM hG dX6_readNumber_60 ws_X6_66 ?_
          refine zr_iload_n hB 1 dX6_readNumber_63 rfl ?_
          refine zr_taldM hG dX6_readNumber_64 (by omega) (by omega) (fun x23 ex23 => ?_)
          have hhi : x23.toInt = zw_hi p1.toInt := by rw [ex23]; rcases (show p1.toInt = 0 ∨ p1.toInt = 1 ∨ p1.toInt = 2 ∨ p1.toInt = 3 ∨ p1.toInt = 4 by omega) with h | h | h | h | h <;> rw [h] <;> decide
          refine zr_icmp_le hB dX6_readNumber_65 (tgt := 73) rfl (fun c24 => ?_) (fun c24 => ?_)
          · refine zr_iload_n hB 2 dX6_readNumber_73 rfl ?_
            exact zr_iret hG dX6_readNumber_74 ⟨hO5, hA8, (by unfold zw_1 zw_val; rw [← hP, if_pos (show (zw_X σ3).1 = 0 from (show (σ3.1 2 3).toInt = 0 by omega)), hq]; show _ = zw_rng (zw_v (zw_bX σ0) (zw_s (zw_bX σ0) (σ0.1 2 6).toInt.toNat) (zw_e (zw_bX σ0) (σ0.1 2 6).toInt.toNat)) (zw_lo p1.toInt) (zw_hi p1.toInt) (zw_tk (zw_bX σ0) (σ0.1 2 6).toInt.toNat); rw [zw_rng_n (P := (zw_tk (zw_bX σ0) (σ0.1 2 6).toInt.toNat)) (Or.inr (show zw_lo p1.toInt ≤ zw_v (zw_bX σ0) (zw_s (zw_bX σ0) (σ0.1 2 6).toInt.toNat) (zw_e (zw_bX σ0) (σ0.1 2 6).toInt.toNat) ∧ zw_v (zw_bX σ0) (zw_s (zw_bX σ0) (σ0.1 2 6).toInt.toNat) (zw_e (zw_bX σ0) (σ0.1 2 6).toInt.toNat) ≤ zw_hi p1.toInt by omega))]), (by unfold zw_v1 zw_val; rw [← hP, if_pos (show (zw_X σ3).1 = 0 from (show (σ3.1 2 3).toInt = 0 by omega)), hq]; exact hv9)⟩
          refine zr_aload_n hB 0 dX6_readNumber_68 rfl ?_
          refine zr_iconst hB dX6_readNumber_69 rfl (fun c25 ec25 => ?_)
          refine zr_puti hG 2 3 dX6_readNumber_70 rfl wp_X6_29 rfl ?_
          have hOw26 := zc_O.u hO5 2 3 (v := c25) (show 0 ≤ c25.toInt by omega) (show c25.toInt ≤ 5 by omega) (Or.inr (show 0 ≤ c25.toInt by omega))
          have hAw26 := zc_Ag.u hA8 2 3 c25 rfl
          refine zr_iload_n hB 2 dX6_readNumber_73 rfl ?_
          exact zr_iret hG dX6_readNumber_74 ⟨hOw26, hAw26, (by unfold zw_1 zw_val; rw [← hP, if_pos (show (zw_X σ3).1 = 0 from (show (σ3.1 2 3).toInt = 0 by omega)), hq]; show _ = zw_rng (zw_v (zw_bX σ0) (zw_s (zw_bX σ0) (σ0.1 2 6).toInt.toNat) (zw_e (zw_bX σ0) (σ0.1 2 6).toInt.toNat)) (zw_lo p1.toInt) (zw_hi p1.toInt) (zw_tk (zw_bX σ0) (σ0.1 2 6).toInt.toNat); rw [zw_rng_y (P := (zw_tk (zw_bX σ0) (σ0.1 2 6).toInt.toNat)) hg.2.2.1 (show zw_v (zw_bX σ0) (zw_s (zw_bX σ0) (σ0.1 2 6).toInt.toNat) (zw_e (zw_bX σ0) (σ0.1 2 6).toInt.toNat) < zw_lo p1.toInt ∨ zw_hi p1.toInt < zw_v (zw_bX σ0) (zw_s (zw_bX σ0) (σ0.1 2 6).toInt.toNat) (zw_e (zw_bX σ0) (σ0.1 2 6).toInt.toNat) by omega), ← hq]; exact zw_X_f (show c25.toInt = 3 by omega)), (by unfold zw_v1 zw_val; rw [← hP, if_pos (show (zw_X σ3).1 = 0 from (show (σ3.1 2 3).toInt = 0 by omega)), hq]; exact hv9)⟩
        have hdi := zw_di_in (σ := σ0) (i := y3_14.toInt.toNat) (zw_in (q := (zw_s (zw_bX σ0) (σ0.1 2 6).toInt.toNat)) (by omega) (by omega))
        refine zr_iload_n hB 2 dX6_readNumber_29 rfl ?_
        refine zr_bipush hB dX6_readNumber_30 rfl (fun c27 ec27 => ?_)
        refine zr_imulc hB dX6_readNumber_32 ec27 (by omega) (by omega) (fun x28 ex28 => ?_)
        refine zr_aload_n hB 0 dX6_readNumber_33 rfl ?_
        refine zr_getr hG 2 0 dX6_readNumber_34 rfl wf_X6_9 rfl ?_
        refine zr_iload_n hB 3 dX6_readNumber_37 rfl ?_
        refine zr_iald hG 17 dX6_readNumber_38 rfl (by omega) (by omega) (fun x29 ex29 => ?_)
        have bx29 : 0 ≤ x29.toInt ∧ x29.toInt ≤ 255 := by rw [ex29]; exact ⟨(hO5 17 _).1, (hO5 17 _).2.1⟩
        have hb : (zw_bX σ0) y3_14.toInt.toNat = x29.toInt := by rw [zw_bX_in hdi.1, ex29, (hA8 17 _ rfl).1]
        rw [hb] at hdi
        have hbb : (y3_14.toInt = (((zw_s (zw_bX σ0) (σ0.1 2 6).toInt.toNat) : Nat) : Int) ∧ (zw_bX σ0) (zw_s (zw_bX σ0) (σ0.1 2 6).toInt.toNat) = x29.toInt) ∨ (y3_14.toInt = (((zw_s (zw_bX σ0) (σ0.1 2 6).toInt.toNat) : Nat) : Int) + 1 ∧ (zw_bX σ0) ((zw_s (zw_bX σ0) (σ0.1 2 6).toInt.toNat) + 1) = x29.toInt) := by rcases (show y3_14.toInt = (((zw_s (zw_bX σ0) (σ0.1 2 6).toInt.toNat) : Nat) : Int) ∨ y3_14.toInt = (((zw_s (zw_bX σ0) (σ0.1 2 6).toInt.toNat) : Nat) : Int) + 1 by omega) with h | h; exact Or.inl ⟨h, by rw [show (zw_s (zw_bX σ0) (σ0.1 2 6).toInt.toNat) = y3_14.toInt.toNat by omega]; exact hb⟩; exact Or.inr ⟨h, by rw [show (zw_s (zw_bX σ0) (σ0.1 2 6).toInt.toNat) + 1 = y3_14.toInt.toNat by omega]; exact hb⟩
        refine zr_iadd hB dX6_readNumber_39 (by omega) (by omega) (fun x30 ex30 => ?_)
        refine zr_bipush hB dX6_readNumber_40 rfl (fun c31 ec31 => ?_)
        refine zr_isub hB dX6_readNumber_42 (by omega) (by omega) (fun x32 ex32 => ?_)
        refine zr_istore_n hB dX6_readNumber_43 rfl (by decide) (lv' := [(2, .int x32), (0, .ref (zk K 2)), (1, .int p1), (3, .int y3_14)]) rfl ?_
        refine zr_iinc hB 3 dX6_readNumber_44 rfl (by decide) rfl (by omega) (by omega) (fun x33 ex33 lv' hlv => ?_)
        obtain rfl : [(3, .int x33), (2, .int x32), (0, .ref (zk K 2)), (1, .int p1)] = lv' := hlv
        refine zr_goto hB dX6_readNumber_47 (tgt := 21) rfl ?_
        exact zc_sub [2, 3, 1, 0] rfl (ih21 x32 x33 (by omega) (by omega) (by omega) (by omega) (show ((x33.toInt = (((zw_s (zw_bX σ0) (σ0.1 2 6).toInt.toNat) : Nat) : Int) ∧ x32.toInt = 0) ∨ (x33.toInt = (((zw_s (zw_bX σ0) (σ0.1 2 6).toInt.toNat) : Nat) : Int) + 1 ∧ x32.toInt = (zw_bX σ0) (zw_s (zw_bX σ0) (σ0.1 2 6).toInt.toNat) - 48) ∨ (x33.toInt = (((zw_s (zw_bX σ0) (σ0.1 2 6).toInt.toNat) : Nat) : Int) + 2 ∧ x32.toInt = ((zw_bX σ0) (zw_s (zw_bX σ0) (σ0.1 2 6).toInt.toNat) - 48) * 10 + ((zw_bX σ0) ((zw_s (zw_bX σ0) (σ0.1 2 6).toInt.toNat) + 1) - 48))) by omega) (show x33.toInt ≤ ((zw_e (zw_bX σ0) (σ0.1 2 6).toInt.toNat : Nat) : Int) by omega) (by omega))
    exact zc_sub [2, 3, 1, 0] rfl (L21_16 122 c11 (σ3.1 2 5) (by omega) (by omega) (by omega) (by omega) (show (((σ3.1 2 5).toInt = (((zw_s (zw_bX σ0) (σ0.1 2 6).toInt.toNat) : Nat) : Int) ∧ c11.toInt = 0) ∨ ((σ3.1 2 5).toInt = (((zw_s (zw_bX σ0) (σ0.1 2 6).toInt.toNat) : Nat) : Int) + 1 ∧ c11.toInt = (zw_bX σ0) (zw_s (zw_bX σ0) (σ0.1 2 6).toInt.toNat) - 48) ∨ ((σ3.1 2 5).toInt = (((zw_s (zw_bX σ0) (σ0.1 2 6).toInt.toNat) : Nat) : Int) + 2 ∧ c11.toInt = ((zw_bX σ0) (zw_s (zw_bX σ0) (σ0.1 2 6).toInt.toNat) - 48) * 10 + ((zw_bX σ0) ((zw_s (zw_bX σ0) (σ0.1 2 6).toInt.toNat) + 1) - 48))) by omega) (show (σ3.1 2 5).toInt ≤ ((zw_e (zw_bX σ0) (σ0.1 2 6).toInt.toNat : Nat) : Int) by omega) (by omega))
  refine zr_iconst hB dX6_readNumber_12 rfl (fun c34 ec34 => ?_)
  exact zr_iret hG dX6_readNumber_13 ⟨hO5, hA8, (by unfold zw_1; rw [← hP]; exact (zw_rng_n (Or.inl (show ¬ (σ3.1 2 3).toInt = 0 by omega))).symm), (by unfold zw_v1 zw_val; rw [← hP, if_neg (show ¬ (zw_X σ3).1 = 0 from (show ¬ (σ3.1 2 3).toInt = 0 by omega))]; omega)⟩

def m_X6_readLine_2 : zc_ms := [(2, some 3), (2, some 4), (2, some 5), (2, some 6), (8, some 0), (40, none), (41, none), (42, none)]
set_option maxHeartbeats 1000000 in
set_option maxRecDepth 100000 in
theorem c_X6_readLine_2 (K : zc_K) (hi : zc_inj shX K.2.2.2.1) (σ0 : zc_S)  (hO0 : zc_O okX σ0) (hx0 : (σ0.1 2 3).toInt = 0) (hx1 : (σ0.1 2 6).toInt ≤ (σ0.1 2 1).toInt) : zc_M shX K yX6_readLine cX6_readLine 4 none (zrm 6 127) σ0 [.ref (zk K 2)] (zc_N (fun σ9 => zc_O okX σ9 ∧ zc_Ag m_X6_readLine_2 σ0 σ9 ∧ zw_X σ9 = (zw_one (zw_bX σ0) ((zw_X σ0), (zw_LX σ0))).1 ∧ zw_LX σ9 = (zw_one (zw_bX σ0) ((zw_X σ0), (zw_LX σ0))).2 ∧ ((σ9.1 8 0).toInt = (σ0.1 8 0).toInt + 1 ∨ ((σ9.1 8 0).toInt = (σ0.1 8 0).toInt ∧ ¬ (σ9.1 2 3).toInt = 0)))) := by
  refine zc_start RX6 hi pfX6_readLine rfl (Nat.le_of_ble_eq_true rfl) ?_
  intro G hG
  have hB := hG.1
  have hA0 : zc_Ag m_X6_readLine_2 σ0 σ0 := zc_Ag.rf
  show zc_V 4 K G (zc_D shX K G σ0) [(0, .ref (zk K 2))] 0 []
  have bw2_3 : 0 ≤ (σ0.1 2 3).toInt ∧ (σ0.1 2 3).toInt ≤ 5 := ⟨(hO0 2 3).1, (hO0 2 3).2.1⟩
  have bw8_0 : 0 ≤ (σ0.1 8 0).toInt ∧ (σ0.1 8 0).toInt ≤ 6 := ⟨(hO0 8 0).1, (hO0 8 0).2.1⟩
  refine zr_aload_n hB 0 dX6_readLine_0 rfl ?_
  refine zr_geti' hG 2 4 (σ0.1 2 4) dX6_readLine_1 rfl wf_X6_38 rfl rfl ?_
  have b1 : 0 ≤ (σ0.1 2 4).toInt ∧ (σ0.1 2 4).toInt ≤ 3 := ⟨(hO0 2 4).1, (hO0 2 4).2.1⟩
  refine zr_iconst hB dX6_readLine_4 rfl (fun c2 ec2 => ?_)
  refine zr_icmp_ne hB dX6_readLine_5 (tgt := 15) rfl (fun c3 => ?_) (fun c3 => ?_)
  · refine zr_bipush hB dX6_readLine_15 rfl (fun c4 ec4 => ?_)
    refine zr_istore_n hB dX6_readLine_17 rfl (by decide) (lv' := [(1, .int c4), (0, .ref (zk K 2))]) rfl ?_
    have hk : zw_kn (zw_bX σ0) (zw_X σ0) = c4.toInt := by unfold zw_kn; rw [if_neg (show ¬ (zw_X σ0).2.2.2 = 1 from (show ¬ (σ0.1 2 4).toInt = 1 by omega))]; omega
    refine zr_iload_n hB 0 dX6_readLine_18 rfl ?_
    refine zr_if_ge hB dX6_readLine_19 (tgt := 30) rfl (fun c5 => ?_) (fun c5 => ?_)
    · exfalso; omega
    have ho := zw_one_h (b := (zw_bX σ0)) (P := (zw_X σ0)) (L := (zw_LX σ0)) (f := 2) (by rw [hk]; show zw_hd _ (σ0.1 8 0).toInt = 2; unfold zw_hd; rw [if_pos (by omega)]) (by decide)
    refine zr_aload_n hB 1 dX6_readLine_22 rfl ?_
    refine zr_iconst hB dX6_readLine_23 rfl (fun c6 ec6 => ?_)
    refine zr_puti hG 2 3 dX6_readLine_24 rfl wp_X6_29 rfl ?_
    have hOw7 := zc_O.u hO0 2 3 (v := c6) (show 0 ≤ c6.toInt by omega) (show c6.toInt ≤ 5 by omega) (Or.inr (show 0 ≤ c6.toInt by omega))
    have hAw7 := zc_Ag.u hA0 2 3 c6 rfl
    refine zr_goto hB dX6_readLine_27 (tgt := 120) rfl ?_
    exact zr_vret hG dX6_readLine_120 ⟨hOw7, hAw7, (by rw [ho]; exact zw_X_f (show c6.toInt = 2 by omega)), (by rw [ho]; exact zw_LX_ag (zc_Ag.u (M := [(2, some 3)]) zc_Ag.rf 2 3 c6 rfl) rfl (fun _ => rfl) (fun _ => rfl) (fun _ => rfl)), (Or.inr ⟨rfl, (show ¬ c6.toInt = 0 by omega)⟩)⟩
  refine zr_aload_n hB 0 dX6_readLine_8 rfl ?_
  refine zr_callvi hG (rest := []) 2 dX6_readLine_9 wm_X6_44 rfl rfl (c_X6_kindOfName_2 K hG.2.2.2.2.2.1 σ0  hO0 (by omega)) rfl rfl (Nat.le_of_ble_eq_true rfl) ⟨Nat.le_of_ble_eq_true rfl, Nat.le_of_ble_eq_true rfl, rfl, rfl⟩ (fun r8 σ9 h10 => ?_)
  obtain ⟨rfl, r8a, r8b, g11⟩ := h10
  refine zr_goto hB dX6_readLine_12 (tgt := 17) rfl ?_
  refine zr_istore_n hB dX6_readLine_17 rfl (by decide) (lv' := [(1, .int r8), (0, .ref (zk K 2))]) rfl ?_
  have hk : zw_kn (zw_bX σ0) (zw_X σ0) = r8.toInt := by unfold zw_kn; rw [if_pos (show (zw_X σ0).2.2.2 = 1 from (show (σ0.1 2 4).toInt = 1 by omega))]; exact g11.symm
  refine zr_iload_n hB 0 dX6_readLine_18 rfl ?_
  refine zr_if_ge hB dX6_readLine_19 (tgt := 30) rfl (fun c12 => ?_) (fun c12 => ?_)
  · refine zr_aload_n hB 1 dX6_readLine_30 rfl ?_
    refine zr_getr hG 2 2 dX6_readLine_31 rfl wf_X6_18 rfl ?_
    refine zr_geti' hG 8 0 (σ0.1 8 0) dX6_readLine_34 rfl wf_X6_26 rfl rfl ?_
    refine zr_bipush hB dX6_readLine_37 rfl (fun c13 ec13 => ?_)
    refine zr_icmp_ne hB dX6_readLine_39 (tgt := 50) rfl (fun c14 => ?_) (fun c14 => ?_)
    · refine zr_iload_n hB 0 dX6_readLine_50 rfl ?_
      refine zr_iconst hB dX6_readLine_51 rfl (fun c15 ec15 => ?_)
      have L73_16 : zw_hd r8.toInt (σ0.1 8 0).toInt = 0 → zc_V 4 K G (zc_D shX K G σ0) [(0, .ref (zk K 2)), (1, .int r8)] 73 [] := by
        intro h73
        refine zr_aload_n hB 0 dX6_readLine_73 rfl ?_
        refine zr_iload_n hB 1 dX6_readLine_74 rfl ?_
        refine zr_callvi hG (rest := []) 2 dX6_readLine_75 wm_X6_48 rfl rfl (c_X6_readNumber_2 K hG.2.2.2.2.2.1 σ0 r8 hO0 (by omega) (by omega)) rfl rfl (Nat.le_of_ble_eq_true rfl) ⟨Nat.le_of_ble_eq_true rfl, Nat.le_of_ble_eq_true rfl, rfl, rfl⟩ (fun r17 σ18 h19 => ?_)
        obtain ⟨hO20, hAc21, g22, g23⟩ := h19
        have hA24 := zc_Ag.tr hA0 hAc21 rfl
        have q25 : (σ18.1 8 0).toInt = (σ0.1 8 0).toInt := congrArg Int32.toInt (hAc21 8 0 rfl).1
        have q1 := g22
        have w1 := g23
        have hk26 : zw_bX σ18 = zw_bX σ0 := zw_bX.ag hAc21 rfl (fun _ => rfl)
        have hb27 : zw_bX σ18 = (zw_bX σ0) := hk26
        have hk28 : zw_LX σ18 = zw_LX σ0 := zw_LX_ag hAc21 rfl (fun _ => rfl) (fun _ => rfl) (fun _ => rfl)
        have hL29 : zw_LX σ18 = (zw_LX σ0) := hk28
        refine zr_istore_n hB dX6_readLine_78 rfl (by decide) (lv' := [(2, .int r17), (0, .ref (zk K 2)), (1, .int r8)]) rfl ?_
        refine zr_iload_n hB 2 dX6_readLine_79 rfl ?_
        refine zr_iconst hB dX6_readLine_80 rfl (fun c30 ec30 => ?_)
        refine zr_icmp_ne hB dX6_readLine_81 (tgt := 92) rfl (fun c31 => ?_) (fun c31 => ?_)
        · refine zr_iconst hB dX6_readLine_92 rfl (fun c32 ec32 => ?_)
          refine zr_istore_n hB dX6_readLine_93 rfl (by decide) (lv' := [(3, .int c32), (2, .int r17), (0, .ref (zk K 2)), (1, .int r8)]) rfl ?_
          refine zr_aload_n hB 2 dX6_readLine_94 rfl ?_
          refine zr_iconst hB dX6_readLine_95 rfl (fun c33 ec33 => ?_)
          refine zr_callvn hG (rest := []) 2 dX6_readLine_96 wm_X6_52 rfl rfl (c_X6_expect_2 K hG.2.2.2.2.2.1 σ18 c33 hO20 ) rfl rfl (Nat.le_of_ble_eq_true rfl) ⟨Nat.le_of_ble_eq_true rfl, Nat.le_of_ble_eq_true rfl, rfl, rfl⟩ (fun σ35 h36 => ?_)
          obtain ⟨hO37, hAc38, g39⟩ := h36
          have hA40 := zc_Ag.tr hA24 hAc38 rfl
          have q41 : (σ35.1 8 0).toInt = (σ18.1 8 0).toInt := congrArg Int32.toInt (hAc38 8 0 rfl).1
          have q3 := g39
          rw [ec33, hb27, q1] at q3
          have hln : zw_X σ35 = zw_ln (zw_bX σ0) r8.toInt (zw_X σ0) := q3.trans (zw_lnn (by omega)).symm
          have hk42 : zw_bX σ35 = zw_bX σ18 := zw_bX.ag hAc38 rfl (fun _ => rfl)
          have hb43 : zw_bX σ35 = (zw_bX σ0) := hk42.trans hb27
          have hk44 : zw_LX σ35 = zw_LX σ18 := zw_LX_ag hAc38 rfl (fun _ => rfl) (fun _ => rfl) (fun _ => rfl)
          have hL45 : zw_LX σ35 = (zw_LX σ0) := hk44.trans hL29
          refine zr_aload_n hB 2 dX6_readLine_99 rfl ?_
          refine zr_geti' hG 2 3 (σ35.1 2 3) dX6_readLine_100 rfl wf_X6_29 rfl rfl ?_
          have b46 : 0 ≤ (σ35.1 2 3).toInt ∧ (σ35.1 2 3).toInt ≤ 5 := ⟨(hO37 2 3).1, (hO37 2 3).2.1⟩
          refine zr_if_ne hB dX6_readLine_103 (tgt := 120) rfl (fun c47 => ?_) (fun c47 => ?_)
          · exact zr_vret hG dX6_readLine_120 ⟨hO37, hA40, (by rw [(zw_one_f (b := (zw_bX σ0)) (P := (zw_X σ0)) (L := (zw_LX σ0)) hk h73 (by rw [← hln]; exact (show ¬ (σ35.1 2 3).toInt = 0 by omega)))]; exact hln), (by rw [(zw_one_f (b := (zw_bX σ0)) (P := (zw_X σ0)) (L := (zw_LX σ0)) hk h73 (by rw [← hln]; exact (show ¬ (σ35.1 2 3).toInt = 0 by omega)))]; exact hL45), (Or.inr ⟨congrArg Prod.fst hL45, (show ¬ (σ35.1 2 3).toInt = 0 by omega)⟩)⟩
          refine zr_aload_n hB 2 dX6_readLine_106 rfl ?_
          refine zr_getr hG 2 2 dX6_readLine_107 rfl wf_X6_18 rfl ?_
          refine zr_iload_n hB 3 dX6_readLine_110 rfl ?_
          refine zr_iload_n hB 1 dX6_readLine_111 rfl ?_
          refine zr_iload_n hB 0 dX6_readLine_112 rfl ?_
          refine zr_callvn hG (rest := []) 8 dX6_readLine_113 wm_X6_56 rfl rfl (c_X1_add_8 K hG.2.2.2.2.2.1 σ35 r8 r17 c32 hO37 (by omega) (by omega)) rfl rfl (Nat.le_of_ble_eq_true rfl) ⟨Nat.le_of_ble_eq_true rfl, Nat.le_of_ble_eq_true rfl, rfl, rfl⟩ (fun σ49 h50 => ?_)
          obtain ⟨hO51, hAc52, g53⟩ := h50
          have hA54 := zc_Ag.tr hA40 hAc52 rfl
          have q55 : (σ49.1 2 3).toInt = (σ35.1 2 3).toInt := congrArg Int32.toInt (hAc52 2 3 rfl).1
          have hk56 : zw_X σ49 = zw_X σ35 := zw_X_ag hAc52 rfl rfl rfl rfl
          have hk57 : zw_bX σ49 = zw_bX σ35 := zw_bX.ag hAc52 rfl (fun _ => rfl)
          have hb58 : zw_bX σ49 = (zw_bX σ0) := hk57.trans hb43
          have hput : zw_LX σ49 = _ := (zw_or g53 (by omega))
          rw [hL45] at hput
          refine zr_aload_n hB 2 dX6_readLine_116 rfl ?_
          refine zr_callvn hG (rest := []) 2 dX6_readLine_117 wm_X6_35 rfl rfl (c_X6_advance_2 K hG.2.2.2.2.2.1 σ49  hO51 (by omega)) rfl rfl (Nat.le_of_ble_eq_true rfl) ⟨Nat.le_of_ble_eq_true rfl, Nat.le_of_ble_eq_true rfl, rfl, rfl⟩ (fun σ60 h61 => ?_)
          obtain ⟨hO62, hAc63, g64⟩ := h61
          have hA65 := zc_Ag.tr hA54 hAc63 rfl
          have hk66 : zw_LX σ60 = zw_LX σ49 := zw_LX_ag hAc63 rfl (fun _ => rfl) (fun _ => rfl) (fun _ => rfl)
          have hL9 : zw_LX σ60 = _ := hk66.trans hput
          have q4 : zw_X σ60 = zw_adv (zw_bX σ0) (zw_ln (zw_bX σ0) r8.toInt (zw_X σ0)) := by rw [← hln, ← hk56, zw_adv_0 (show (σ49.1 2 3).toInt = 0 by omega), ← hb58]; exact g64
          exact zr_vret hG dX6_readLine_120 ⟨hO62, hA65, (by rw [(zw_one_y (b := (zw_bX σ0)) (P := (zw_X σ0)) (L := (zw_LX σ0)) hk h73 (by rw [← hln]; exact (show (σ35.1 2 3).toInt = 0 by omega)))]; exact q4), (by rw [(zw_one_y (b := (zw_bX σ0)) (P := (zw_X σ0)) (L := (zw_LX σ0)) hk h73 (by rw [← hln]; exact (show (σ35.1 2 3).toInt = 0 by omega))), hL9, ← w1, show zw_v2 (zw_bX σ0) r8.toInt (zw_1 (zw_bX σ0) r8.toInt (zw_X σ0)) = c32.toInt from (show c32.toInt = zw_v2 (zw_bX σ0) r8.toInt (zw_1 (zw_bX σ0) r8.toInt (zw_X σ0)) by unfold zw_v2; rw [if_neg (by omega)]; omega).symm]), (Or.inl (congrArg Prod.fst hL9))⟩
        refine zr_aload_n hB 1 dX6_readLine_84 rfl ?_
        refine zr_iload_n hB 2 dX6_readLine_85 rfl ?_
        refine zr_callvi hG (rest := []) 2 dX6_readLine_86 wm_X6_48 rfl rfl (c_X6_readNumber_2 K hG.2.2.2.2.2.1 σ18 r8 hO20 (by omega) (by omega)) rfl rfl (Nat.le_of_ble_eq_true rfl) ⟨Nat.le_of_ble_eq_true rfl, Nat.le_of_ble_eq_true rfl, rfl, rfl⟩ (fun r67 σ68 h69 => ?_)
        obtain ⟨hO70, hAc71, g72, g73⟩ := h69
        have hA74 := zc_Ag.tr hA24 hAc71 rfl
        have q75 : (σ68.1 8 0).toInt = (σ18.1 8 0).toInt := congrArg Int32.toInt (hAc71 8 0 rfl).1
        have q2 := g72
        have w2 := g73
        rw [hb27, q1] at q2 w2
        have hk76 : zw_bX σ68 = zw_bX σ18 := zw_bX.ag hAc71 rfl (fun _ => rfl)
        have hb77 : zw_bX σ68 = (zw_bX σ0) := hk76.trans hb27
        have hk78 : zw_LX σ68 = zw_LX σ18 := zw_LX_ag hAc71 rfl (fun _ => rfl) (fun _ => rfl) (fun _ => rfl)
        have hL79 : zw_LX σ68 = (zw_LX σ0) := hk78.trans hL29
        refine zr_goto hB dX6_readLine_89 (tgt := 93) rfl ?_
        refine zr_istore_n hB dX6_readLine_93 rfl (by decide) (lv' := [(3, .int r67), (2, .int r17), (0, .ref (zk K 2)), (1, .int r8)]) rfl ?_
        refine zr_aload_n hB 2 dX6_readLine_94 rfl ?_
        refine zr_iconst hB dX6_readLine_95 rfl (fun c80 ec80 => ?_)
        refine zr_callvn hG (rest := []) 2 dX6_readLine_96 wm_X6_52 rfl rfl (c_X6_expect_2 K hG.2.2.2.2.2.1 σ68 c80 hO70 ) rfl rfl (Nat.le_of_ble_eq_true rfl) ⟨Nat.le_of_ble_eq_true rfl, Nat.le_of_ble_eq_true rfl, rfl, rfl⟩ (fun σ82 h83 => ?_)
        obtain ⟨hO84, hAc85, g86⟩ := h83
        have hA87 := zc_Ag.tr hA74 hAc85 rfl
        have q88 : (σ82.1 8 0).toInt = (σ68.1 8 0).toInt := congrArg Int32.toInt (hAc85 8 0 rfl).1
        have q3 := g86
        rw [ec80, hb77, q2] at q3
        have hln : zw_X σ82 = zw_ln (zw_bX σ0) r8.toInt (zw_X σ0) := q3.trans (zw_ln2 (by omega)).symm
        have hk89 : zw_bX σ82 = zw_bX σ68 := zw_bX.ag hAc85 rfl (fun _ => rfl)
        have hb90 : zw_bX σ82 = (zw_bX σ0) := hk89.trans hb77
        have hk91 : zw_LX σ82 = zw_LX σ68 := zw_LX_ag hAc85 rfl (fun _ => rfl) (fun _ => rfl) (fun _ => rfl)
        have hL92 : zw_LX σ82 = (zw_LX σ0) := hk91.trans hL79
        refine zr_aload_n hB 2 dX6_readLine_99 rfl ?_
        refine zr_geti' hG 2 3 (σ82.1 2 3) dX6_readLine_100 rfl wf_X6_29 rfl rfl ?_
        have b93 : 0 ≤ (σ82.1 2 3).toInt ∧ (σ82.1 2 3).toInt ≤ 5 := ⟨(hO84 2 3).1, (hO84 2 3).2.1⟩
        refine zr_if_ne hB dX6_readLine_103 (tgt := 120) rfl (fun c94 => ?_) (fun c94 => ?_)
        · exact zr_vret hG dX6_readLine_120 ⟨hO84, hA87, (by rw [(zw_one_f (b := (zw_bX σ0)) (P := (zw_X σ0)) (L := (zw_LX σ0)) hk h73 (by rw [← hln]; exact (show ¬ (σ82.1 2 3).toInt = 0 by omega)))]; exact hln), (by rw [(zw_one_f (b := (zw_bX σ0)) (P := (zw_X σ0)) (L := (zw_LX σ0)) hk h73 (by rw [← hln]; exact (show ¬ (σ82.1 2 3).toInt = 0 by omega)))]; exact hL92), (Or.inr ⟨congrArg Prod.fst hL92, (show ¬ (σ82.1 2 3).toInt = 0 by omega)⟩)⟩
        refine zr_aload_n hB 2 dX6_readLine_106 rfl ?_
        refine zr_getr hG 2 2 dX6_readLine_107 rfl wf_X6_18 rfl ?_
        refine zr_iload_n hB 3 dX6_readLine_110 rfl ?_
        refine zr_iload_n hB 1 dX6_readLine_111 rfl ?_
        refine zr_iload_n hB 0 dX6_readLine_112 rfl ?_
        refine zr_callvn hG (rest := []) 8 dX6_readLine_113 wm_X6_56 rfl rfl (c_X1_add_8 K hG.2.2.2.2.2.1 σ82 r8 r17 r67 hO84 (by omega) (by omega)) rfl rfl (Nat.le_of_ble_eq_true rfl) ⟨Nat.le_of_ble_eq_true rfl, Nat.le_of_ble_eq_true rfl, rfl, rfl⟩ (fun σ96 h97 => ?_)
        obtain ⟨hO98, hAc99, g100⟩ := h97
        have hA101 := zc_Ag.tr hA87 hAc99 rfl
        have q102 : (σ96.1 2 3).toInt = (σ82.1 2 3).toInt := congrArg Int32.toInt (hAc99 2 3 rfl).1
        have hk103 : zw_X σ96 = zw_X σ82 := zw_X_ag hAc99 rfl rfl rfl rfl
        have hk104 : zw_bX σ96 = zw_bX σ82 := zw_bX.ag hAc99 rfl (fun _ => rfl)
        have hb105 : zw_bX σ96 = (zw_bX σ0) := hk104.trans hb90
        have hput : zw_LX σ96 = _ := (zw_or g100 (by omega))
        rw [hL92] at hput
        refine zr_aload_n hB 2 dX6_readLine_116 rfl ?_
        refine zr_callvn hG (rest := []) 2 dX6_readLine_117 wm_X6_35 rfl rfl (c_X6_advance_2 K hG.2.2.2.2.2.1 σ96  hO98 (by omega)) rfl rfl (Nat.le_of_ble_eq_true rfl) ⟨Nat.le_of_ble_eq_true rfl, Nat.le_of_ble_eq_true rfl, rfl, rfl⟩ (fun σ107 h108 => ?_)
        obtain ⟨hO109, hAc110, g111⟩ := h108
        have hA112 := zc_Ag.tr hA101 hAc110 rfl
        have hk113 : zw_LX σ107 = zw_LX σ96 := zw_LX_ag hAc110 rfl (fun _ => rfl) (fun _ => rfl) (fun _ => rfl)
        have hL9 : zw_LX σ107 = _ := hk113.trans hput
        have q4 : zw_X σ107 = zw_adv (zw_bX σ0) (zw_ln (zw_bX σ0) r8.toInt (zw_X σ0)) := by rw [← hln, ← hk103, zw_adv_0 (show (σ96.1 2 3).toInt = 0 by omega), ← hb105]; exact g111
        exact zr_vret hG dX6_readLine_120 ⟨hO109, hA112, (by rw [(zw_one_y (b := (zw_bX σ0)) (P := (zw_X σ0)) (L := (zw_LX σ0)) hk h73 (by rw [← hln]; exact (show (σ82.1 2 3).toInt = 0 by omega)))]; exact q4), (by rw [(zw_one_y (b := (zw_bX σ0)) (P := (zw_X σ0)) (L := (zw_LX σ0)) hk h73 (by rw [← hln]; exact (show (σ82.1 2 3).toInt = 0 by omega))), hL9, ← w1, show zw_v2 (zw_bX σ0) r8.toInt (zw_1 (zw_bX σ0) r8.toInt (zw_X σ0)) = r67.toInt from (show r67.toInt = zw_v2 (zw_bX σ0) r8.toInt (zw_1 (zw_bX σ0) r8.toInt (zw_X σ0)) by unfold zw_v2; rw [if_pos (by omega)]; exact w2).symm]), (Or.inl (congrArg Prod.fst hL9))⟩
      refine zr_icmp_ne hB dX6_readLine_52 (tgt := 73) rfl (fun c114 => ?_) (fun c114 => ?_)
      · exact zc_sub [1, 0] rfl (L73_16 (show zw_hd r8.toInt (σ0.1 8 0).toInt = 0 by unfold zw_hd; rw [if_neg (by omega), if_neg (by omega), if_neg (by omega)]))
      refine zr_aload_n hB 1 dX6_readLine_55 rfl ?_
      refine zr_getr hG 2 2 dX6_readLine_56 rfl wf_X6_18 rfl ?_
      refine zr_geti' hG 8 0 (σ0.1 8 0) dX6_readLine_59 rfl wf_X6_26 rfl rfl ?_
      refine zr_if_ne hB dX6_readLine_62 (tgt := 73) rfl (fun c115 => ?_) (fun c115 => ?_)
      · exact zc_sub [1, 0] rfl (L73_16 (show zw_hd r8.toInt (σ0.1 8 0).toInt = 0 by unfold zw_hd; rw [if_neg (by omega), if_neg (by omega), if_neg (by omega)]))
      have ho := zw_one_h (b := (zw_bX σ0)) (P := (zw_X σ0)) (L := (zw_LX σ0)) (f := 5) (by rw [hk]; show zw_hd _ (σ0.1 8 0).toInt = 5; unfold zw_hd; rw [if_neg (by omega), if_neg (by omega), if_pos (by omega)]) (by decide)
      refine zr_aload_n hB 1 dX6_readLine_65 rfl ?_
      refine zr_iconst hB dX6_readLine_66 rfl (fun c116 ec116 => ?_)
      refine zr_puti hG 2 3 dX6_readLine_67 rfl wp_X6_29 rfl ?_
      have hOw117 := zc_O.u hO0 2 3 (v := c116) (show 0 ≤ c116.toInt by omega) (show c116.toInt ≤ 5 by omega) (Or.inr (show 0 ≤ c116.toInt by omega))
      have hAw117 := zc_Ag.u hA0 2 3 c116 rfl
      refine zr_goto hB dX6_readLine_70 (tgt := 120) rfl ?_
      exact zr_vret hG dX6_readLine_120 ⟨hOw117, hAw117, (by rw [ho]; exact zw_X_f (show c116.toInt = 5 by omega)), (by rw [ho]; exact zw_LX_ag (zc_Ag.u (M := [(2, some 3)]) zc_Ag.rf 2 3 c116 rfl) rfl (fun _ => rfl) (fun _ => rfl) (fun _ => rfl)), (Or.inr ⟨rfl, (show ¬ c116.toInt = 0 by omega)⟩)⟩
    have ho := zw_one_h (b := (zw_bX σ0)) (P := (zw_X σ0)) (L := (zw_LX σ0)) (f := 4) (by rw [hk]; show zw_hd _ (σ0.1 8 0).toInt = 4; unfold zw_hd; rw [if_neg (by omega), if_pos (by omega)]) (by decide)
    refine zr_aload_n hB 1 dX6_readLine_42 rfl ?_
    refine zr_iconst hB dX6_readLine_43 rfl (fun c118 ec118 => ?_)
    refine zr_puti hG 2 3 dX6_readLine_44 rfl wp_X6_29 rfl ?_
    have hOw119 := zc_O.u hO0 2 3 (v := c118) (show 0 ≤ c118.toInt by omega) (show c118.toInt ≤ 5 by omega) (Or.inr (show 0 ≤ c118.toInt by omega))
    have hAw119 := zc_Ag.u hA0 2 3 c118 rfl
    refine zr_goto hB dX6_readLine_47 (tgt := 120) rfl ?_
    exact zr_vret hG dX6_readLine_120 ⟨hOw119, hAw119, (by rw [ho]; exact zw_X_f (show c118.toInt = 4 by omega)), (by rw [ho]; exact zw_LX_ag (zc_Ag.u (M := [(2, some 3)]) zc_Ag.rf 2 3 c118 rfl) rfl (fun _ => rfl) (fun _ => rfl) (fun _ => rfl)), (Or.inr ⟨rfl, (show ¬ c118.toInt = 0 by omega)⟩)⟩
  have ho := zw_one_h (b := (zw_bX σ0)) (P := (zw_X σ0)) (L := (zw_LX σ0)) (f := 2) (by rw [hk]; show zw_hd _ (σ0.1 8 0).toInt = 2; unfold zw_hd; rw [if_pos (by omega)]) (by decide)
  refine zr_aload_n hB 1 dX6_readLine_22 rfl ?_
  refine zr_iconst hB dX6_readLine_23 rfl (fun c120 ec120 => ?_)
  refine zr_puti hG 2 3 dX6_readLine_24 rfl wp_X6_29 rfl ?_
  have hOw121 := zc_O.u hO0 2 3 (v := c120) (show 0 ≤ c120.toInt by omega) (show c120.toInt ≤ 5 by omega) (Or.inr (show 0 ≤ c120.toInt by omega))
  have hAw121 := zc_Ag.u hA0 2 3 c120 rfl
  refine zr_goto hB dX6_readLine_27 (tgt := 120) rfl ?_
  exact zr_vret hG dX6_readLine_120 ⟨hOw121, hAw121, (by rw [ho]; exact zw_X_f (show c120.toInt = 2 by omega)), (by rw [ho]; exact zw_LX_ag (zc_Ag.u (M := [(2, some 3)]) zc_Ag.rf 2 3 c120 rfl) rfl (fun _ => rfl) (fun _ => rfl) (fun _ => rfl)), (Or.inr ⟨rfl, (show ¬ c120.toInt = 0 by omega)⟩)⟩

def m_X6_readAll_2 : zc_ms := [(2, some 3), (2, some 4), (2, some 5), (2, some 6), (8, some 0), (40, none), (41, none), (42, none)]
set_option maxHeartbeats 1000000 in
set_option maxRecDepth 100000 in
theorem c_X6_readAll_2 (K : zc_K) (hi : zc_inj shX K.2.2.2.1) (σ0 : zc_S)  (hO0 : zc_O okX σ0)  : zc_M shX K yX6_readAll cX6_readAll 2 none (zrm 7 150) σ0 [.ref (zk K 2)] (zc_N (fun σ9 => zc_O okX σ9 ∧ zc_Ag m_X6_readAll_2 σ0 σ9 ∧ zw_X σ9 = (zw_rX σ0).1 ∧ zw_LX σ9 = (zw_rX σ0).2)) := by
  refine zc_start RX6 hi pfX6_readAll rfl (Nat.le_of_ble_eq_true rfl) ?_
  intro G hG
  have hB := hG.1
  have hA0 : zc_Ag m_X6_readAll_2 σ0 σ0 := zc_Ag.rf
  show zc_V 2 K G (zc_D shX K G σ0) [(0, .ref (zk K 2))] 0 []
  have bw2_1 : 0 ≤ (σ0.1 2 1).toInt ∧ (σ0.1 2 1).toInt ≤ 120 := ⟨(hO0 2 1).1, (hO0 2 1).2.1⟩
  have bw2_3 : 0 ≤ (σ0.1 2 3).toInt ∧ (σ0.1 2 3).toInt ≤ 5 := ⟨(hO0 2 3).1, (hO0 2 3).2.1⟩
  have bw2_4 : 0 ≤ (σ0.1 2 4).toInt ∧ (σ0.1 2 4).toInt ≤ 3 := ⟨(hO0 2 4).1, (hO0 2 4).2.1⟩
  have bw2_6 : 0 ≤ (σ0.1 2 6).toInt ∧ (σ0.1 2 6).toInt ≤ 120 := ⟨(hO0 2 6).1, (hO0 2 6).2.1⟩
  have bw8_0 : 0 ≤ (σ0.1 8 0).toInt ∧ (σ0.1 8 0).toInt ≤ 6 := ⟨(hO0 8 0).1, (hO0 8 0).2.1⟩
  refine zr_aload_n hB 0 dX6_readAll_0 rfl ?_
  refine zr_getr hG 2 2 dX6_readAll_1 rfl wf_X6_18 rfl ?_
  refine zr_iconst hB dX6_readAll_4 rfl (fun c1 ec1 => ?_)
  refine zr_puti hG 8 0 dX6_readAll_5 rfl wp_X6_26 rfl ?_
  have hOw2 := zc_O.u hO0 8 0 (v := c1) (show 0 ≤ c1.toInt by omega) (show c1.toInt ≤ 6 by omega) (Or.inr (show 0 ≤ c1.toInt by omega))
  have hAw2 := zc_Ag.u hA0 8 0 c1 rfl
  refine zr_aload_n hB 0 dX6_readAll_8 rfl ?_
  refine zr_iconst hB dX6_readAll_9 rfl (fun c3 ec3 => ?_)
  refine zr_puti hG 2 3 dX6_readAll_10 rfl wp_X6_29 rfl ?_
  have hOw4 := zc_O.u hOw2 2 3 (v := c3) (show 0 ≤ c3.toInt by omega) (show c3.toInt ≤ 5 by omega) (Or.inr (show 0 ≤ c3.toInt by omega))
  have hAw4 := zc_Ag.u hAw2 2 3 c3 rfl
  refine zr_aload_n hB 0 dX6_readAll_13 rfl ?_
  refine zr_iconst hB dX6_readAll_14 rfl (fun c5 ec5 => ?_)
  refine zr_puti hG 2 6 dX6_readAll_15 rfl wp_X6_32 rfl ?_
  have hOw6 := zc_O.u hOw4 2 6 (v := c5) (show 0 ≤ c5.toInt by omega) (show c5.toInt ≤ 120 by omega) (Or.inr (show 0 ≤ c5.toInt by omega))
  have hAw6 := zc_Ag.u hAw4 2 6 c5 rfl
  refine zr_aload_n hB 0 dX6_readAll_18 rfl ?_
  refine zr_callvn hG (rest := []) 2 dX6_readAll_19 wm_X6_35 rfl rfl (c_X6_advance_2 K hG.2.2.2.2.2.1 (zc_u (zc_u (zc_u σ0 8 0 c1) 2 3 c3) 2 6 c5)  hOw6 (show c3.toInt = 0 by omega)) rfl rfl (Nat.le_of_ble_eq_true rfl) ⟨Nat.le_of_ble_eq_true rfl, Nat.le_of_ble_eq_true rfl, rfl, rfl⟩ (fun σ8 h9 => ?_)
  obtain ⟨hO10, hAc11, g12⟩ := h9
  have hA13 := zc_Ag.tr hAw6 hAc11 rfl
  have q14 : (σ8.1 2 1).toInt = (σ0.1 2 1).toInt := congrArg Int32.toInt (hAc11 2 1 rfl).1
  have q15 : (σ8.1 8 0).toInt = c1.toInt := congrArg Int32.toInt (hAc11 8 0 rfl).1
  have q0 : zw_X σ8 = zw_tk (zw_bX σ0) 0 := by have h8 : zw_X σ8 = zw_tk (zw_bX σ0) c5.toInt.toNat := g12; rw [h8, show c5.toInt.toNat = 0 by omega]
  have hL0 : zw_LX σ8 = zw_LX0 σ0 := (zw_LX_ag hAc11 rfl (fun _ => rfl) (fun _ => rfl) (fun _ => rfl)).trans (by show (c1.toInt, _) = _; rw [show c1.toInt = 0 by omega]; rfl)
  have hl0 : 0 ≤ (σ0.1 2 1).toInt := (hO0 2 1).1
  have h60 : (σ8.1 2 6).toInt = ((zw_e (zw_bX σ0) 0 : Nat) : Int) := zw_X_e q0 (hO10 2 6).1
  have hel := zw_e_len (σ := σ0) (q := 0) (by omega)
  refine zr_bipush hB dX6_readAll_22 rfl (fun c16 ec16 => ?_)
  refine zr_istore_n hB dX6_readAll_24 rfl (by decide) (lv' := [(1, .int c16), (0, .ref (zk K 2))]) rfl ?_
  have L25_24 : ∀ (n25 : Nat) (σ18 : zc_S) (y1_17 : Int32), zc_O okX σ18 → zc_Ag m_X6_readAll_2 σ0 σ18 → 0 ≤ y1_17.toInt → y1_17.toInt ≤ 120 → zw_it (zw_bX σ0) (8 - (σ18.1 8 0).toInt).toNat (zw_X σ18, zw_LX σ18) = (zw_rX σ0) → (σ18.1 2 6).toInt ≤ (σ0.1 2 1).toInt → (σ18.1 2 1).toInt = (σ0.1 2 1).toInt → ((¬ (σ18.1 2 3).toInt = 0 ∨ 120 ≤ y1_17.toInt + (σ18.1 8 0).toInt)) → 0 ≤ (σ18.1 8 0).toInt → (σ18.1 8 0).toInt ≤ 6 → y1_17.toInt - 0 < (n25 : Int) → zc_V 2 K G (zc_D shX K G σ18) [(0, .ref (zk K 2)), (1, .int y1_17)] 25 [] := by
    intro n25
    induction n25 with
    | zero => intro σ18 y1_17 hO18 hA18 y1_17a y1_17b hr e19 e20 e21 e22 e23 hn25; exfalso; omega
    | succ n25 ih25 =>
      intro σ18 y1_17 hO18 hA18 y1_17a y1_17b hr e19 e20 e21 e22 e23 hn25
      refine zr_iload_n hB 1 dX6_readAll_25 rfl ?_
      refine zr_if_le hB dX6_readAll_26 (tgt := 53) rfl (fun c25 => ?_) (fun c25 => ?_)
      · exact zr_vret hG dX6_readAll_53 ⟨hO18, hA18, (by have h9 := hr; rw [zw_itn (by rintro ⟨a, b⟩; have a' : (σ18.1 2 3).toInt = 0 := a; have b' : ¬ (σ18.1 2 4).toInt = 0 := b; omega)] at h9; exact congrArg Prod.fst h9), (by have h9 := hr; rw [zw_itn (by rintro ⟨a, b⟩; have a' : (σ18.1 2 3).toInt = 0 := a; have b' : ¬ (σ18.1 2 4).toInt = 0 := b; omega)] at h9; exact congrArg Prod.snd h9)⟩
      refine zr_aload_n hB 0 dX6_readAll_29 rfl ?_
      refine zr_geti' hG 2 3 (σ18.1 2 3) dX6_readAll_30 rfl wf_X6_29 rfl rfl ?_
      have b26 : 0 ≤ (σ18.1 2 3).toInt ∧ (σ18.1 2 3).toInt ≤ 5 := ⟨(hO18 2 3).1, (hO18 2 3).2.1⟩
      refine zr_if_ne hB dX6_readAll_33 (tgt := 53) rfl (fun c27 => ?_) (fun c27 => ?_)
      · exact zr_vret hG dX6_readAll_53 ⟨hO18, hA18, (by have h9 := hr; rw [zw_itn (by rintro ⟨a, b⟩; have a' : (σ18.1 2 3).toInt = 0 := a; have b' : ¬ (σ18.1 2 4).toInt = 0 := b; omega)] at h9; exact congrArg Prod.fst h9), (by have h9 := hr; rw [zw_itn (by rintro ⟨a, b⟩; have a' : (σ18.1 2 3).toInt = 0 := a; have b' : ¬ (σ18.1 2 4).toInt = 0 := b; omega)] at h9; exact congrArg Prod.snd h9)⟩
      refine zr_aload_n hB 0 dX6_readAll_36 rfl ?_
      refine zr_geti' hG 2 4 (σ18.1 2 4) dX6_readAll_37 rfl wf_X6_38 rfl rfl ?_
      have b28 : 0 ≤ (σ18.1 2 4).toInt ∧ (σ18.1 2 4).toInt ≤ 3 := ⟨(hO18 2 4).1, (hO18 2 4).2.1⟩
      refine zr_if_eq hB dX6_readAll_40 (tgt := 53) rfl (fun c29 => ?_) (fun c29 => ?_)
      · exact zr_vret hG dX6_readAll_53 ⟨hO18, hA18, (by have h9 := hr; rw [zw_itn (by rintro ⟨a, b⟩; have a' : (σ18.1 2 3).toInt = 0 := a; have b' : ¬ (σ18.1 2 4).toInt = 0 := b; omega)] at h9; exact congrArg Prod.fst h9), (by have h9 := hr; rw [zw_itn (by rintro ⟨a, b⟩; have a' : (σ18.1 2 3).toInt = 0 := a; have b' : ¬ (σ18.1 2 4).toInt = 0 := b; omega)] at h9; exact congrArg Prod.snd h9)⟩
      have hbz : zw_bX σ18 = (zw_bX σ0) := zw_bX.ag hA18 rfl (fun _ => rfl)
      refine zr_aload_n hB 0 dX6_readAll_43 rfl ?_
      refine zr_callvn hG (rest := []) 2 dX6_readAll_44 wm_X6_41 rfl rfl (c_X6_readLine_2 K hG.2.2.2.2.2.1 σ18  hO18 (by omega) (by omega)) rfl rfl (Nat.le_of_ble_eq_true rfl) ⟨Nat.le_of_ble_eq_true rfl, Nat.le_of_ble_eq_true rfl, rfl, rfl⟩ (fun σ31 h32 => ?_)
      obtain ⟨hO33, hAc34, g35, g36, g37⟩ := h32
      have hA38 := zc_Ag.tr hA18 hAc34 rfl
      have q39 : (σ31.1 2 1).toInt = (σ18.1 2 1).toInt := congrArg Int32.toInt (hAc34 2 1 rfl).1
      have hbl : (σ31.1 2 6).toInt ≤ (σ0.1 2 1).toInt := by have h9 := zw_one_len (σ := σ0) (S := (zw_X σ18, zw_LX σ18)) (show (((σ18.1 2 6).toInt.toNat : Nat) : Int) ≤ _ by omega); rw [← hbz, ← g35] at h9; have h7 : 0 ≤ (σ31.1 2 6).toInt := (hO33 2 6).1; have h8 : (((σ31.1 2 6).toInt.toNat : Nat) : Int) ≤ (σ0.1 2 1).toInt := h9; omega
      have hbm : (σ31.1 2 1).toInt = (σ0.1 2 1).toInt := by rw [(hA38 2 1 rfl).1]
      refine zr_iinc hB 1 dX6_readAll_47 rfl (by decide) rfl (by omega) (by omega) (fun x40 ex40 lv' hlv => ?_)
      obtain rfl : [(1, .int x40), (0, .ref (zk K 2))] = lv' := hlv
      refine zr_goto hB dX6_readAll_50 (tgt := 25) rfl ?_
      have b41 : 0 ≤ (σ31.1 8 0).toInt ∧ (σ31.1 8 0).toInt ≤ 6 := ⟨(hO33 8 0).1, (hO33 8 0).2.1⟩
      have b42 : 0 ≤ (σ31.1 2 6).toInt ∧ (σ31.1 2 6).toInt ≤ 120 := ⟨(hO33 2 6).1, (hO33 2 6).2.1⟩
      have b43 : 0 ≤ (σ31.1 2 1).toInt ∧ (σ31.1 2 1).toInt ≤ 120 := ⟨(hO33 2 1).1, (hO33 2 1).2.1⟩
      have b44 : 0 ≤ (σ31.1 2 3).toInt ∧ (σ31.1 2 3).toInt ≤ 5 := ⟨(hO33 2 3).1, (hO33 2 3).2.1⟩
      exact zc_sub [1, 0] rfl (ih25 σ31 x40 hO33 hA38 (by omega) (by omega) (show zw_it (zw_bX σ0) (8 - (σ31.1 8 0).toInt).toNat (zw_X σ31, zw_LX σ31) = (zw_rX σ0) by exact zw_step hr (Prod.ext (by rw [← hbz]; exact g35) (by rw [← hbz]; exact g36)) (show (σ18.1 2 3).toInt = 0 by omega) (show ¬ (σ18.1 2 4).toInt = 0 by omega) (by omega) (by rcases g37 with h9 | ⟨h9, h8⟩; exact Or.inl (by omega); exact Or.inr (show ¬ (σ31.1 2 3).toInt = 0 by omega))) (show (σ31.1 2 6).toInt ≤ (σ0.1 2 1).toInt by omega) (show (σ31.1 2 1).toInt = (σ0.1 2 1).toInt by omega) (show (¬ (σ31.1 2 3).toInt = 0 ∨ 120 ≤ x40.toInt + (σ31.1 8 0).toInt) by omega) (show 0 ≤ (σ31.1 8 0).toInt by omega) (show (σ31.1 8 0).toInt ≤ 6 by omega) (by omega))
  have b45 : 0 ≤ (σ8.1 8 0).toInt ∧ (σ8.1 8 0).toInt ≤ 6 := ⟨(hO10 8 0).1, (hO10 8 0).2.1⟩
  have b46 : 0 ≤ (σ8.1 2 6).toInt ∧ (σ8.1 2 6).toInt ≤ 120 := ⟨(hO10 2 6).1, (hO10 2 6).2.1⟩
  have b47 : 0 ≤ (σ8.1 2 1).toInt ∧ (σ8.1 2 1).toInt ≤ 120 := ⟨(hO10 2 1).1, (hO10 2 1).2.1⟩
  have b48 : 0 ≤ (σ8.1 2 3).toInt ∧ (σ8.1 2 3).toInt ≤ 5 := ⟨(hO10 2 3).1, (hO10 2 3).2.1⟩
  exact zc_sub [1, 0] rfl (L25_24 122 σ8 c16 hO10 hA13 (by omega) (by omega) (show zw_it (zw_bX σ0) (8 - (σ8.1 8 0).toInt).toNat (zw_X σ8, zw_LX σ8) = (zw_rX σ0) by unfold zw_rX; rw [show (8 - (σ8.1 8 0).toInt).toNat = 8 by omega, hL0, q0]) (show (σ8.1 2 6).toInt ≤ (σ0.1 2 1).toInt by omega) (show (σ8.1 2 1).toInt = (σ0.1 2 1).toInt by omega) (show (¬ (σ8.1 2 3).toInt = 0 ∨ 120 ≤ c16.toInt + (σ8.1 8 0).toInt) by omega) (show 0 ≤ (σ8.1 8 0).toInt by omega) (show (σ8.1 8 0).toInt ≤ 6 by omega) (by omega))

def m_X3_playPlain_4 : zc_ms := [(21, none), (9, some 2), (43, none)]
set_option maxHeartbeats 1000000 in
set_option maxRecDepth 100000 in
theorem c_X3_playPlain_4 (K : zc_K) (hi : zc_inj shX K.2.2.2.1) (σ0 : zc_S) (p1 : Int32) (p2 : Int32) (p3 : Int32) (p4 : Int32) (hO0 : zc_O okX σ0) (h1a : 0 ≤ p1.toInt) (h1b : p1.toInt ≤ 5) (h2a : 0 ≤ p2.toInt) (h2b : p2.toInt ≤ 6) (h3a : 0 ≤ p3.toInt) (h4b : p4.toInt ≤ 63) : zc_M shX K yX3_playPlain cX3_playPlain 8 none (zrm 4 107) σ0 [.ref (zk K 4), .int p1, .int p2, .int p3, .int p4] (zc_N (fun σ9 => zc_O okX σ9 ∧ zc_Ag m_X3_playPlain_4 σ0 σ9 ∧ zc_hid ((1 ≤ (σ0.1 4 4).toInt → zp_Q σ0 σ9 (σ0.1 4 3).toInt (σ0.1 4 4).toInt p1.toInt p2.toInt p3.toInt (p4.toInt + 1) p1.toInt)))) := by
  refine zc_start RX3 hi pfX3_playPlain rfl (Nat.le_of_ble_eq_true rfl) ?_
  intro G hG
  have hB := hG.1
  have hA0 : zc_Ag m_X3_playPlain_4 σ0 σ0 := zc_Ag.rf
  show zc_V 8 K G (zc_D shX K G σ0) [(0, .ref (zk K 4)), (1, .int p1), (2, .int p2), (3, .int p3), (4, .int p4)] 0 []
  have bw4_3 : 0 ≤ (σ0.1 4 3).toInt ∧ (σ0.1 4 3).toInt ≤ 3 := ⟨(hO0 4 3).1, (hO0 4 3).2.1⟩
  have bw4_4 : 0 ≤ (σ0.1 4 4).toInt ∧ (σ0.1 4 4).toInt ≤ 14 := ⟨(hO0 4 4).1, (hO0 4 4).2.1⟩
  refine zr_iload_n hB 3 dX3_playPlain_0 rfl ?_
  refine zr_istore hB dX3_playPlain_1 (by decide) (lv' := [(5, .int p3), (0, .ref (zk K 4)), (1, .int p1), (2, .int p2), (3, .int p3), (4, .int p4)]) rfl ?_
  have L3_4 : ∀ (n3 : Nat) (σ2 : zc_S) (y5_1 : Int32), zc_O okX σ2 → zc_Ag m_X3_playPlain_4 σ0 σ2 → 0 ≤ y5_1.toInt → p3.toInt ≤ y5_1.toInt → (zc_hid ((1 ≤ (σ0.1 4 4).toInt → zp_Q σ0 σ2 (σ0.1 4 3).toInt (σ0.1 4 4).toInt p1.toInt p2.toInt p3.toInt y5_1.toInt p1.toInt))) → 2147483647 - y5_1.toInt < (n3 : Int) → zc_V 8 K G (zc_D shX K G σ2) [(0, .ref (zk K 4)), (1, .int p1), (2, .int p2), (3, .int p3), (4, .int p4), (5, .int y5_1)] 3 [] := by
    intro n3
    induction n3 with
    | zero => intro σ2 y5_1 hO2 hA2 y5_1a e3 hQ hn3; have vy5_1 := And.intro (zn_lo y5_1) (zn_hi y5_1); exfalso; omega
    | succ n3 ih3 =>
      intro σ2 y5_1 hO2 hA2 y5_1a e3 hQ hn3
      have vy5_1 := And.intro (zn_lo y5_1) (zn_hi y5_1)
      refine zr_iload hB 5 dX3_playPlain_3 rfl ?_
      refine zr_iload hB 4 dX3_playPlain_5 rfl ?_
      refine zr_icmp_gt hB dX3_playPlain_7 (tgt := 102) rfl (fun c5 => ?_) (fun c5 => ?_)
      · exact zr_vret hG dX3_playPlain_102 ⟨hO2, hA2, (fun hh => zp_Qm (hQ hh) (by omega) (by omega))⟩
      refine zr_aload_n hB 0 dX3_playPlain_10 rfl ?_
      refine zr_getr hG 4 2 dX3_playPlain_11 rfl wf_X3_37 rfl ?_
      refine zr_aload_n hB 0 dX3_playPlain_14 rfl ?_
      refine zr_geti' hG 4 3 (σ2.1 4 3) dX3_playPlain_15 rfl wf_X3_41 rfl rfl ?_
      have b6 : 0 ≤ (σ2.1 4 3).toInt ∧ (σ2.1 4 3).toInt ≤ 3 := ⟨(hO2 4 3).1, (hO2 4 3).2.1⟩
      refine zr_iload hB 5 dX3_playPlain_18 rfl ?_
      have h43 : (σ2.1 4 3).toInt = (σ0.1 4 3).toInt := by rw [(hA2 4 3 rfl).1]
      refine zr_callvn hG (rest := []) 9 dX3_playPlain_20 wm_X3_72 rfl rfl (c_X7_open_9 K hG.2.2.2.2.2.1 σ2 (σ2.1 4 3) y5_1 hO2 (by omega) (by omega)) rfl rfl (Nat.le_of_ble_eq_true rfl) ⟨Nat.le_of_ble_eq_true rfl, Nat.le_of_ble_eq_true rfl, rfl, rfl⟩ (fun σ8 h9 => ?_)
      obtain ⟨hO10, hAc11, g12, g13⟩ := h9
      have hA14 := zc_Ag.tr hA2 hAc11 rfl
      have q15 : (σ8.1 4 3).toInt = (σ2.1 4 3).toInt := congrArg Int32.toInt (hAc11 4 3 rfl).1
      have hv0 : ∀ t : Nat, (t : Int) ≤ y5_1.toInt → (σ8.1 43 t).toInt = zx_A σ0 ((σ0.1 4 3).toInt * 64 + (t : Int)).toNat y5_1.toInt := by intro t ht; have h9 := g13 (by omega) t ht; rw [zx_A.ag hA2 rfl (fun _ => rfl) (fun _ => rfl) (fun _ => rfl) (fun _ => rfl), show (σ2.1 4 3).toInt = (σ0.1 4 3).toInt by omega] at h9; exact h9
      refine zr_iload_n hB 1 dX3_playPlain_23 rfl ?_
      refine zr_istore hB dX3_playPlain_24 (by decide) (lv' := [(6, .int p1), (0, .ref (zk K 4)), (1, .int p1), (2, .int p2), (3, .int p3), (4, .int p4), (5, .int y5_1)]) rfl ?_
      have L26_20 : ∀ (n26 : Nat) (σ17 : zc_S) (y6_16 : Int32), zc_O okX σ17 → zc_Ag m_X3_playPlain_4 σ0 σ17 → 0 ≤ y6_16.toInt → y6_16.toInt ≤ 6 → p1.toInt ≤ y6_16.toInt → (σ17.1 9 2).toInt = y5_1.toInt → (zc_hid ((1 ≤ (σ0.1 4 4).toInt → zp_Q σ0 σ17 (σ0.1 4 3).toInt (σ0.1 4 4).toInt p1.toInt p2.toInt p3.toInt y5_1.toInt y6_16.toInt))) → (∀ t : Nat, (t : Int) ≤ y5_1.toInt → (σ17.1 43 t).toInt = zx_A σ0 ((σ0.1 4 3).toInt * 64 + (t : Int)).toNat y5_1.toInt) → 6 - y6_16.toInt < (n26 : Int) → zc_V 8 K G (zc_D shX K G σ17) [(0, .ref (zk K 4)), (1, .int p1), (2, .int p2), (3, .int p3), (4, .int p4), (5, .int y5_1), (6, .int y6_16)] 26 [] := by
        intro n26
        induction n26 with
        | zero => intro σ17 y6_16 hO17 hA17 y6_16a y6_16b e18 e19 hQ2 hv hn26; exfalso; omega
        | succ n26 ih26 =>
          intro σ17 y6_16 hO17 hA17 y6_16a y6_16b e18 e19 hQ2 hv hn26
          refine zr_iload hB 6 dX3_playPlain_26 rfl ?_
          refine zr_iload_n hB 2 dX3_playPlain_28 rfl ?_
          refine zr_icmp_ge hB dX3_playPlain_29 (tgt := 96) rfl (fun c21 => ?_) (fun c21 => ?_)
          · refine zr_iinc hB 5 dX3_playPlain_96 rfl (by decide) rfl (by omega) (by omega) (fun x22 ex22 lv' hlv => ?_)
            obtain rfl : [(5, .int x22), (0, .ref (zk K 4)), (1, .int p1), (2, .int p2), (3, .int p3), (4, .int p4), (6, .int y6_16)] = lv' := hlv
            refine zr_goto hB dX3_playPlain_99 (tgt := 3) rfl ?_
            exact zc_sub [1, 2, 3, 4, 5, 0] rfl (ih3 σ17 x22 hO17 hA17 (by omega) (show p3.toInt ≤ x22.toInt by omega) (show zc_hid ((1 ≤ (σ0.1 4 4).toInt → zp_Q σ0 σ17 (σ0.1 4 3).toInt (σ0.1 4 4).toInt p1.toInt p2.toInt p3.toInt x22.toInt p1.toInt)) by intro hh; exact zp_Qn (hQ2 hh) (by omega) (by omega) (by omega)) (by omega))
          refine zr_aload_n hB 0 dX3_playPlain_32 rfl ?_
          refine zr_getr hG 4 2 dX3_playPlain_33 rfl wf_X3_37 rfl ?_
          refine zr_aload_n hB 0 dX3_playPlain_36 rfl ?_
          refine zr_getr hG 4 1 dX3_playPlain_37 rfl wf_X3_28 rfl ?_
          refine zr_getr hG 3 1 dX3_playPlain_40 rfl wf_X3_62 rfl ?_
          refine zr_iload hB 6 dX3_playPlain_43 rfl ?_
          refine zr_iald hG 18 dX3_playPlain_45 rfl (by omega) (by omega) (fun x23 ex23 => ?_)
          have bx23 : 0 ≤ x23.toInt ∧ x23.toInt ≤ 4 := by rw [ex23]; exact ⟨(hO17 18 _).1, (hO17 18 _).2.1⟩
          refine zr_aload_n hB 0 dX3_playPlain_46 rfl ?_
          refine zr_getr hG 4 1 dX3_playPlain_47 rfl wf_X3_28 rfl ?_
          refine zr_getr hG 3 2 dX3_playPlain_50 rfl wf_X3_76 rfl ?_
          refine zr_iload hB 6 dX3_playPlain_53 rfl ?_
          refine zr_iald hG 19 dX3_playPlain_55 rfl (by omega) (by omega) (fun x24 ex24 => ?_)
          refine zr_aload_n hB 0 dX3_playPlain_56 rfl ?_
          refine zr_getr hG 4 1 dX3_playPlain_57 rfl wf_X3_28 rfl ?_
          refine zr_getr hG 3 3 dX3_playPlain_60 rfl wf_X3_79 rfl ?_
          refine zr_iload hB 6 dX3_playPlain_63 rfl ?_
          refine zr_iald hG 20 dX3_playPlain_65 rfl (by omega) (by omega) (fun x25 ex25 => ?_)
          refine zr_aload_n hB 0 dX3_playPlain_66 rfl ?_
          refine zr_geti' hG 4 4 (σ17.1 4 4) dX3_playPlain_67 rfl wf_X3_45 rfl rfl ?_
          have b26 : 0 ≤ (σ17.1 4 4).toInt ∧ (σ17.1 4 4).toInt ≤ 14 := ⟨(hO17 4 4).1, (hO17 4 4).2.1⟩
          refine zr_callvi hG (rest := []) 9 dX3_playPlain_70 wm_X3_82 rfl rfl (c_X7_foretell_9 K hG.2.2.2.2.2.1 σ17 x23 x24 x25 (σ17.1 4 4) hO17 (by omega) (by omega)) rfl rfl (Nat.le_of_ble_eq_true rfl) ⟨Nat.le_of_ble_eq_true rfl, Nat.le_of_ble_eq_true rfl, rfl, rfl⟩ (fun r27 σ28 h29 => ?_)
          obtain ⟨rfl, r27a, r27b, r27h, g30⟩ := h29
          have k1 : x23.toInt = (σ0.1 18 y6_16.toInt.toNat).toInt := by rw [ex23, (hA17 18 _ rfl).1]
          have k2 : x24.toInt = (σ0.1 19 y6_16.toInt.toNat).toInt := by rw [ex24, (hA17 19 _ rfl).1]
          have k3 : (σ17.1 4 4).toInt = (σ0.1 4 4).toInt := by rw [(hA17 4 4 rfl).1]
          have k4 : (σ17.1 9 2).toInt = y5_1.toInt := by omega
          have hx : zc_hid (1 ≤ (σ0.1 4 4).toInt → ((σ0.1 18 y6_16.toInt.toNat).toInt = 2 ∨ 1 ≤ (σ0.1 19 y6_16.toInt.toNat).toInt) → zp_o r27.toInt (zp_XP σ0 (σ0.1 4 3).toInt (σ0.1 4 4).toInt y6_16.toInt.toNat y5_1.toInt)) := by intro hh hz; have h9 := g30 (by omega) (by omega); rw [k4, show (σ17.1 4 4).toInt = (σ0.1 4 4).toInt by omega] at h9; exact h9.iff (zp_Pv (by omega) hv (fun j => (hA17 15 j rfl).1) k1 k2)
          refine zr_istore hB dX3_playPlain_73 (by decide) (lv' := [(7, .int r27), (0, .ref (zk K 4)), (1, .int p1), (2, .int p2), (3, .int p3), (4, .int p4), (5, .int y5_1), (6, .int y6_16)]) rfl ?_
          refine zr_aload_n hB 1 dX3_playPlain_75 rfl ?_
          refine zr_getr hG 4 5 dX3_playPlain_76 rfl wf_X3_9 rfl ?_
          refine zr_iload hB 7 dX3_playPlain_79 rfl ?_
          refine zr_bipush hB dX3_playPlain_81 rfl (fun c31 ec31 => ?_)
          refine zr_imulc hB dX3_playPlain_83 ec31 (by omega) (by omega) (fun x32 ex32 => ?_)
          refine zr_iload hB 6 dX3_playPlain_84 rfl ?_
          refine zr_iadd hB dX3_playPlain_86 (by omega) (by omega) (fun x33 ex33 => ?_)
          refine zr_iload hB 0 dX3_playPlain_87 rfl ?_
          refine zr_iast hG 21 dX3_playPlain_89 rfl (by omega) (by omega)  ?_
          have hOw34 := zc_O.u hO17 21 x33.toInt.toNat (v := r27) (show (-4) ≤ r27.toInt by omega) (show r27.toInt ≤ 999 by omega) (show r27.toInt = (-4) ∨ 0 ≤ r27.toInt by omega)
          have hAw34 := zc_Ag.u hA17 21 x33.toInt.toNat r27 rfl
          refine zr_iinc hB 7 dX3_playPlain_90 rfl (by decide) rfl (by omega) (by omega) (fun x35 ex35 lv' hlv => ?_)
          obtain rfl : [(6, .int x35), (7, .int r27), (0, .ref (zk K 4)), (1, .int p1), (2, .int p2), (3, .int p3), (4, .int p4), (5, .int y5_1)] = lv' := hlv
          refine zr_goto hB dX3_playPlain_93 (tgt := 26) rfl ?_
          have b36 : 0 ≤ (σ17.1 9 2).toInt ∧ (σ17.1 9 2).toInt ≤ 63 := ⟨(hOw34 9 2).1, (hOw34 9 2).2.1⟩
          exact zc_sub [2, 3, 4, 5, 6, 7, 0] rfl (ih26 (zc_u σ17 21 x33.toInt.toNat r27) x35 hOw34 hAw34 (by omega) (by omega) (show p1.toInt ≤ x35.toInt by omega) (show (σ17.1 9 2).toInt = y5_1.toInt by omega) (show zc_hid ((1 ≤ (σ0.1 4 4).toInt → zp_Q σ0 (zc_u σ17 21 x33.toInt.toNat r27) (σ0.1 4 3).toInt (σ0.1 4 4).toInt p1.toInt p2.toInt p3.toInt y5_1.toInt x35.toInt)) by intro hh; exact zp_Qu (hQ2 hh) (by omega) (by omega) (by omega) (by omega) (by omega) (hx hh)) (show ∀ t : Nat, (t : Int) ≤ y5_1.toInt → ((zc_u σ17 21 x33.toInt.toNat r27).1 43 t).toInt = zx_A σ0 ((σ0.1 4 3).toInt * 64 + (t : Int)).toNat y5_1.toInt by exact hv) (by omega))
      have b37 : 0 ≤ (σ8.1 9 2).toInt ∧ (σ8.1 9 2).toInt ≤ 63 := ⟨(hO10 9 2).1, (hO10 9 2).2.1⟩
      exact zc_sub [1, 2, 3, 4, 5, 6, 0] rfl (L26_20 8 σ8 p1 hO10 hA14 (by omega) (by omega) (show p1.toInt ≤ p1.toInt by omega) (show (σ8.1 9 2).toInt = y5_1.toInt by omega) (show zc_hid ((1 ≤ (σ0.1 4 4).toInt → zp_Q σ0 σ8 (σ0.1 4 3).toInt (σ0.1 4 4).toInt p1.toInt p2.toInt p3.toInt y5_1.toInt p1.toInt)) by intro hh; exact zp_Qs (hQ hh) (fun j => (hAc11 21 j rfl).1)) (show ∀ t : Nat, (t : Int) ≤ y5_1.toInt → (σ8.1 43 t).toInt = zx_A σ0 ((σ0.1 4 3).toInt * 64 + (t : Int)).toNat y5_1.toInt by exact hv0) (by omega))
  exact zc_sub [1, 2, 3, 4, 5, 0] rfl (L3_4 2147483649 σ0 p3 hO0 hA0 (by omega) (show p3.toInt ≤ p3.toInt by omega) (show zc_hid ((1 ≤ (σ0.1 4 4).toInt → zp_Q σ0 σ0 (σ0.1 4 3).toInt (σ0.1 4 4).toInt p1.toInt p2.toInt p3.toInt p3.toInt p1.toInt)) by intro _; exact zp_Q0 (by omega) (by omega)) (by omega))

set_option maxHeartbeats 1000000 in
set_option maxRecDepth 100000 in
theorem c_X3_toldBy_4 (K : zc_K) (hi : zc_inj shX K.2.2.2.1) (σ0 : zc_S) (p1 : Int32) (p2 : Int32) (hO0 : zc_O okX σ0)  : zc_M shX K yX3_toldBy cX3_toldBy 4 (some .int) (zrm 0 0) σ0 [.ref (zk K 4), .int p1, .int p2] (zc_I (fun r9 σ9 => σ0 = σ9 ∧ (-4) ≤ r9.toInt ∧ r9.toInt ≤ 999 ∧ (r9.toInt = (-4) ∨ 0 ≤ r9.toInt) ∧ ((¬ (0 ≤ p1.toInt ∧ p1.toInt ≤ 5 ∧ 0 ≤ p2.toInt ∧ p2.toInt ≤ 63) ∧ r9.toInt = -4) ∨ ((0 ≤ p1.toInt ∧ p1.toInt ≤ 5 ∧ 0 ≤ p2.toInt ∧ p2.toInt ≤ 63) ∧ r9.toInt = (σ0.1 21 (p1.toInt * 64 + p2.toInt).toNat).toInt)))) := by
  refine zc_start RX3 hi pfX3_toldBy rfl (Nat.le_of_ble_eq_true rfl) ?_
  intro G hG
  have hB := hG.1
  show zc_V 4 K G (zc_D shX K G σ0) [(0, .ref (zk K 4)), (1, .int p1), (2, .int p2)] 0 []
  refine zr_iload_n hB 1 dX3_toldBy_0 rfl ?_
  refine zr_if_lt hB dX3_toldBy_1 (tgt := 24) rfl (fun c1 => ?_) (fun c1 => ?_)
  · refine zr_iconst hB dX3_toldBy_24 rfl (fun c2 ec2 => ?_)
    refine zr_istore_n hB dX3_toldBy_25 rfl (by decide) (lv' := [(3, .int c2), (0, .ref (zk K 4)), (1, .int p1), (2, .int p2)]) rfl ?_
    refine zr_iload_n hB 0 dX3_toldBy_26 rfl ?_
    refine zr_if_eq hB dX3_toldBy_27 (tgt := 44) rfl (fun c3 => ?_) (fun c3 => ?_)
    · refine zr_bipush hB dX3_toldBy_44 rfl (fun c4 ec4 => ?_)
      exact zr_iret hG dX3_toldBy_46 ⟨rfl, by omega, by omega, by omega, (Or.inl ⟨by omega, by omega⟩)⟩
    exfalso; omega
  refine zr_iload_n hB 1 dX3_toldBy_4 rfl ?_
  refine zr_bipush hB dX3_toldBy_5 rfl (fun c5 ec5 => ?_)
  refine zr_icmp_ge hB dX3_toldBy_7 (tgt := 24) rfl (fun c6 => ?_) (fun c6 => ?_)
  · refine zr_iconst hB dX3_toldBy_24 rfl (fun c7 ec7 => ?_)
    refine zr_istore_n hB dX3_toldBy_25 rfl (by decide) (lv' := [(3, .int c7), (0, .ref (zk K 4)), (1, .int p1), (2, .int p2)]) rfl ?_
    refine zr_iload_n hB 0 dX3_toldBy_26 rfl ?_
    refine zr_if_eq hB dX3_toldBy_27 (tgt := 44) rfl (fun c8 => ?_) (fun c8 => ?_)
    · refine zr_bipush hB dX3_toldBy_44 rfl (fun c9 ec9 => ?_)
      exact zr_iret hG dX3_toldBy_46 ⟨rfl, by omega, by omega, by omega, (Or.inl ⟨by omega, by omega⟩)⟩
    exfalso; omega
  refine zr_iload_n hB 2 dX3_toldBy_10 rfl ?_
  refine zr_if_lt hB dX3_toldBy_11 (tgt := 24) rfl (fun c10 => ?_) (fun c10 => ?_)
  · refine zr_iconst hB dX3_toldBy_24 rfl (fun c11 ec11 => ?_)
    refine zr_istore_n hB dX3_toldBy_25 rfl (by decide) (lv' := [(3, .int c11), (0, .ref (zk K 4)), (1, .int p1), (2, .int p2)]) rfl ?_
    refine zr_iload_n hB 0 dX3_toldBy_26 rfl ?_
    refine zr_if_eq hB dX3_toldBy_27 (tgt := 44) rfl (fun c12 => ?_) (fun c12 => ?_)
    · refine zr_bipush hB dX3_toldBy_44 rfl (fun c13 ec13 => ?_)
      exact zr_iret hG dX3_toldBy_46 ⟨rfl, by omega, by omega, by omega, (Or.inl ⟨by omega, by omega⟩)⟩
    exfalso; omega
  refine zr_iload_n hB 2 dX3_toldBy_14 rfl ?_
  refine zr_bipush hB dX3_toldBy_15 rfl (fun c14 ec14 => ?_)
  refine zr_icmp_ge hB dX3_toldBy_17 (tgt := 24) rfl (fun c15 => ?_) (fun c15 => ?_)
  · refine zr_iconst hB dX3_toldBy_24 rfl (fun c16 ec16 => ?_)
    refine zr_istore_n hB dX3_toldBy_25 rfl (by decide) (lv' := [(3, .int c16), (0, .ref (zk K 4)), (1, .int p1), (2, .int p2)]) rfl ?_
    refine zr_iload_n hB 0 dX3_toldBy_26 rfl ?_
    refine zr_if_eq hB dX3_toldBy_27 (tgt := 44) rfl (fun c17 => ?_) (fun c17 => ?_)
    · refine zr_bipush hB dX3_toldBy_44 rfl (fun c18 ec18 => ?_)
      exact zr_iret hG dX3_toldBy_46 ⟨rfl, by omega, by omega, by omega, (Or.inl ⟨by omega, by omega⟩)⟩
    exfalso; omega
  refine zr_iconst hB dX3_toldBy_20 rfl (fun c19 ec19 => ?_)
  refine zr_goto hB dX3_toldBy_21 (tgt := 25) rfl ?_
  refine zr_istore_n hB dX3_toldBy_25 rfl (by decide) (lv' := [(3, .int c19), (0, .ref (zk K 4)), (1, .int p1), (2, .int p2)]) rfl ?_
  refine zr_iload_n hB 0 dX3_toldBy_26 rfl ?_
  refine zr_if_eq hB dX3_toldBy_27 (tgt := 44) rfl (fun c20 => ?_) (fun c20 => ?_)
  · exfalso; omega
  refine zr_aload_n hB 1 dX3_toldBy_30 rfl ?_
  refine zr_getr hG 4 5 dX3_toldBy_31 rfl wf_X3_9 rfl ?_
  refine zr_iload_n hB 2 dX3_toldBy_34 rfl ?_
  refine zr_bipush hB dX3_toldBy_35 rfl (fun c21 ec21 => ?_)
  refine zr_imulc hB dX3_toldBy_37 ec21 (by omega) (by omega) (fun x22 ex22 => ?_)
  refine zr_iload_n hB 3 dX3_toldBy_38 rfl ?_
  refine zr_iadd hB dX3_toldBy_39 (by omega) (by omega) (fun x23 ex23 => ?_)
  refine zr_iald hG 21 dX3_toldBy_40 rfl (by omega) (by omega) (fun x24 ex24 => ?_)
  have bx24 : (-4) ≤ x24.toInt ∧ x24.toInt ≤ 999 ∧ (x24.toInt = (-4) ∨ 0 ≤ x24.toInt) := by rw [ex24]; exact hO0 21 _
  refine zr_goto hB dX3_toldBy_41 (tgt := 46) rfl ?_
  exact zr_iret hG dX3_toldBy_46 ⟨rfl, by omega, by omega, by omega, (Or.inr ⟨by omega, by rw [ex24, show x23.toInt.toNat = (p1.toInt * 64 + p2.toInt).toNat by omega]⟩)⟩

set_option maxHeartbeats 1000000 in
set_option maxRecDepth 100000 in
theorem c_X3_weightOf_4 (K : zc_K) (hi : zc_inj shX K.2.2.2.1) (σ0 : zc_S) (p1 : Int32) (p2 : Int32) (p3 : Int32) (hO0 : zc_O okX σ0) (h3a : 0 ≤ p3.toInt) (h3b : p3.toInt ≤ 63) : zc_M shX K yX3_weightOf cX3_weightOf 9 (some .int) (zrm 2 45) σ0 [.ref (zk K 4), .int p1, .int p2, .int p3] (zc_I (fun r9 σ9 => σ0 = σ9 ∧ 0 ≤ r9.toInt ∧ r9.toInt ≤ 1000 ∧ zc_hid ((0 ≤ p1.toInt ∧ p1.toInt ≤ 5 → 1 ≤ p2.toInt → ((r9.toInt = 0 ∧ ¬ zp_wx σ0 (σ0.1 4 3).toInt (σ0.1 4 4).toInt p1.toInt p3.toInt) ∨ (1 ≤ r9.toInt ∧ zp_wx σ0 (σ0.1 4 3).toInt (σ0.1 4 4).toInt p1.toInt p3.toInt)))))) := by
  refine zc_start RX3 hi pfX3_weightOf rfl (Nat.le_of_ble_eq_true rfl) ?_
  intro G hG
  have hB := hG.1
  show zc_V 9 K G (zc_D shX K G σ0) [(0, .ref (zk K 4)), (1, .int p1), (2, .int p2), (3, .int p3)] 0 []
  have bw4_3 : 0 ≤ (σ0.1 4 3).toInt ∧ (σ0.1 4 3).toInt ≤ 3 := ⟨(hO0 4 3).1, (hO0 4 3).2.1⟩
  have bw4_4 : 0 ≤ (σ0.1 4 4).toInt ∧ (σ0.1 4 4).toInt ≤ 14 := ⟨(hO0 4 4).1, (hO0 4 4).2.1⟩
  refine zr_iconst hB dX3_weightOf_0 rfl (fun c1 ec1 => ?_)
  refine zr_istore hB dX3_weightOf_1 (by decide) (lv' := [(4, .int c1), (0, .ref (zk K 4)), (1, .int p1), (2, .int p2), (3, .int p3)]) rfl ?_
  refine zr_iconst hB dX3_weightOf_3 rfl (fun c2 ec2 => ?_)
  refine zr_istore hB dX3_weightOf_4 (by decide) (lv' := [(5, .int c2), (4, .int c1), (0, .ref (zk K 4)), (1, .int p1), (2, .int p2), (3, .int p3)]) rfl ?_
  refine zr_iload_n hB 5 dX3_weightOf_6 rfl ?_
  refine zr_istore hB dX3_weightOf_7 (by decide) (lv' := [(6, .int p3), (5, .int c2), (4, .int c1), (0, .ref (zk K 4)), (1, .int p1), (2, .int p2), (3, .int p3)]) rfl ?_
  have L9_10 : ∀ (n9 : Nat) (y4_3 : Int32) (y5_4 : Int32) (y6_5 : Int32), 0 ≤ y4_3.toInt → y4_3.toInt ≤ 63936 → 0 ≤ y5_4.toInt → y5_4.toInt ≤ 64 → (-1) ≤ y6_5.toInt → y6_5.toInt ≤ 63 → y4_3.toInt ≤ 999 * y5_4.toInt → y5_4.toInt + y6_5.toInt ≤ p3.toInt → y6_5.toInt ≤ p3.toInt → 0 ≤ y5_4.toInt → (zc_hid ((0 ≤ p1.toInt ∧ p1.toInt ≤ 5 → y5_4.toInt = 0 → ∀ t : Nat, y6_5.toInt < (t : Int) → (t : Int) ≤ p3.toInt → zp_k (zx_A σ0) (σ0.1 4 3).toInt p3.toInt t → (σ0.1 4 4).toInt ≤ (t : Int) → (σ0.1 21 (p1.toInt * 64 + ((t : Int) - (σ0.1 4 4).toInt)).toNat).toInt = -4))) → (zc_hid ((0 ≤ p1.toInt ∧ p1.toInt ≤ 5 → 0 < y5_4.toInt → zp_wx σ0 (σ0.1 4 3).toInt (σ0.1 4 4).toInt p1.toInt p3.toInt))) → y6_5.toInt - (-1) < (n9 : Int) → zc_V 9 K G (zc_D shX K G σ0) [(0, .ref (zk K 4)), (1, .int p1), (2, .int p2), (3, .int p3), (4, .int y4_3), (5, .int y5_4), (6, .int y6_5)] 9 [] := by
    intro n9
    induction n9 with
    | zero => intro y4_3 y5_4 y6_5 y4_3a y4_3b y5_4a y5_4b y6_5a y6_5b e6 e7 e8 e9 w1 w2 hn9; exfalso; omega
    | succ n9 ih9 =>
      intro y4_3 y5_4 y6_5 y4_3a y4_3b y5_4a y5_4b y6_5a y6_5b e6 e7 e8 e9 w1 w2 hn9
      refine zr_iload hB 6 dX3_weightOf_9 rfl ?_
      refine zr_aload_n hB 0 dX3_weightOf_11 rfl ?_
      refine zr_geti' hG 4 4 (σ0.1 4 4) dX3_weightOf_12 rfl wf_X3_45 rfl rfl ?_
      refine zr_icmp_lt hB dX3_weightOf_15 (tgt := 95) rfl (fun c11 => ?_) (fun c11 => ?_)
      · refine zr_sipush hB dX3_weightOf_95 rfl (fun c12 ec12 => ?_)
        refine zr_iconst hB dX3_weightOf_98 rfl (fun c13 ec13 => ?_)
        refine zr_iload hB 5 dX3_weightOf_99 rfl ?_
        refine zr_if_ne hB dX3_weightOf_101 (tgt := 110) rfl (fun c14 => ?_) (fun c14 => ?_)
        · refine zr_iload hB 4 dX3_weightOf_110 rfl ?_
          refine zr_iload hB 5 dX3_weightOf_112 rfl ?_
          refine zr_idiv hB dX3_weightOf_114 (by omega) (by omega) (fun x15 ex15 ex15a ex15b ex15c => ?_)
          have ex15d := ex15c 999 (by omega)
          refine zr_iadd hB dX3_weightOf_115 (by omega) (by omega) (fun x16 ex16 => ?_)
          refine zr_idiv hB dX3_weightOf_116 (by omega) (by omega) (fun x17 ex17 ex17a ex17b ex17c => ?_)
          exact zr_iret hG dX3_weightOf_117 ⟨rfl, by omega, by omega, (fun hp hn => by by_cases h9 : y5_4.toInt = 0; exact Or.inl ⟨(by first | omega | exact zp_w0 ex17 (by omega) (by omega)), (by rintro ⟨t, a, b, c, d⟩; exact d (w1 hp h9 t (by omega) b c a))⟩; exact Or.inr ⟨(by first | exact zp_w1 ex17 (by omega) (by omega) (by omega) | (exfalso; omega)), w2 hp (by omega)⟩)⟩
        refine zr_sipush hB dX3_weightOf_104 rfl (fun c18 ec18 => ?_)
        refine zr_goto hB dX3_weightOf_107 (tgt := 115) rfl ?_
        refine zr_iadd hB dX3_weightOf_115 (by omega) (by omega) (fun x19 ex19 => ?_)
        refine zr_idiv hB dX3_weightOf_116 (by omega) (by omega) (fun x20 ex20 ex20a ex20b ex20c => ?_)
        exact zr_iret hG dX3_weightOf_117 ⟨rfl, by omega, by omega, (fun hp hn => by by_cases h9 : y5_4.toInt = 0; exact Or.inl ⟨(by first | omega | exact zp_w0 ex20 (by omega) (by omega)), (by rintro ⟨t, a, b, c, d⟩; exact d (w1 hp h9 t (by omega) b c a))⟩; exact Or.inr ⟨(by first | exact zp_w1 ex20 (by omega) (by omega) (by omega) | (exfalso; omega)), w2 hp (by omega)⟩)⟩
      refine zr_iload hB 5 dX3_weightOf_18 rfl ?_
      refine zr_iload_n hB 2 dX3_weightOf_20 rfl ?_
      refine zr_icmp_ge hB dX3_weightOf_21 (tgt := 95) rfl (fun c21 => ?_) (fun c21 => ?_)
      · refine zr_sipush hB dX3_weightOf_95 rfl (fun c22 ec22 => ?_)
        refine zr_iconst hB dX3_weightOf_98 rfl (fun c23 ec23 => ?_)
        refine zr_iload hB 5 dX3_weightOf_99 rfl ?_
        refine zr_if_ne hB dX3_weightOf_101 (tgt := 110) rfl (fun c24 => ?_) (fun c24 => ?_)
        · refine zr_iload hB 4 dX3_weightOf_110 rfl ?_
          refine zr_iload hB 5 dX3_weightOf_112 rfl ?_
          refine zr_idiv hB dX3_weightOf_114 (by omega) (by omega) (fun x25 ex25 ex25a ex25b ex25c => ?_)
          have ex25d := ex25c 999 (by omega)
          refine zr_iadd hB dX3_weightOf_115 (by omega) (by omega) (fun x26 ex26 => ?_)
          refine zr_idiv hB dX3_weightOf_116 (by omega) (by omega) (fun x27 ex27 ex27a ex27b ex27c => ?_)
          exact zr_iret hG dX3_weightOf_117 ⟨rfl, by omega, by omega, (fun hp hn => by by_cases h9 : y5_4.toInt = 0; exact Or.inl ⟨(by first | omega | exact zp_w0 ex27 (by omega) (by omega)), (by rintro ⟨t, a, b, c, d⟩; exact d (w1 hp h9 t (by omega) b c a))⟩; exact Or.inr ⟨(by first | exact zp_w1 ex27 (by omega) (by omega) (by omega) | (exfalso; omega)), w2 hp (by omega)⟩)⟩
        refine zr_sipush hB dX3_weightOf_104 rfl (fun c28 ec28 => ?_)
        refine zr_goto hB dX3_weightOf_107 (tgt := 115) rfl ?_
        refine zr_iadd hB dX3_weightOf_115 (by omega) (by omega) (fun x29 ex29 => ?_)
        refine zr_idiv hB dX3_weightOf_116 (by omega) (by omega) (fun x30 ex30 ex30a ex30b ex30c => ?_)
        exact zr_iret hG dX3_weightOf_117 ⟨rfl, by omega, by omega, (fun hp hn => by by_cases h9 : y5_4.toInt = 0; exact Or.inl ⟨(by first | omega | exact zp_w0 ex30 (by omega) (by omega)), (by rintro ⟨t, a, b, c, d⟩; exact d (w1 hp h9 t (by omega) b c a))⟩; exact Or.inr ⟨(by first | exact zp_w1 ex30 (by omega) (by omega) (by omega) | (exfalso; omega)), w2 hp (by omega)⟩)⟩
      refine zr_aload_n hB 0 dX3_weightOf_24 rfl ?_
      refine zr_iload_n hB 1 dX3_weightOf_25 rfl ?_
      refine zr_iload hB 6 dX3_weightOf_26 rfl ?_
      refine zr_aload_n hB 0 dX3_weightOf_28 rfl ?_
      refine zr_geti' hG 4 4 (σ0.1 4 4) dX3_weightOf_29 rfl wf_X3_45 rfl rfl ?_
      refine zr_isub hB dX3_weightOf_32 (by omega) (by omega) (fun x31 ex31 => ?_)
      refine zr_callvi hG (rest := []) 4 dX3_weightOf_33 wm_X3_90 rfl rfl (c_X3_toldBy_4 K hG.2.2.2.2.2.1 σ0 p1 x31 hO0 ) rfl rfl (Nat.le_of_ble_eq_true rfl) ⟨Nat.le_of_ble_eq_true rfl, Nat.le_of_ble_eq_true rfl, rfl, rfl⟩ (fun r32 σ33 h34 => ?_)
      obtain ⟨rfl, r32a, r32b, r32h, g35⟩ := h34
      have hto : zc_hid (0 ≤ p1.toInt ∧ p1.toInt ≤ 5 → r32.toInt = (σ0.1 21 (p1.toInt * 64 + (y6_5.toInt - (σ0.1 4 4).toInt)).toNat).toInt) := by intro hp; have h9 := zx_or g35 (by omega); rw [show x31.toInt = y6_5.toInt - (σ0.1 4 4).toInt by omega] at h9; exact h9
      refine zr_istore hB dX3_weightOf_36 (by decide) (lv' := [(7, .int r32), (0, .ref (zk K 4)), (1, .int p1), (2, .int p2), (3, .int p3), (4, .int y4_3), (5, .int y5_4), (6, .int y6_5)]) rfl ?_
      refine zr_iload hB 0 dX3_weightOf_38 rfl ?_
      refine zr_bipush hB dX3_weightOf_40 rfl (fun c36 ec36 => ?_)
      refine zr_icmp_ne hB dX3_weightOf_42 (tgt := 50) rfl (fun c37 => ?_) (fun c37 => ?_)
      · refine zr_aload_n hB 1 dX3_weightOf_50 rfl ?_
        refine zr_getr hG 4 0 dX3_weightOf_51 rfl wf_X3_24 rfl ?_
        refine zr_aload_n hB 1 dX3_weightOf_54 rfl ?_
        refine zr_geti' hG 4 3 (σ0.1 4 3) dX3_weightOf_55 rfl wf_X3_41 rfl rfl ?_
        refine zr_iload hB 7 dX3_weightOf_58 rfl ?_
        refine zr_iload_n hB 4 dX3_weightOf_60 rfl ?_
        refine zr_callvi hG (rest := []) 1 dX3_weightOf_61 wm_X3_93 rfl rfl (c_X4_valueOn_1 K hG.2.2.2.2.2.1 σ0 (σ0.1 4 3) y6_5 p3 hO0 ) rfl rfl (Nat.le_of_ble_eq_true rfl) ⟨Nat.le_of_ble_eq_true rfl, Nat.le_of_ble_eq_true rfl, rfl, rfl⟩ (fun r38 σ39 h40 => ?_)
        obtain ⟨rfl, r38a, r38b, r38h, g41⟩ := h40
        have hva : r38.toInt = zx_A σ0 ((σ0.1 4 3).toInt * 64 + y6_5.toInt).toNat p3.toInt := zx_or g41 (by omega)
        refine zr_istore hB dX3_weightOf_64 (by decide) (lv' := [(8, .int r38), (7, .int r32), (0, .ref (zk K 4)), (1, .int p1), (2, .int p2), (3, .int p3), (4, .int y4_3), (5, .int y5_4), (6, .int y6_5)]) rfl ?_
        refine zr_iload hB 0 dX3_weightOf_66 rfl ?_
        refine zr_bipush hB dX3_weightOf_68 rfl (fun c42 ec42 => ?_)
        refine zr_icmp_eq hB dX3_weightOf_70 (tgt := 89) rfl (fun c43 => ?_) (fun c43 => ?_)
        · refine zr_iinc hB 8 dX3_weightOf_89 rfl (by decide) rfl (by omega) (by omega) (fun x44 ex44 lv' hlv => ?_)
          obtain rfl : [(6, .int x44), (8, .int r38), (7, .int r32), (0, .ref (zk K 4)), (1, .int p1), (2, .int p2), (3, .int p3), (4, .int y4_3), (5, .int y5_4)] = lv' := hlv
          refine zr_goto hB dX3_weightOf_92 (tgt := 9) rfl ?_
          exact zc_sub [3, 4, 5, 6, 7, 8, 0] rfl (ih9 y4_3 y5_4 x44 (by omega) (by omega) (by omega) (by omega) (by omega) (by omega) (show y4_3.toInt ≤ 999 * y5_4.toInt by omega) (show y5_4.toInt + x44.toInt ≤ p3.toInt by omega) (show x44.toInt ≤ p3.toInt by omega) (show 0 ≤ y5_4.toInt by omega) (show zc_hid ((0 ≤ p1.toInt ∧ p1.toInt ≤ 5 → y5_4.toInt = 0 → ∀ t : Nat, x44.toInt < (t : Int) → (t : Int) ≤ p3.toInt → zp_k (zx_A σ0) (σ0.1 4 3).toInt p3.toInt t → (σ0.1 4 4).toInt ≤ (t : Int) → (σ0.1 21 (p1.toInt * 64 + ((t : Int) - (σ0.1 4 4).toInt)).toNat).toInt = -4)) by first | (intro hp h0; exfalso; omega) | (intro hp h0 t a b c d; by_cases h9 : y6_5.toInt < (t : Int); exact w1 hp (by omega) t h9 b c d; (obtain rfl : t = y6_5.toInt.toNat := (by omega); exact absurd (show zx_A σ0 ((σ0.1 4 3).toInt * 64 + ((y6_5.toInt.toNat : Nat) : Int)).toNat p3.toInt = -4 by rw [show ((y6_5.toInt.toNat : Nat) : Int) = y6_5.toInt by omega, ← hva]; omega) c))) (show zc_hid ((0 ≤ p1.toInt ∧ p1.toInt ≤ 5 → 0 < y5_4.toInt → zp_wx σ0 (σ0.1 4 3).toInt (σ0.1 4 4).toInt p1.toInt p3.toInt)) by first | exact fun hp h9 => w2 hp (by omega) | (intro hp _; exact ⟨y6_5.toInt.toNat, by omega, by omega, (show ¬ zx_A σ0 ((σ0.1 4 3).toInt * 64 + ((y6_5.toInt.toNat : Nat) : Int)).toNat p3.toInt = -4 by rw [show ((y6_5.toInt.toNat : Nat) : Int) = y6_5.toInt by omega, ← hva]; omega), (show ¬ (σ0.1 21 (p1.toInt * 64 + (((y6_5.toInt.toNat : Nat) : Int) - (σ0.1 4 4).toInt)).toNat).toInt = -4 by rw [show ((y6_5.toInt.toNat : Nat) : Int) = y6_5.toInt by omega, ← hto hp]; omega)⟩)) (by omega))
        refine zr_iload hB 6 dX3_weightOf_73 rfl ?_
        refine zr_iload hB 1 dX3_weightOf_75 rfl ?_
        refine zr_iload hB 0 dX3_weightOf_77 rfl ?_
        refine zr_isub hB dX3_weightOf_79 (by omega) (by omega) (fun x45 ex45 => ?_)
        refine zr_callsi hG (rest := [.int y4_3]) dX3_weightOf_80 wm_X3_98 (c_J9_abs_0f7a4 K hG.2.2.2.2.2.1 σ0 x45 hO0 (by omega)) rfl rfl (Nat.le_of_ble_eq_true rfl) ⟨Nat.le_of_ble_eq_true rfl, Nat.le_of_ble_eq_true rfl, rfl, rfl⟩ (fun r46 σ47 h48 => ?_)
        obtain ⟨rfl, r46a, g49⟩ := h48
        refine zr_iadd hB dX3_weightOf_83 (by omega) (by omega) (fun x50 ex50 => ?_)
        refine zr_istore hB dX3_weightOf_84 (by decide) (lv' := [(4, .int x50), (8, .int r38), (7, .int r32), (0, .ref (zk K 4)), (1, .int p1), (2, .int p2), (3, .int p3), (5, .int y5_4), (6, .int y6_5)]) rfl ?_
        refine zr_iinc hB 7 dX3_weightOf_86 rfl (by decide) rfl (by omega) (by omega) (fun x51 ex51 lv' hlv => ?_)
        obtain rfl : [(5, .int x51), (4, .int x50), (8, .int r38), (7, .int r32), (0, .ref (zk K 4)), (1, .int p1), (2, .int p2), (3, .int p3), (6, .int y6_5)] = lv' := hlv
        refine zr_iinc hB 8 dX3_weightOf_89 rfl (by decide) rfl (by omega) (by omega) (fun x52 ex52 lv' hlv => ?_)
        obtain rfl : [(6, .int x52), (5, .int x51), (4, .int x50), (8, .int r38), (7, .int r32), (0, .ref (zk K 4)), (1, .int p1), (2, .int p2), (3, .int p3)] = lv' := hlv
        refine zr_goto hB dX3_weightOf_92 (tgt := 9) rfl ?_
        exact zc_sub [5, 6, 7, 8, 2, 1, 0] rfl (ih9 x50 x51 x52 (by omega) (by omega) (by omega) (by omega) (by omega) (by omega) (show x50.toInt ≤ 999 * x51.toInt by omega) (show x51.toInt + x52.toInt ≤ p3.toInt by omega) (show x52.toInt ≤ p3.toInt by omega) (show 0 ≤ x51.toInt by omega) (show zc_hid ((0 ≤ p1.toInt ∧ p1.toInt ≤ 5 → x51.toInt = 0 → ∀ t : Nat, x52.toInt < (t : Int) → (t : Int) ≤ p3.toInt → zp_k (zx_A σ0) (σ0.1 4 3).toInt p3.toInt t → (σ0.1 4 4).toInt ≤ (t : Int) → (σ0.1 21 (p1.toInt * 64 + ((t : Int) - (σ0.1 4 4).toInt)).toNat).toInt = -4)) by first | (intro hp h0; exfalso; omega) | (intro hp h0 t a b c d; by_cases h9 : y6_5.toInt < (t : Int); exact w1 hp (by omega) t h9 b c d; (obtain rfl : t = y6_5.toInt.toNat := (by omega); exact absurd (show zx_A σ0 ((σ0.1 4 3).toInt * 64 + ((y6_5.toInt.toNat : Nat) : Int)).toNat p3.toInt = -4 by rw [show ((y6_5.toInt.toNat : Nat) : Int) = y6_5.toInt by omega, ← hva]; omega) c))) (show zc_hid ((0 ≤ p1.toInt ∧ p1.toInt ≤ 5 → 0 < x51.toInt → zp_wx σ0 (σ0.1 4 3).toInt (σ0.1 4 4).toInt p1.toInt p3.toInt)) by first | exact fun hp h9 => w2 hp (by omega) | (intro hp _; exact ⟨y6_5.toInt.toNat, by omega, by omega, (show ¬ zx_A σ0 ((σ0.1 4 3).toInt * 64 + ((y6_5.toInt.toNat : Nat) : Int)).toNat p3.toInt = -4 by rw [show ((y6_5.toInt.toNat : Nat) : Int) = y6_5.toInt by omega, ← hva]; omega), (show ¬ (σ0.1 21 (p1.toInt * 64 + (((y6_5.toInt.toNat : Nat) : Int) - (σ0.1 4 4).toInt)).toNat).toInt = -4 by rw [show ((y6_5.toInt.toNat : Nat) : Int) = y6_5.toInt by omega, ← hto hp]; omega)⟩)) (by omega))
      refine zr_bipush hB dX3_weightOf_45 rfl (fun c53 ec53 => ?_)
      refine zr_goto hB dX3_weightOf_47 (tgt := 64) rfl ?_
      refine zr_istore hB dX3_weightOf_64 (by decide) (lv' := [(8, .int c53), (7, .int r32), (0, .ref (zk K 4)), (1, .int p1), (2, .int p2), (3, .int p3), (4, .int y4_3), (5, .int y5_4), (6, .int y6_5)]) rfl ?_
      refine zr_iload hB 0 dX3_weightOf_66 rfl ?_
      refine zr_bipush hB dX3_weightOf_68 rfl (fun c54 ec54 => ?_)
      refine zr_icmp_eq hB dX3_weightOf_70 (tgt := 89) rfl (fun c55 => ?_) (fun c55 => ?_)
      · refine zr_iinc hB 8 dX3_weightOf_89 rfl (by decide) rfl (by omega) (by omega) (fun x56 ex56 lv' hlv => ?_)
        obtain rfl : [(6, .int x56), (8, .int c53), (7, .int r32), (0, .ref (zk K 4)), (1, .int p1), (2, .int p2), (3, .int p3), (4, .int y4_3), (5, .int y5_4)] = lv' := hlv
        refine zr_goto hB dX3_weightOf_92 (tgt := 9) rfl ?_
        exact zc_sub [3, 4, 5, 6, 7, 8, 0] rfl (ih9 y4_3 y5_4 x56 (by omega) (by omega) (by omega) (by omega) (by omega) (by omega) (show y4_3.toInt ≤ 999 * y5_4.toInt by omega) (show y5_4.toInt + x56.toInt ≤ p3.toInt by omega) (show x56.toInt ≤ p3.toInt by omega) (show 0 ≤ y5_4.toInt by omega) (show zc_hid ((0 ≤ p1.toInt ∧ p1.toInt ≤ 5 → y5_4.toInt = 0 → ∀ t : Nat, x56.toInt < (t : Int) → (t : Int) ≤ p3.toInt → zp_k (zx_A σ0) (σ0.1 4 3).toInt p3.toInt t → (σ0.1 4 4).toInt ≤ (t : Int) → (σ0.1 21 (p1.toInt * 64 + ((t : Int) - (σ0.1 4 4).toInt)).toNat).toInt = -4)) by first | (intro hp h0; exfalso; omega) | (intro hp h0 t a b c d; by_cases h9 : y6_5.toInt < (t : Int); exact w1 hp (by omega) t h9 b c d; (obtain rfl : t = y6_5.toInt.toNat := (by omega); rw [show ((y6_5.toInt.toNat : Nat) : Int) = y6_5.toInt by omega, ← hto hp]; omega))) (show zc_hid ((0 ≤ p1.toInt ∧ p1.toInt ≤ 5 → 0 < y5_4.toInt → zp_wx σ0 (σ0.1 4 3).toInt (σ0.1 4 4).toInt p1.toInt p3.toInt)) by exact w2) (by omega))
      exfalso; omega
  exact zc_sub [3, 4, 5, 6, 2, 1, 0] rfl (L9_10 66 c1 c2 p3 (by omega) (by omega) (by omega) (by omega) (by omega) (by omega) (show c1.toInt ≤ 999 * c2.toInt by omega) (show c2.toInt + p3.toInt ≤ p3.toInt by omega) (show p3.toInt ≤ p3.toInt by omega) (show 0 ≤ c2.toInt by omega) (show zc_hid ((0 ≤ p1.toInt ∧ p1.toInt ≤ 5 → c2.toInt = 0 → ∀ t : Nat, p3.toInt < (t : Int) → (t : Int) ≤ p3.toInt → zp_k (zx_A σ0) (σ0.1 4 3).toInt p3.toInt t → (σ0.1 4 4).toInt ≤ (t : Int) → (σ0.1 21 (p1.toInt * 64 + ((t : Int) - (σ0.1 4 4).toInt)).toNat).toInt = -4)) by intro hp h0 t a b; exfalso; omega) (show zc_hid ((0 ≤ p1.toInt ∧ p1.toInt ≤ 5 → 0 < c2.toInt → zp_wx σ0 (σ0.1 4 3).toInt (σ0.1 4 4).toInt p1.toInt p3.toInt)) by intro hp h9; exfalso; omega) (by omega))

set_option maxHeartbeats 1000000 in
set_option maxRecDepth 100000 in
theorem c_X3_join_4 (K : zc_K) (hi : zc_inj shX K.2.2.2.1) (σ0 : zc_S) (p1 : Int32) (p2 : Int32) (hO0 : zc_O okX σ0) (h1a : 0 ≤ p1.toInt) (h1b : p1.toInt ≤ 5) (h2a : 0 ≤ p2.toInt) (h2b : p2.toInt ≤ 63) : zc_M shX K yX3_join cX3_join 8 (some .int) (zrm 3 73) σ0 [.ref (zk K 4), .int p1, .int p2] (zc_I (fun r9 σ9 => σ0 = σ9 ∧ (-4) ≤ r9.toInt ∧ r9.toInt ≤ 999 ∧ (r9.toInt = (-4) ∨ 0 ≤ r9.toInt) ∧ zc_hid ((1 ≤ (σ0.1 19 p1.toInt.toNat).toInt → zp_o r9.toInt (zp_jx σ0 (σ0.1 4 3).toInt (σ0.1 4 4).toInt p1.toInt p2.toInt))))) := by
  refine zc_start RX3 hi pfX3_join rfl (Nat.le_of_ble_eq_true rfl) ?_
  intro G hG
  have hB := hG.1
  show zc_V 8 K G (zc_D shX K G σ0) [(0, .ref (zk K 4)), (1, .int p1), (2, .int p2)] 0 []
  have bw4_3 : 0 ≤ (σ0.1 4 3).toInt ∧ (σ0.1 4 3).toInt ≤ 3 := ⟨(hO0 4 3).1, (hO0 4 3).2.1⟩
  have bw4_4 : 0 ≤ (σ0.1 4 4).toInt ∧ (σ0.1 4 4).toInt ≤ 14 := ⟨(hO0 4 4).1, (hO0 4 4).2.1⟩
  refine zr_iconst hB dX3_join_0 rfl (fun c1 ec1 => ?_)
  refine zr_istore_n hB dX3_join_1 rfl (by decide) (lv' := [(3, .int c1), (0, .ref (zk K 4)), (1, .int p1), (2, .int p2)]) rfl ?_
  refine zr_iconst hB dX3_join_2 rfl (fun c2 ec2 => ?_)
  refine zr_istore hB dX3_join_3 (by decide) (lv' := [(4, .int c2), (3, .int c1), (0, .ref (zk K 4)), (1, .int p1), (2, .int p2)]) rfl ?_
  refine zr_iconst hB dX3_join_5 rfl (fun c3 ec3 => ?_)
  refine zr_istore hB dX3_join_6 (by decide) (lv' := [(5, .int c3), (4, .int c2), (3, .int c1), (0, .ref (zk K 4)), (1, .int p1), (2, .int p2)]) rfl ?_
  have L8_11 : ∀ (n8 : Nat) (y3_4 : Int32) (y4_5 : Int32) (y5_6 : Int32), 0 ≤ y3_4.toInt → y3_4.toInt ≤ 4995000 → 0 ≤ y4_5.toInt → y4_5.toInt ≤ 5000 → 0 ≤ y5_6.toInt → y5_6.toInt ≤ 5 → y3_4.toInt ≤ 999 * y4_5.toInt → y4_5.toInt ≤ 1000 * y5_6.toInt → y5_6.toInt ≤ p1.toInt → 0 ≤ y4_5.toInt → (zc_hid ((1 ≤ (σ0.1 19 p1.toInt.toNat).toInt → y4_5.toInt = 0 → ∀ i : Nat, (i : Int) < y5_6.toInt → ¬ (σ0.1 18 i).toInt = 4 → ¬ (σ0.1 21 ((i : Int) * 64 + p2.toInt).toNat).toInt = -4 → ¬ zp_wx σ0 (σ0.1 4 3).toInt (σ0.1 4 4).toInt (i : Int) p2.toInt))) → (zc_hid ((1 ≤ (σ0.1 19 p1.toInt.toNat).toInt → 0 < y4_5.toInt → zp_jx σ0 (σ0.1 4 3).toInt (σ0.1 4 4).toInt p1.toInt p2.toInt))) → 5 - y5_6.toInt < (n8 : Int) → zc_V 8 K G (zc_D shX K G σ0) [(0, .ref (zk K 4)), (1, .int p1), (2, .int p2), (3, .int y3_4), (4, .int y4_5), (5, .int y5_6)] 8 [] := by
    intro n8
    induction n8 with
    | zero => intro y3_4 y4_5 y5_6 y3_4a y3_4b y4_5a y4_5b y5_6a y5_6b e7 e8 e9 e10 j1 j2 hn8; exfalso; omega
    | succ n8 ih8 =>
      intro y3_4 y4_5 y5_6 y3_4a y3_4b y4_5a y4_5b y5_6a y5_6b e7 e8 e9 e10 j1 j2 hn8
      refine zr_iload hB 5 dX3_join_8 rfl ?_
      refine zr_iload_n hB 1 dX3_join_10 rfl ?_
      refine zr_icmp_ge hB dX3_join_11 (tgt := 88) rfl (fun c12 => ?_) (fun c12 => ?_)
      · refine zr_iload hB 4 dX3_join_88 rfl ?_
        refine zr_if_ne hB dX3_join_90 (tgt := 98) rfl (fun c13 => ?_) (fun c13 => ?_)
        · refine zr_iload_n hB 3 dX3_join_98 rfl ?_
          refine zr_iload hB 4 dX3_join_99 rfl ?_
          refine zr_idiv hB dX3_join_101 (by omega) (by omega) (fun x14 ex14 ex14a ex14b ex14c => ?_)
          have ex14d := ex14c 999 (by omega)
          exact zr_iret hG dX3_join_102 ⟨rfl, by omega, by omega, by omega, (fun hp => zp_o.y (by omega) (j2 hp (by omega)))⟩
        refine zr_bipush hB dX3_join_93 rfl (fun c15 ec15 => ?_)
        refine zr_goto hB dX3_join_95 (tgt := 102) rfl ?_
        exact zr_iret hG dX3_join_102 ⟨rfl, by omega, by omega, by omega, (fun hp => zp_o.n (by omega) (by rintro ⟨i, a, b, c, d⟩; exact j1 hp (by omega) i (by omega) b c d))⟩
      refine zr_aload_n hB 0 dX3_join_14 rfl ?_
      refine zr_getr hG 4 5 dX3_join_15 rfl wf_X3_9 rfl ?_
      refine zr_iload hB 5 dX3_join_18 rfl ?_
      refine zr_bipush hB dX3_join_20 rfl (fun c16 ec16 => ?_)
      refine zr_imulc hB dX3_join_22 ec16 (by omega) (by omega) (fun x17 ex17 => ?_)
      refine zr_iload_n hB 2 dX3_join_23 rfl ?_
      refine zr_iadd hB dX3_join_24 (by omega) (by omega) (fun x18 ex18 => ?_)
      refine zr_iald hG 21 dX3_join_25 rfl (by omega) (by omega) (fun x19 ex19 => ?_)
      have bx19 : (-4) ≤ x19.toInt ∧ x19.toInt ≤ 999 ∧ (x19.toInt = (-4) ∨ 0 ≤ x19.toInt) := by rw [ex19]; exact hO0 21 _
      refine zr_istore hB dX3_join_26 (by decide) (lv' := [(6, .int x19), (0, .ref (zk K 4)), (1, .int p1), (2, .int p2), (3, .int y3_4), (4, .int y4_5), (5, .int y5_6)]) rfl ?_
      refine zr_aload_n hB 1 dX3_join_28 rfl ?_
      refine zr_getr hG 4 1 dX3_join_29 rfl wf_X3_28 rfl ?_
      refine zr_getr hG 3 1 dX3_join_32 rfl wf_X3_62 rfl ?_
      refine zr_iload hB 6 dX3_join_35 rfl ?_
      refine zr_iald hG 18 dX3_join_37 rfl (by omega) (by omega) (fun x20 ex20 => ?_)
      have bx20 : 0 ≤ x20.toInt ∧ x20.toInt ≤ 4 := by rw [ex20]; exact ⟨(hO0 18 _).1, (hO0 18 _).2.1⟩
      refine zr_iconst hB dX3_join_38 rfl (fun c21 ec21 => ?_)
      refine zr_icmp_eq hB dX3_join_39 (tgt := 82) rfl (fun c22 => ?_) (fun c22 => ?_)
      · refine zr_iinc hB 6 dX3_join_82 rfl (by decide) rfl (by omega) (by omega) (fun x23 ex23 lv' hlv => ?_)
        obtain rfl : [(5, .int x23), (6, .int x19), (0, .ref (zk K 4)), (1, .int p1), (2, .int p2), (3, .int y3_4), (4, .int y4_5)] = lv' := hlv
        refine zr_goto hB dX3_join_85 (tgt := 8) rfl ?_
        exact zc_sub [2, 3, 4, 5, 6, 0] rfl (ih8 y3_4 y4_5 x23 (by omega) (by omega) (by omega) (by omega) (by omega) (by omega) (show y3_4.toInt ≤ 999 * y4_5.toInt by omega) (show y4_5.toInt ≤ 1000 * x23.toInt by omega) (show x23.toInt ≤ p1.toInt by omega) (show 0 ≤ y4_5.toInt by omega) (show zc_hid ((1 ≤ (σ0.1 19 p1.toInt.toNat).toInt → y4_5.toInt = 0 → ∀ i : Nat, (i : Int) < x23.toInt → ¬ (σ0.1 18 i).toInt = 4 → ¬ (σ0.1 21 ((i : Int) * 64 + p2.toInt).toNat).toInt = -4 → ¬ zp_wx σ0 (σ0.1 4 3).toInt (σ0.1 4 4).toInt (i : Int) p2.toInt)) by intro hp h0 i hi c d; by_cases h9 : (i : Int) < y5_6.toInt; exact j1 hp (by omega) i h9 c d; (obtain rfl : i = y5_6.toInt.toNat := (by omega); exfalso; rw [show ((y5_6.toInt.toNat : Nat) : Int) = y5_6.toInt by omega, show (σ0.1 21 (y5_6.toInt * 64 + p2.toInt).toNat).toInt = x19.toInt by rw [ex19, show x18.toInt.toNat = (y5_6.toInt * 64 + p2.toInt).toNat by omega]] at d; have hq := congrArg Int32.toInt ex20; omega)) (show zc_hid ((1 ≤ (σ0.1 19 p1.toInt.toNat).toInt → 0 < y4_5.toInt → zp_jx σ0 (σ0.1 4 3).toInt (σ0.1 4 4).toInt p1.toInt p2.toInt)) by exact j2) (by omega))
      refine zr_iload hB 0 dX3_join_42 rfl ?_
      refine zr_bipush hB dX3_join_44 rfl (fun c24 ec24 => ?_)
      refine zr_icmp_eq hB dX3_join_46 (tgt := 82) rfl (fun c25 => ?_) (fun c25 => ?_)
      · refine zr_iinc hB 6 dX3_join_82 rfl (by decide) rfl (by omega) (by omega) (fun x26 ex26 lv' hlv => ?_)
        obtain rfl : [(5, .int x26), (6, .int x19), (0, .ref (zk K 4)), (1, .int p1), (2, .int p2), (3, .int y3_4), (4, .int y4_5)] = lv' := hlv
        refine zr_goto hB dX3_join_85 (tgt := 8) rfl ?_
        exact zc_sub [2, 3, 4, 5, 6, 0] rfl (ih8 y3_4 y4_5 x26 (by omega) (by omega) (by omega) (by omega) (by omega) (by omega) (show y3_4.toInt ≤ 999 * y4_5.toInt by omega) (show y4_5.toInt ≤ 1000 * x26.toInt by omega) (show x26.toInt ≤ p1.toInt by omega) (show 0 ≤ y4_5.toInt by omega) (show zc_hid ((1 ≤ (σ0.1 19 p1.toInt.toNat).toInt → y4_5.toInt = 0 → ∀ i : Nat, (i : Int) < x26.toInt → ¬ (σ0.1 18 i).toInt = 4 → ¬ (σ0.1 21 ((i : Int) * 64 + p2.toInt).toNat).toInt = -4 → ¬ zp_wx σ0 (σ0.1 4 3).toInt (σ0.1 4 4).toInt (i : Int) p2.toInt)) by intro hp h0 i hi c d; by_cases h9 : (i : Int) < y5_6.toInt; exact j1 hp (by omega) i h9 c d; (obtain rfl : i = y5_6.toInt.toNat := (by omega); exfalso; rw [show ((y5_6.toInt.toNat : Nat) : Int) = y5_6.toInt by omega, show (σ0.1 21 (y5_6.toInt * 64 + p2.toInt).toNat).toInt = x19.toInt by rw [ex19, show x18.toInt.toNat = (y5_6.toInt * 64 + p2.toInt).toNat by omega]] at d; have hq := congrArg Int32.toInt ex20; omega)) (show zc_hid ((1 ≤ (σ0.1 19 p1.toInt.toNat).toInt → 0 < y4_5.toInt → zp_jx σ0 (σ0.1 4 3).toInt (σ0.1 4 4).toInt p1.toInt p2.toInt)) by exact j2) (by omega))
      refine zr_aload_n hB 1 dX3_join_49 rfl ?_
      refine zr_iload hB 6 dX3_join_50 rfl ?_
      refine zr_aload_n hB 1 dX3_join_52 rfl ?_
      refine zr_getr hG 4 1 dX3_join_53 rfl wf_X3_28 rfl ?_
      refine zr_getr hG 3 2 dX3_join_56 rfl wf_X3_76 rfl ?_
      refine zr_iload_n hB 2 dX3_join_59 rfl ?_
      refine zr_iald hG 19 dX3_join_60 rfl (by omega) (by omega) (fun x27 ex27 => ?_)
      refine zr_iload_n hB 3 dX3_join_61 rfl ?_
      refine zr_callvi hG (rest := []) 4 dX3_join_62 wm_X3_86 rfl rfl (c_X3_weightOf_4 K hG.2.2.2.2.2.1 σ0 y5_6 x27 p2 hO0 (by omega) (by omega)) rfl rfl (Nat.le_of_ble_eq_true rfl) ⟨Nat.le_of_ble_eq_true rfl, Nat.le_of_ble_eq_true rfl, rfl, rfl⟩ (fun r28 σ29 h30 => ?_)
      obtain ⟨rfl, r28a, r28b, g31⟩ := h30
      have hw : zc_hid (1 ≤ (σ0.1 19 p1.toInt.toNat).toInt → ((r28.toInt = 0 ∧ ¬ zp_wx σ0 (σ0.1 4 3).toInt (σ0.1 4 4).toInt y5_6.toInt p2.toInt) ∨ (1 ≤ r28.toInt ∧ zp_wx σ0 (σ0.1 4 3).toInt (σ0.1 4 4).toInt y5_6.toInt p2.toInt))) := by intro hp; have h8 : x27.toInt = (σ0.1 19 p1.toInt.toNat).toInt := (by rw [ex27]); exact g31 (by omega) (by omega)
      refine zr_istore hB dX3_join_65 (by decide) (lv' := [(7, .int r28), (6, .int x19), (0, .ref (zk K 4)), (1, .int p1), (2, .int p2), (3, .int y3_4), (4, .int y4_5), (5, .int y5_6)]) rfl ?_
      refine zr_iload_n hB 5 dX3_join_67 rfl ?_
      refine zr_iload hB 0 dX3_join_68 rfl ?_
      refine zr_iload hB 1 dX3_join_70 rfl ?_
      refine zr_imulb hB dX3_join_72 (A := 1000) (B := 999) (by omega) (by omega) (by omega) (by omega) (by decide) (fun x32 ex32 ex32a ex32b ex32c ex32d => ?_)
      refine zr_iadd hB dX3_join_73 (by omega) (by omega) (fun x33 ex33 => ?_)
      refine zr_istore_n hB dX3_join_74 rfl (by decide) (lv' := [(3, .int x33), (7, .int r28), (6, .int x19), (0, .ref (zk K 4)), (1, .int p1), (2, .int p2), (4, .int y4_5), (5, .int y5_6)]) rfl ?_
      refine zr_iload hB 6 dX3_join_75 rfl ?_
      refine zr_iload hB 1 dX3_join_77 rfl ?_
      refine zr_iadd hB dX3_join_79 (by omega) (by omega) (fun x34 ex34 => ?_)
      refine zr_istore hB dX3_join_80 (by decide) (lv' := [(4, .int x34), (3, .int x33), (7, .int r28), (6, .int x19), (0, .ref (zk K 4)), (1, .int p1), (2, .int p2), (5, .int y5_6)]) rfl ?_
      refine zr_iinc hB 7 dX3_join_82 rfl (by decide) rfl (by omega) (by omega) (fun x35 ex35 lv' hlv => ?_)
      obtain rfl : [(5, .int x35), (4, .int x34), (3, .int x33), (7, .int r28), (6, .int x19), (0, .ref (zk K 4)), (1, .int p1), (2, .int p2)] = lv' := hlv
      refine zr_goto hB dX3_join_85 (tgt := 8) rfl ?_
      exact zc_sub [5, 6, 7, 2, 1, 0] rfl (ih8 x33 x34 x35 (by omega) (by omega) (by omega) (by omega) (by omega) (by omega) (show x33.toInt ≤ 999 * x34.toInt by omega) (show x34.toInt ≤ 1000 * x35.toInt by omega) (show x35.toInt ≤ p1.toInt by omega) (show 0 ≤ x34.toInt by omega) (show zc_hid ((1 ≤ (σ0.1 19 p1.toInt.toNat).toInt → x34.toInt = 0 → ∀ i : Nat, (i : Int) < x35.toInt → ¬ (σ0.1 18 i).toInt = 4 → ¬ (σ0.1 21 ((i : Int) * 64 + p2.toInt).toNat).toInt = -4 → ¬ zp_wx σ0 (σ0.1 4 3).toInt (σ0.1 4 4).toInt (i : Int) p2.toInt)) by intro hp h0 i hi c d; by_cases h9 : (i : Int) < y5_6.toInt; exact j1 hp (by omega) i h9 c d; (obtain rfl : i = y5_6.toInt.toNat := (by omega); rcases hw hp with ⟨a, b⟩ | ⟨a, b⟩; (rw [show ((y5_6.toInt.toNat : Nat) : Int) = y5_6.toInt by omega]; exact b); (exfalso; omega))) (show zc_hid ((1 ≤ (σ0.1 19 p1.toInt.toNat).toInt → 0 < x34.toInt → zp_jx σ0 (σ0.1 4 3).toInt (σ0.1 4 4).toInt p1.toInt p2.toInt)) by intro hp h9; by_cases h8 : y4_5.toInt = 0; (rcases hw hp with ⟨a, b⟩ | ⟨a, b⟩; (exfalso; omega); exact ⟨y5_6.toInt.toNat, by omega, (by have hq := congrArg Int32.toInt ex20; omega), (by rw [show ((y5_6.toInt.toNat : Nat) : Int) = y5_6.toInt by omega, show (σ0.1 21 (y5_6.toInt * 64 + p2.toInt).toNat).toInt = x19.toInt by rw [ex19, show x18.toInt.toNat = (y5_6.toInt * 64 + p2.toInt).toNat by omega]]; omega), (by rw [show ((y5_6.toInt.toNat : Nat) : Int) = y5_6.toInt by omega]; exact b)⟩); exact j2 hp (by omega)) (by omega))
  exact zc_sub [3, 4, 5, 2, 1, 0] rfl (L8_11 7 c1 c2 c3 (by omega) (by omega) (by omega) (by omega) (by omega) (by omega) (show c1.toInt ≤ 999 * c2.toInt by omega) (show c2.toInt ≤ 1000 * c3.toInt by omega) (show c3.toInt ≤ p1.toInt by omega) (show 0 ≤ c2.toInt by omega) (show zc_hid ((1 ≤ (σ0.1 19 p1.toInt.toNat).toInt → c2.toInt = 0 → ∀ i : Nat, (i : Int) < c3.toInt → ¬ (σ0.1 18 i).toInt = 4 → ¬ (σ0.1 21 ((i : Int) * 64 + p2.toInt).toNat).toInt = -4 → ¬ zp_wx σ0 (σ0.1 4 3).toInt (σ0.1 4 4).toInt (i : Int) p2.toInt)) by intro hp h0 i hi; exfalso; omega) (show zc_hid ((1 ≤ (σ0.1 19 p1.toInt.toNat).toInt → 0 < c2.toInt → zp_jx σ0 (σ0.1 4 3).toInt (σ0.1 4 4).toInt p1.toInt p2.toInt)) by intro hp h9; exfalso; omega) (by omega))

def m_X3_run_4 : zc_ms := [(4, some 3), (4, some 4), (21, none), (9, some 2), (43, none)]
set_option maxHeartbeats 1000000 in
set_option maxRecDepth 100000 in
theorem c_X3_run_4 (K : zc_K) (hi : zc_inj shX K.2.2.2.1) (σ0 : zc_S) (p1 : Int32) (p2 : Int32) (p3 : Int32) (p4 : Int32) (p5 : Int32) (hO0 : zc_O okX σ0) (h1a : 0 ≤ p1.toInt) (h1b : p1.toInt ≤ 3) (h3a : 1 ≤ p3.toInt) (h3b : p3.toInt ≤ 14) : zc_M shX K yX3_run cX3_run 9 none (zrm 5 134) σ0 [.ref (zk K 4), .int p1, .int p2, .int p3, .int p4, .int p5] (zc_N (fun σ9 => zc_O okX σ9 ∧ zc_Ag m_X3_run_4 σ0 σ9 ∧ zc_hid ((0 ≤ p2.toInt → p2.toInt < (σ0.1 3 0).toInt → ∀ d : Nat, p4.toInt ≤ (d : Int) → (d : Int) ≤ p5.toInt → d ≤ 63 → zp_Z σ0 → zp_o (σ9.1 21 (p2.toInt.toNat * 64 + d)).toInt (zp_B (zx_A σ0) (zp_f 15 σ0) p1.toInt (zw_TX σ0) p3.toInt p2.toInt.toNat (d : Int)))))) := by
  refine zc_start RX3 hi pfX3_run rfl (Nat.le_of_ble_eq_true rfl) ?_
  intro G hG
  have hB := hG.1
  have hA0 : zc_Ag m_X3_run_4 σ0 σ0 := zc_Ag.rf
  show zc_V 9 K G (zc_D shX K G σ0) [(0, .ref (zk K 4)), (1, .int p1), (2, .int p2), (3, .int p3), (4, .int p4), (5, .int p5)] 0 []
  have bw3_0 : 0 ≤ (σ0.1 3 0).toInt ∧ (σ0.1 3 0).toInt ≤ 6 := ⟨(hO0 3 0).1, (hO0 3 0).2.1⟩
  have bw4_3 : 0 ≤ (σ0.1 4 3).toInt ∧ (σ0.1 4 3).toInt ≤ 3 := ⟨(hO0 4 3).1, (hO0 4 3).2.1⟩
  have bw4_4 : 0 ≤ (σ0.1 4 4).toInt ∧ (σ0.1 4 4).toInt ≤ 14 := ⟨(hO0 4 4).1, (hO0 4 4).2.1⟩
  refine zr_aload_n hB 0 dX3_run_0 rfl ?_
  refine zr_iload_n hB 1 dX3_run_1 rfl ?_
  refine zr_puti hG 4 3 dX3_run_2 rfl wp_X3_41 rfl ?_
  have hOw1 := zc_O.u hO0 4 3 (v := p1) (show 0 ≤ p1.toInt by omega) (show p1.toInt ≤ 3 by omega) (Or.inr (show 0 ≤ p1.toInt by omega))
  have hAw1 := zc_Ag.u hA0 4 3 p1 rfl
  refine zr_aload_n hB 0 dX3_run_5 rfl ?_
  refine zr_iload_n hB 3 dX3_run_6 rfl ?_
  refine zr_puti hG 4 4 dX3_run_7 rfl wp_X3_45 rfl ?_
  have hOw2 := zc_O.u hOw1 4 4 (v := p3) (show 0 ≤ p3.toInt by omega) (show p3.toInt ≤ 14 by omega) (Or.inr (show 0 ≤ p3.toInt by omega))
  have hAw2 := zc_Ag.u hAw1 4 4 p3 rfl
  refine zr_iload_n hB 2 dX3_run_10 rfl ?_
  refine zr_if_lt hB dX3_run_11 (tgt := 25) rfl (fun c3 => ?_) (fun c3 => ?_)
  · exact zr_vret hG dX3_run_25 ⟨hOw2, hAw2, (fun h1 h2 => by exfalso; omega)⟩
  refine zr_iload_n hB 2 dX3_run_14 rfl ?_
  refine zr_aload_n hB 0 dX3_run_15 rfl ?_
  refine zr_getr hG 4 1 dX3_run_16 rfl wf_X3_28 rfl ?_
  refine zr_geti' hG 3 0 (σ0.1 3 0) dX3_run_19 rfl wf_X3_48 rfl rfl ?_
  refine zr_icmp_lt hB dX3_run_22 (tgt := 26) rfl (fun c4 => ?_) (fun c4 => ?_)
  · refine zr_iload hB 4 dX3_run_26 rfl ?_
    refine zr_iconst hB dX3_run_28 rfl (fun c5 ec5 => ?_)
    refine zr_callsi hG (rest := []) dX3_run_29 wm_X3_53 (c_J9_max_7cf53 K hG.2.2.2.2.2.1 (zc_u (zc_u σ0 4 3 p1) 4 4 p3) p4 c5 hOw2 ) rfl rfl (Nat.le_of_ble_eq_true rfl) ⟨Nat.le_of_ble_eq_true rfl, Nat.le_of_ble_eq_true rfl, rfl, rfl⟩ (fun r6 σ7 h8 => ?_)
    obtain ⟨rfl, g9, g10, g11⟩ := h8
    refine zr_istore hB dX3_run_32 (by decide) (lv' := [(6, .int r6), (0, .ref (zk K 4)), (1, .int p1), (2, .int p2), (3, .int p3), (4, .int p4), (5, .int p5)]) rfl ?_
    refine zr_iload hB 6 dX3_run_34 rfl ?_
    refine zr_bipush hB dX3_run_36 rfl (fun c12 ec12 => ?_)
    refine zr_callsi hG (rest := []) dX3_run_38 wm_X3_59 (c_J9_min_7cf53 K hG.2.2.2.2.2.1 (zc_u (zc_u σ0 4 3 p1) 4 4 p3) p5 c12 hOw2 ) rfl rfl (Nat.le_of_ble_eq_true rfl) ⟨Nat.le_of_ble_eq_true rfl, Nat.le_of_ble_eq_true rfl, rfl, rfl⟩ (fun r13 σ14 h15 => ?_)
    obtain ⟨rfl, g16, g17, g18⟩ := h15
    refine zr_istore hB dX3_run_41 (by decide) (lv' := [(7, .int r13), (6, .int r6), (0, .ref (zk K 4)), (1, .int p1), (2, .int p2), (3, .int p3), (4, .int p4), (5, .int p5)]) rfl ?_
    refine zr_aload_n hB 2 dX3_run_43 rfl ?_
    refine zr_getr hG 4 1 dX3_run_44 rfl wf_X3_28 rfl ?_
    refine zr_getr hG 3 1 dX3_run_47 rfl wf_X3_62 rfl ?_
    refine zr_iload_n hB 4 dX3_run_50 rfl ?_
    refine zr_iald hG 18 dX3_run_51 rfl (by omega) (by omega) (fun x19 ex19 => ?_)
    have bx19 : 0 ≤ x19.toInt ∧ x19.toInt ≤ 4 := by rw [ex19]; exact ⟨(hOw2 18 _).1, (hOw2 18 _).2.1⟩
    refine zr_iconst hB dX3_run_52 rfl (fun c20 ec20 => ?_)
    refine zr_icmp_ne hB dX3_run_53 (tgt := 104) rfl (fun c21 => ?_) (fun c21 => ?_)
    · have hk4 : ¬ (σ0.1 18 p2.toInt.toNat).toInt = 4 := by rw [← (show x19 = σ0.1 18 p2.toInt.toNat from ex19)]; omega
      refine zr_aload_n hB 2 dX3_run_104 rfl ?_
      refine zr_iload_n hB 4 dX3_run_105 rfl ?_
      refine zr_iload_n hB 4 dX3_run_106 rfl ?_
      refine zr_iconst hB dX3_run_107 rfl (fun c22 ec22 => ?_)
      refine zr_iadd hB dX3_run_108 (by omega) (by omega) (fun x23 ex23 => ?_)
      refine zr_iload hB 1 dX3_run_109 rfl ?_
      refine zr_iload hB 0 dX3_run_111 rfl ?_
      refine zr_callvn hG (rest := []) 4 dX3_run_113 wm_X3_65 rfl rfl (c_X3_playPlain_4 K hG.2.2.2.2.2.1 (zc_u (zc_u σ0 4 3 p1) 4 4 p3) p2 x23 r6 r13 hOw2 (by omega) (by omega) (by omega) (by omega) (by omega) (by omega)) rfl rfl (Nat.le_of_ble_eq_true rfl) ⟨Nat.le_of_ble_eq_true rfl, Nat.le_of_ble_eq_true rfl, rfl, rfl⟩ (fun σ25 h26 => ?_)
      obtain ⟨hO27, hAc28, g29⟩ := h26
      have hA30 := zc_Ag.tr hAw2 hAc28 rfl
      have q31 : (σ25.1 3 0).toInt = (σ0.1 3 0).toInt := congrArg Int32.toInt (hAc28 3 0 rfl).1
      have q32 : (σ25.1 4 3).toInt = p1.toInt := congrArg Int32.toInt (hAc28 4 3 rfl).1
      have q33 : (σ25.1 4 4).toInt = p3.toInt := congrArg Int32.toInt (hAc28 4 4 rfl).1
      exact zr_vret hG dX3_run_116 ⟨hO27, hA30, (fun h1 h2 d a b c hz => by have h9 := g29 (show 1 ≤ p3.toInt by omega) p2.toInt.toNat d (by omega) (by omega) (by omega) (Or.inl (by omega)) c (hz p2.toInt.toNat (by omega)); rw [zp_XP.ag hAw2 rfl (fun _ => rfl) (fun _ => rfl) (fun _ => rfl) (fun _ => rfl) (fun _ => rfl) (fun _ => rfl) (fun _ => rfl)] at h9; exact h9.iff (zp_Bp hk4).symm)⟩
    have hk4 : (σ0.1 18 p2.toInt.toNat).toInt = 4 := by rw [← (show x19 = σ0.1 18 p2.toInt.toNat from ex19)]; omega
    refine zr_aload_n hB 2 dX3_run_56 rfl ?_
    refine zr_iconst hB dX3_run_57 rfl (fun c34 ec34 => ?_)
    refine zr_iload_n hB 4 dX3_run_58 rfl ?_
    refine zr_iconst hB dX3_run_59 rfl (fun c35 ec35 => ?_)
    refine zr_iload hB 0 dX3_run_60 rfl ?_
    refine zr_callvn hG (rest := []) 4 dX3_run_62 wm_X3_65 rfl rfl (c_X3_playPlain_4 K hG.2.2.2.2.2.1 (zc_u (zc_u σ0 4 3 p1) 4 4 p3) c34 p2 c35 r13 hOw2 (by omega) (by omega) (by omega) (by omega) (by omega) (by omega)) rfl rfl (Nat.le_of_ble_eq_true rfl) ⟨Nat.le_of_ble_eq_true rfl, Nat.le_of_ble_eq_true rfl, rfl, rfl⟩ (fun σ37 h38 => ?_)
    obtain ⟨hO39, hAc40, g41⟩ := h38
    have hA42 := zc_Ag.tr hAw2 hAc40 rfl
    have q43 : (σ37.1 3 0).toInt = (σ0.1 3 0).toInt := congrArg Int32.toInt (hAc40 3 0 rfl).1
    have q44 : (σ37.1 4 3).toInt = p1.toInt := congrArg Int32.toInt (hAc40 4 3 rfl).1
    have q45 : (σ37.1 4 4).toInt = p3.toInt := congrArg Int32.toInt (hAc40 4 4 rfl).1
    refine zr_iload hB 1 dX3_run_65 rfl ?_
    refine zr_istore hB dX3_run_67 (by decide) (lv' := [(8, .int r6), (7, .int r13), (6, .int r6), (0, .ref (zk K 4)), (1, .int p1), (2, .int p2), (3, .int p3), (4, .int p4), (5, .int p5)]) rfl ?_
    have L69_51 : ∀ (n69 : Nat) (σ47 : zc_S) (y8_46 : Int32), zc_O okX σ47 → zc_Ag m_X3_run_4 σ0 σ47 → 0 ≤ y8_46.toInt → r6.toInt ≤ y8_46.toInt → (σ47.1 4 3).toInt = p1.toInt → (σ47.1 4 4).toInt = p3.toInt → zp_Q σ0 σ47 p1.toInt p3.toInt 0 p2.toInt 0 (r13.toInt + 1) 0 → ((∀ d : Nat, r6.toInt ≤ (d : Int) → (d : Int) < y8_46.toInt → d ≤ 63 → zp_Z σ0 → zp_o (σ47.1 21 (p2.toInt.toNat * 64 + d)).toInt (zp_J (zx_A σ0) (zp_f 15 σ0) p1.toInt (zw_TX σ0) p3.toInt p2.toInt.toNat (d : Int)))) → 2147483647 - y8_46.toInt < (n69 : Int) → zc_V 9 K G (zc_D shX K G σ47) [(0, .ref (zk K 4)), (1, .int p1), (2, .int p2), (3, .int p3), (4, .int p4), (5, .int p5), (6, .int r6), (7, .int r13), (8, .int y8_46)] 69 [] := by
      intro n69
      induction n69 with
      | zero => intro σ47 y8_46 hO47 hA47 y8_46a e48 e49 e50 hQ hD hn69; have vy8_46 := And.intro (zn_lo y8_46) (zn_hi y8_46); exfalso; omega
      | succ n69 ih69 =>
        intro σ47 y8_46 hO47 hA47 y8_46a e48 e49 e50 hQ hD hn69
        have vy8_46 := And.intro (zn_lo y8_46) (zn_hi y8_46)
        refine zr_iload hB 8 dX3_run_69 rfl ?_
        refine zr_iload hB 7 dX3_run_71 rfl ?_
        refine zr_icmp_gt hB dX3_run_73 (tgt := 101) rfl (fun c52 => ?_) (fun c52 => ?_)
        · refine zr_goto hB dX3_run_101 (tgt := 116) rfl ?_
          exact zr_vret hG dX3_run_116 ⟨hO47, hA47, (fun h1 h2 d a b c hz => (hD d (by omega) (by omega) c hz).iff (zp_Bj hk4).symm)⟩
        refine zr_aload_n hB 0 dX3_run_76 rfl ?_
        refine zr_getr hG 4 5 dX3_run_77 rfl wf_X3_9 rfl ?_
        refine zr_iload_n hB 2 dX3_run_80 rfl ?_
        refine zr_bipush hB dX3_run_81 rfl (fun c53 ec53 => ?_)
        refine zr_imulc hB dX3_run_83 ec53 (by omega) (by omega) (fun x54 ex54 => ?_)
        refine zr_iload hB 8 dX3_run_84 rfl ?_
        refine zr_iadd hB dX3_run_86 (by omega) (by omega) (fun x55 ex55 => ?_)
        refine zr_aload_n hB 0 dX3_run_87 rfl ?_
        refine zr_iload_n hB 2 dX3_run_88 rfl ?_
        refine zr_iload hB 8 dX3_run_89 rfl ?_
        refine zr_callvi hG (rest := [.int x55, .ref (zk K 21)]) 4 dX3_run_91 wm_X3_69 rfl rfl (c_X3_join_4 K hG.2.2.2.2.2.1 σ47 p2 y8_46 hO47 (by omega) (by omega) (by omega) (by omega)) rfl rfl (Nat.le_of_ble_eq_true rfl) ⟨Nat.le_of_ble_eq_true rfl, Nat.le_of_ble_eq_true rfl, rfl, rfl⟩ (fun r56 σ57 h58 => ?_)
        obtain ⟨rfl, r56a, r56b, r56h, g59⟩ := h58
        have h8 : (σ47.1 19 p2.toInt.toNat).toInt = (σ0.1 19 p2.toInt.toNat).toInt := by rw [(hA47 19 _ rfl).1]
        have hr91 : zc_hid (zp_Z σ0 → zp_o r56.toInt (zp_J (zx_A σ0) (zp_f 15 σ0) p1.toInt (zw_TX σ0) p3.toInt p2.toInt.toNat y8_46.toInt)) := by intro hz; have h7 := hz p2.toInt.toNat (by omega); have h9 := g59 (by omega); rw [show (σ47.1 4 3).toInt = p1.toInt by omega, show (σ47.1 4 4).toInt = p3.toInt by omega] at h9; exact h9.iff (zp_jJ hQ (by omega) (by omega) (by omega) (by omega) (fun i hi => hz i (by omega)) (fun i => (hA47 18 i rfl).1) (fun c on => zx_A.ag hA47 rfl (fun _ => rfl) (fun _ => rfl) (fun _ => rfl) (fun _ => rfl) c on))
        refine zr_iast hG 21 dX3_run_94 rfl (by omega) (by omega)  ?_
        have hOw60 := zc_O.u hO47 21 x55.toInt.toNat (v := r56) (show (-4) ≤ r56.toInt by omega) (show r56.toInt ≤ 999 by omega) (show r56.toInt = (-4) ∨ 0 ≤ r56.toInt by omega)
        have hAw60 := zc_Ag.u hA47 21 x55.toInt.toNat r56 rfl
        refine zr_iinc hB 8 dX3_run_95 rfl (by decide) rfl (by omega) (by omega) (fun x61 ex61 lv' hlv => ?_)
        obtain rfl : [(8, .int x61), (0, .ref (zk K 4)), (1, .int p1), (2, .int p2), (3, .int p3), (4, .int p4), (5, .int p5), (6, .int r6), (7, .int r13)] = lv' := hlv
        refine zr_goto hB dX3_run_98 (tgt := 69) rfl ?_
        have b62 : 0 ≤ (σ47.1 4 3).toInt ∧ (σ47.1 4 3).toInt ≤ 3 := ⟨(hOw60 4 3).1, (hOw60 4 3).2.1⟩
        have b63 : 0 ≤ (σ47.1 4 4).toInt ∧ (σ47.1 4 4).toInt ≤ 14 := ⟨(hOw60 4 4).1, (hOw60 4 4).2.1⟩
        exact zc_sub [1, 2, 3, 4, 5, 6, 7, 8, 0] rfl (ih69 (zc_u σ47 21 x55.toInt.toNat r56) x61 hOw60 hAw60 (by omega) (show r6.toInt ≤ x61.toInt by omega) (show (σ47.1 4 3).toInt = p1.toInt by omega) (show (σ47.1 4 4).toInt = p3.toInt by omega) (show zp_Q σ0 (zc_u σ47 21 x55.toInt.toNat r56) p1.toInt p3.toInt 0 p2.toInt 0 (r13.toInt + 1) 0 by exact zp_Qo hQ (by omega) (by omega)) (show (∀ d : Nat, r6.toInt ≤ (d : Int) → (d : Int) < x61.toInt → d ≤ 63 → zp_Z σ0 → zp_o ((zc_u σ47 21 x55.toInt.toNat r56).1 21 (p2.toInt.toNat * 64 + d)).toInt (zp_J (zx_A σ0) (zp_f 15 σ0) p1.toInt (zw_TX σ0) p3.toInt p2.toInt.toNat (d : Int))) by intro d h1 h2 h3 hz; rw [zc_u_at]; unfold upd; by_cases h9 : d = y8_46.toInt.toNat; (rw [if_pos (by omega), h9, show ((y8_46.toInt.toNat : Nat) : Int) = y8_46.toInt by omega]; exact hr91 hz); (rw [if_neg (by omega)]; exact hD d h1 (by omega) h3 hz)) (by omega))
    have b64 : 0 ≤ (σ37.1 4 3).toInt ∧ (σ37.1 4 3).toInt ≤ 3 := ⟨(hO39 4 3).1, (hO39 4 3).2.1⟩
    have b65 : 0 ≤ (σ37.1 4 4).toInt ∧ (σ37.1 4 4).toInt ≤ 14 := ⟨(hO39 4 4).1, (hO39 4 4).2.1⟩
    exact zc_sub [3, 4, 5, 6, 7, 8, 2, 1, 0] rfl (L69_51 2147483649 σ37 r6 hO39 hA42 (by omega) (show r6.toInt ≤ r6.toInt by omega) (show (σ37.1 4 3).toInt = p1.toInt by omega) (show (σ37.1 4 4).toInt = p3.toInt by omega) (show zp_Q σ0 σ37 p1.toInt p3.toInt 0 p2.toInt 0 (r13.toInt + 1) 0 by intro i d g1 g2 g3 g4 g5 g6; have h9 := g41 (show 1 ≤ p3.toInt by omega) i d (by omega) (by omega) (by omega) (by omega) g5 g6; rw [zp_XP.ag hAw2 rfl (fun _ => rfl) (fun _ => rfl) (fun _ => rfl) (fun _ => rfl) (fun _ => rfl) (fun _ => rfl) (fun _ => rfl)] at h9; exact h9) (show (∀ d : Nat, r6.toInt ≤ (d : Int) → (d : Int) < r6.toInt → d ≤ 63 → zp_Z σ0 → zp_o (σ37.1 21 (p2.toInt.toNat * 64 + d)).toInt (zp_J (zx_A σ0) (zp_f 15 σ0) p1.toInt (zw_TX σ0) p3.toInt p2.toInt.toNat (d : Int))) by intro d h1 h2; exfalso; omega) (by omega))
  exact zr_vret hG dX3_run_25 ⟨hOw2, hAw2, (fun h1 h2 => by exfalso; omega)⟩

def m_X3_compare_4 : zc_ms := [(4, some 3), (4, some 4), (21, none), (9, some 2), (43, none), (22, none), (4, some 7), (4, some 8)]
set_option maxHeartbeats 1000000 in
set_option maxRecDepth 100000 in
theorem c_X3_compare_4 (K : zc_K) (hi : zc_inj shX K.2.2.2.1) (σ0 : zc_S) (p1 : Int32) (p2 : Int32) (p3 : Int32) (p4 : Int32) (p5 : Int32) (hO0 : zc_O okX σ0) (h1a : 0 ≤ p1.toInt) (h1b : p1.toInt ≤ 3) (h3a : 1 ≤ p3.toInt) (h3b : p3.toInt ≤ 14) (h4a : 0 ≤ p4.toInt) (h4b : p4.toInt ≤ 63) (h5a : 0 ≤ p5.toInt) (h5b : p5.toInt ≤ 63) : zc_M shX K yX3_compare cX3_compare 9 none (zrm 6 162) σ0 [.ref (zk K 4), .int p1, .int p2, .int p3, .int p4, .int p5] (zc_N (fun σ9 => zc_O okX σ9 ∧ zc_Ag m_X3_compare_4 σ0 σ9)) := by
  refine zc_start RX3 hi pfX3_compare rfl (Nat.le_of_ble_eq_true rfl) ?_
  intro G hG
  have hB := hG.1
  have hA0 : zc_Ag m_X3_compare_4 σ0 σ0 := zc_Ag.rf
  show zc_V 9 K G (zc_D shX K G σ0) [(0, .ref (zk K 4)), (1, .int p1), (2, .int p2), (3, .int p3), (4, .int p4), (5, .int p5)] 0 []
  refine zr_aload_n hB 0 dX3_compare_0 rfl ?_
  refine zr_iload_n hB 1 dX3_compare_1 rfl ?_
  refine zr_iload_n hB 2 dX3_compare_2 rfl ?_
  refine zr_iload_n hB 3 dX3_compare_3 rfl ?_
  refine zr_iload hB 4 dX3_compare_4 rfl ?_
  refine zr_iload_n hB 3 dX3_compare_6 rfl ?_
  refine zr_isub hB dX3_compare_7 (by omega) (by omega) (fun x1 ex1 => ?_)
  refine zr_iload hB 5 dX3_compare_8 rfl ?_
  refine zr_aload_n hB 0 dX3_compare_10 rfl ?_
  refine zr_getr hG 4 0 dX3_compare_11 rfl wf_X3_24 rfl ?_
  refine zr_geti' hG 1 0 (σ0.1 1 0) dX3_compare_14 rfl wf_X3_102 rfl rfl ?_
  have b2 : 0 ≤ (σ0.1 1 0).toInt ∧ (σ0.1 1 0).toInt ≤ 63 := ⟨(hO0 1 0).1, (hO0 1 0).2.1⟩
  refine zr_callsi hG (rest := [.int x1, .int p3, .int p2, .int p1, .ref (zk K 4)]) dX3_compare_17 wm_X3_59 (c_J9_min_7cf53 K hG.2.2.2.2.2.1 σ0 p5 (σ0.1 1 0) hO0 ) rfl rfl (Nat.le_of_ble_eq_true rfl) ⟨Nat.le_of_ble_eq_true rfl, Nat.le_of_ble_eq_true rfl, rfl, rfl⟩ (fun r3 σ4 h5 => ?_)
  obtain ⟨rfl, g6, g7, g8⟩ := h5
  refine zr_iload_n hB 3 dX3_compare_20 rfl ?_
  refine zr_isub hB dX3_compare_21 (by omega) (by omega) (fun x9 ex9 => ?_)
  refine zr_callvn hG (rest := []) 4 dX3_compare_22 wm_X3_105 rfl rfl (c_X3_run_4 K hG.2.2.2.2.2.1 σ0 p1 p2 p3 x1 x9 hO0 (by omega) (by omega) (by omega) (by omega)) rfl rfl (Nat.le_of_ble_eq_true rfl) ⟨Nat.le_of_ble_eq_true rfl, Nat.le_of_ble_eq_true rfl, rfl, rfl⟩ (fun σ11 h12 => ?_)
  obtain ⟨hO13, hAc14, g15⟩ := h12
  have hA16 := zc_Ag.tr hA0 hAc14 rfl
  have q17 : (σ11.1 1 0).toInt = (σ0.1 1 0).toInt := congrArg Int32.toInt (hAc14 1 0 rfl).1
  refine zr_aload_n hB 0 dX3_compare_25 rfl ?_
  refine zr_getr hG 4 6 dX3_compare_26 rfl wf_X3_15 rfl ?_
  refine zr_ldc hB dX3_compare_29 wc_X3_109 (n := (-1000000)) rfl (fun c18 ec18 => ?_)
  refine zr_callsn hG (rest := []) dX3_compare_31 wm_X3_110 (c_J7_fill_53178_22 K hG.2.2.2.2.2.1 σ11 c18 hO13 (by omega) (by omega)) rfl rfl (Nat.le_of_ble_eq_true rfl) ⟨Nat.le_of_ble_eq_true rfl, Nat.le_of_ble_eq_true rfl, rfl, rfl⟩ (fun σ20 h21 => ?_)
  obtain ⟨hO22, hAc23⟩ := h21
  have hA24 := zc_Ag.tr hA16 hAc23 rfl
  have q25 : (σ20.1 1 0).toInt = (σ11.1 1 0).toInt := congrArg Int32.toInt (hAc23 1 0 rfl).1
  refine zr_aload_n hB 0 dX3_compare_34 rfl ?_
  refine zr_iconst hB dX3_compare_35 rfl (fun c26 ec26 => ?_)
  refine zr_puti hG 4 7 dX3_compare_36 rfl wp_X3_116 rfl ?_
  have hOw27 := zc_O.u hO22 4 7 (v := c26) (show 0 ≤ c26.toInt by omega) (show c26.toInt ≤ 64 by omega) (Or.inr (show 0 ≤ c26.toInt by omega))
  have hAw27 := zc_Ag.u hA24 4 7 c26 rfl
  refine zr_aload_n hB 0 dX3_compare_39 rfl ?_
  refine zr_iconst hB dX3_compare_40 rfl (fun c28 ec28 => ?_)
  refine zr_puti hG 4 8 dX3_compare_41 rfl wp_X3_119 rfl ?_
  have hOw29 := zc_O.u hOw27 4 8 (v := c28) (zn_lo _) (zn_hi _) (Or.inr (zn_lo _))
  have hAw29 := zc_Ag.u hAw27 4 8 c28 rfl
  refine zr_iload hB 4 dX3_compare_44 rfl ?_
  refine zr_aload_n hB 0 dX3_compare_46 rfl ?_
  refine zr_geti' hG 4 4 (σ20.1 4 4) dX3_compare_47 rfl wf_X3_45 rfl rfl ?_
  have b30 : 0 ≤ (σ20.1 4 4).toInt ∧ (σ20.1 4 4).toInt ≤ 14 := ⟨(hOw29 4 4).1, (hOw29 4 4).2.1⟩
  refine zr_callsi hG (rest := []) dX3_compare_50 wm_X3_53 (c_J9_max_7cf53 K hG.2.2.2.2.2.1 (zc_u (zc_u σ20 4 7 c26) 4 8 c28) p4 (σ20.1 4 4) hOw29 ) rfl rfl (Nat.le_of_ble_eq_true rfl) ⟨Nat.le_of_ble_eq_true rfl, Nat.le_of_ble_eq_true rfl, rfl, rfl⟩ (fun r31 σ32 h33 => ?_)
  obtain ⟨rfl, g34, g35, g36⟩ := h33
  refine zr_istore hB dX3_compare_53 (by decide) (lv' := [(6, .int r31), (0, .ref (zk K 4)), (1, .int p1), (2, .int p2), (3, .int p3), (4, .int p4), (5, .int p5)]) rfl ?_
  have L55_41 : ∀ (n55 : Nat) (σ38 : zc_S) (y6_37 : Int32), zc_O okX σ38 → zc_Ag m_X3_compare_4 σ0 σ38 → 0 ≤ y6_37.toInt → y6_37.toInt ≤ 64 → 0 ≤ (σ38.1 4 7).toInt → (σ38.1 4 7).toInt ≤ y6_37.toInt → 64 - y6_37.toInt < (n55 : Int) → zc_V 9 K G (zc_D shX K G σ38) [(0, .ref (zk K 4)), (1, .int p1), (2, .int p2), (3, .int p3), (4, .int p4), (5, .int p5), (6, .int y6_37)] 55 [] := by
    intro n55
    induction n55 with
    | zero => intro σ38 y6_37 hO38 hA38 y6_37a y6_37b e39 e40 hn55; exfalso; omega
    | succ n55 ih55 =>
      intro σ38 y6_37 hO38 hA38 y6_37a y6_37b e39 e40 hn55
      refine zr_iload hB 6 dX3_compare_55 rfl ?_
      refine zr_iload hB 5 dX3_compare_57 rfl ?_
      refine zr_icmp_gt hB dX3_compare_59 (tgt := 169) rfl (fun c42 => ?_) (fun c42 => ?_)
      · exact zr_vret hG dX3_compare_169 ⟨hO38, hA38⟩
      refine zr_iload hB 6 dX3_compare_62 rfl ?_
      refine zr_aload_n hB 0 dX3_compare_64 rfl ?_
      refine zr_getr hG 4 0 dX3_compare_65 rfl wf_X3_24 rfl ?_
      refine zr_geti' hG 1 0 (σ38.1 1 0) dX3_compare_68 rfl wf_X3_102 rfl rfl ?_
      have b43 : 0 ≤ (σ38.1 1 0).toInt ∧ (σ38.1 1 0).toInt ≤ 63 := ⟨(hO38 1 0).1, (hO38 1 0).2.1⟩
      refine zr_icmp_gt hB dX3_compare_71 (tgt := 169) rfl (fun c44 => ?_) (fun c44 => ?_)
      · exact zr_vret hG dX3_compare_169 ⟨hO38, hA38⟩
      refine zr_aload_n hB 0 dX3_compare_74 rfl ?_
      refine zr_iload_n hB 2 dX3_compare_75 rfl ?_
      refine zr_iload hB 6 dX3_compare_76 rfl ?_
      refine zr_aload_n hB 0 dX3_compare_78 rfl ?_
      refine zr_geti' hG 4 4 (σ38.1 4 4) dX3_compare_79 rfl wf_X3_45 rfl rfl ?_
      have b45 : 0 ≤ (σ38.1 4 4).toInt ∧ (σ38.1 4 4).toInt ≤ 14 := ⟨(hO38 4 4).1, (hO38 4 4).2.1⟩
      refine zr_isub hB dX3_compare_82 (by omega) (by omega) (fun x46 ex46 => ?_)
      refine zr_callvi hG (rest := []) 4 dX3_compare_83 wm_X3_90 rfl rfl (c_X3_toldBy_4 K hG.2.2.2.2.2.1 σ38 p2 x46 hO38 ) rfl rfl (Nat.le_of_ble_eq_true rfl) ⟨Nat.le_of_ble_eq_true rfl, Nat.le_of_ble_eq_true rfl, rfl, rfl⟩ (fun r47 σ48 h49 => ?_)
      obtain ⟨rfl, r47a, r47b, r47h, g50⟩ := h49
      refine zr_istore hB dX3_compare_86 (by decide) (lv' := [(7, .int r47), (0, .ref (zk K 4)), (1, .int p1), (2, .int p2), (3, .int p3), (4, .int p4), (5, .int p5), (6, .int y6_37)]) rfl ?_
      refine zr_aload_n hB 1 dX3_compare_88 rfl ?_
      refine zr_getr hG 4 0 dX3_compare_89 rfl wf_X3_24 rfl ?_
      refine zr_aload_n hB 1 dX3_compare_92 rfl ?_
      refine zr_geti' hG 4 3 (σ38.1 4 3) dX3_compare_93 rfl wf_X3_41 rfl rfl ?_
      have b51 : 0 ≤ (σ38.1 4 3).toInt ∧ (σ38.1 4 3).toInt ≤ 3 := ⟨(hO38 4 3).1, (hO38 4 3).2.1⟩
      refine zr_iload hB 7 dX3_compare_96 rfl ?_
      refine zr_aload_n hB 1 dX3_compare_98 rfl ?_
      refine zr_getr hG 4 0 dX3_compare_99 rfl wf_X3_24 rfl ?_
      refine zr_geti' hG 1 0 (σ38.1 1 0) dX3_compare_102 rfl wf_X3_102 rfl rfl ?_
      refine zr_callvi hG (rest := []) 1 dX3_compare_105 wm_X3_93 rfl rfl (c_X4_valueOn_1 K hG.2.2.2.2.2.1 σ38 (σ38.1 4 3) y6_37 (σ38.1 1 0) hO38 ) rfl rfl (Nat.le_of_ble_eq_true rfl) ⟨Nat.le_of_ble_eq_true rfl, Nat.le_of_ble_eq_true rfl, rfl, rfl⟩ (fun r52 σ53 h54 => ?_)
      obtain ⟨rfl, r52a, r52b, r52h, g55⟩ := h54
      refine zr_istore hB dX3_compare_108 (by decide) (lv' := [(8, .int r52), (7, .int r47), (0, .ref (zk K 4)), (1, .int p1), (2, .int p2), (3, .int p3), (4, .int p4), (5, .int p5), (6, .int y6_37)]) rfl ?_
      refine zr_iload hB 1 dX3_compare_110 rfl ?_
      refine zr_bipush hB dX3_compare_112 rfl (fun c56 ec56 => ?_)
      refine zr_icmp_eq hB dX3_compare_114 (tgt := 163) rfl (fun c57 => ?_) (fun c57 => ?_)
      · refine zr_iinc hB 8 dX3_compare_163 rfl (by decide) rfl (by omega) (by omega) (fun x58 ex58 lv' hlv => ?_)
        obtain rfl : [(6, .int x58), (8, .int r52), (7, .int r47), (0, .ref (zk K 4)), (1, .int p1), (2, .int p2), (3, .int p3), (4, .int p4), (5, .int p5)] = lv' := hlv
        refine zr_goto hB dX3_compare_166 (tgt := 55) rfl ?_
        have b59 : 0 ≤ (σ38.1 4 7).toInt ∧ (σ38.1 4 7).toInt ≤ 64 := ⟨(hO38 4 7).1, (hO38 4 7).2.1⟩
        exact zc_sub [3, 4, 5, 6, 7, 8, 0] rfl (ih55 σ38 x58 hO38 hA38 (by omega) (by omega) (show 0 ≤ (σ38.1 4 7).toInt by omega) (show (σ38.1 4 7).toInt ≤ x58.toInt by omega) (by omega))
      refine zr_iload hB 0 dX3_compare_117 rfl ?_
      refine zr_bipush hB dX3_compare_119 rfl (fun c60 ec60 => ?_)
      refine zr_icmp_eq hB dX3_compare_121 (tgt := 163) rfl (fun c61 => ?_) (fun c61 => ?_)
      · refine zr_iinc hB 8 dX3_compare_163 rfl (by decide) rfl (by omega) (by omega) (fun x62 ex62 lv' hlv => ?_)
        obtain rfl : [(6, .int x62), (8, .int r52), (7, .int r47), (0, .ref (zk K 4)), (1, .int p1), (2, .int p2), (3, .int p3), (4, .int p4), (5, .int p5)] = lv' := hlv
        refine zr_goto hB dX3_compare_166 (tgt := 55) rfl ?_
        have b63 : 0 ≤ (σ38.1 4 7).toInt ∧ (σ38.1 4 7).toInt ≤ 64 := ⟨(hO38 4 7).1, (hO38 4 7).2.1⟩
        exact zc_sub [3, 4, 5, 6, 7, 8, 0] rfl (ih55 σ38 x62 hO38 hA38 (by omega) (by omega) (show 0 ≤ (σ38.1 4 7).toInt by omega) (show (σ38.1 4 7).toInt ≤ x62.toInt by omega) (by omega))
      refine zr_aload_n hB 2 dX3_compare_124 rfl ?_
      refine zr_getr hG 4 6 dX3_compare_125 rfl wf_X3_15 rfl ?_
      refine zr_iload hB 8 dX3_compare_128 rfl ?_
      refine zr_iload hB 0 dX3_compare_130 rfl ?_
      refine zr_iload hB 1 dX3_compare_132 rfl ?_
      refine zr_isub hB dX3_compare_134 (by omega) (by omega) (fun x64 ex64 => ?_)
      refine zr_iast hG 22 dX3_compare_135 rfl (by omega) (by omega)  ?_
      have hOw65 := zc_O.u hO38 22 y6_37.toInt.toNat (v := x64) (show (-1000000) ≤ x64.toInt by omega) (show x64.toInt ≤ 1003 by omega) (Or.inr (show (-1000000) ≤ x64.toInt by omega))
      have hAw65 := zc_Ag.u hA38 22 y6_37.toInt.toNat x64 rfl
      refine zr_aload_n hB 2 dX3_compare_136 rfl ?_
      refine zr_dup hB dX3_compare_137 rfl ?_
      refine zr_geti' hG 4 7 (σ38.1 4 7) dX3_compare_138 rfl wf_X3_116 rfl rfl ?_
      have b66 : 0 ≤ (σ38.1 4 7).toInt ∧ (σ38.1 4 7).toInt ≤ 64 := ⟨(hOw65 4 7).1, (hOw65 4 7).2.1⟩
      refine zr_iconst hB dX3_compare_141 rfl (fun c67 ec67 => ?_)
      refine zr_iadd hB dX3_compare_142 (by omega) (by omega) (fun x68 ex68 => ?_)
      refine zr_puti hG 4 7 dX3_compare_143 rfl wp_X3_116 rfl ?_
      have hOw69 := zc_O.u hOw65 4 7 (v := x68) (show 0 ≤ x68.toInt by omega) (show x68.toInt ≤ 64 by omega) (Or.inr (show 0 ≤ x68.toInt by omega))
      have hAw69 := zc_Ag.u hAw65 4 7 x68 rfl
      refine zr_aload_n hB 2 dX3_compare_146 rfl ?_
      refine zr_dup hB dX3_compare_147 rfl ?_
      refine zr_geti' hG 4 8 (σ38.1 4 8) dX3_compare_148 rfl wf_X3_119 rfl rfl ?_
      refine zr_iload hB 0 dX3_compare_151 rfl ?_
      refine zr_iload hB 1 dX3_compare_153 rfl ?_
      refine zr_isub hB dX3_compare_155 (by omega) (by omega) (fun x70 ex70 => ?_)
      refine zr_callsi hG (rest := [.int (σ38.1 4 8), .ref (zk K 4)]) dX3_compare_156 wm_X3_98 (c_J9_abs_0f7a4 K hG.2.2.2.2.2.1 (zc_u (zc_u σ38 22 y6_37.toInt.toNat x64) 4 7 x68) x70 hOw69 (by omega)) rfl rfl (Nat.le_of_ble_eq_true rfl) ⟨Nat.le_of_ble_eq_true rfl, Nat.le_of_ble_eq_true rfl, rfl, rfl⟩ (fun r71 σ72 h73 => ?_)
      obtain ⟨rfl, r71a, g74⟩ := h73
      refine zr_iaddw hB dX3_compare_159 (fun x75 ex75 => ?_)
      refine zr_puti hG 4 8 dX3_compare_160 rfl wp_X3_119 rfl ?_
      have hOw76 := zc_O.u hOw69 4 8 (v := x75) (zn_lo _) (zn_hi _) (Or.inr (zn_lo _))
      have hAw76 := zc_Ag.u hAw69 4 8 x75 rfl
      refine zr_iinc hB 8 dX3_compare_163 rfl (by decide) rfl (by omega) (by omega) (fun x77 ex77 lv' hlv => ?_)
      obtain rfl : [(6, .int x77), (8, .int r52), (7, .int r47), (0, .ref (zk K 4)), (1, .int p1), (2, .int p2), (3, .int p3), (4, .int p4), (5, .int p5)] = lv' := hlv
      refine zr_goto hB dX3_compare_166 (tgt := 55) rfl ?_
      exact zc_sub [3, 4, 5, 6, 7, 8, 0] rfl (ih55 (zc_u (zc_u (zc_u σ38 22 y6_37.toInt.toNat x64) 4 7 x68) 4 8 x75) x77 hOw76 hAw76 (by omega) (by omega) (show 0 ≤ x68.toInt by omega) (show x68.toInt ≤ x77.toInt by omega) (by omega))
  exact zc_sub [1, 2, 3, 4, 5, 6, 0] rfl (L55_41 66 (zc_u (zc_u σ20 4 7 c26) 4 8 c28) r31 hOw29 hAw29 (by omega) (by omega) (show 0 ≤ c26.toInt by omega) (show c26.toInt ≤ r31.toInt by omega) (by omega))

set_option maxHeartbeats 1000000 in
set_option maxRecDepth 100000 in
theorem c_X3_missOf_4 (K : zc_K) (hi : zc_inj shX K.2.2.2.1) (σ0 : zc_S) (p1 : Int32) (hO0 : zc_O okX σ0)  : zc_M shX K yX3_missOf cX3_missOf 2 (some .int) (zrm 1 20) σ0 [.ref (zk K 4), .int p1] (zc_I (fun r9 σ9 => σ0 = σ9 ∧ (-4) ≤ r9.toInt ∧ r9.toInt ≤ 1000000)) := by
  refine zc_start RX3 hi pfX3_missOf rfl (Nat.le_of_ble_eq_true rfl) ?_
  intro G hG
  have hB := hG.1
  show zc_V 2 K G (zc_D shX K G σ0) [(0, .ref (zk K 4)), (1, .int p1)] 0 []
  refine zr_iload_n hB 1 dX3_missOf_0 rfl ?_
  refine zr_callsi hG (rest := []) dX3_missOf_1 wm_X3_122 (c_X8_isDay K hG.2.2.2.2.2.1 σ0 p1 hO0 ) rfl rfl (Nat.le_of_ble_eq_true rfl) ⟨Nat.le_of_ble_eq_true rfl, Nat.le_of_ble_eq_true rfl, rfl, rfl⟩ (fun r1 σ2 h3 => ?_)
  obtain ⟨rfl, r1q⟩ := h3
  have r1z := r1q.b
  refine zr_if_eq hB dX3_missOf_4 (tgt := 18) rfl (fun c4 => ?_) (fun c4 => ?_)
  · have q5 := r1q.f c4
    refine zr_bipush hB dX3_missOf_18 rfl (fun c6 ec6 => ?_)
    exact zr_iret hG dX3_missOf_20 ⟨rfl, by omega, by omega⟩
  have q7 := r1q.t c4
  refine zr_aload_n hB 0 dX3_missOf_7 rfl ?_
  refine zr_getr hG 4 6 dX3_missOf_8 rfl wf_X3_15 rfl ?_
  refine zr_iload_n hB 1 dX3_missOf_11 rfl ?_
  refine zr_iald hG 22 dX3_missOf_12 rfl (by omega) (by omega) (fun x8 ex8 => ?_)
  have bx8 : (-1000000) ≤ x8.toInt ∧ x8.toInt ≤ 1003 := by rw [ex8]; exact ⟨(hO0 22 _).1, (hO0 22 _).2.1⟩
  refine zr_ldc hB dX3_missOf_13 wc_X3_109 (n := (-1000000)) rfl (fun c9 ec9 => ?_)
  refine zr_icmp_ne hB dX3_missOf_15 (tgt := 21) rfl (fun c10 => ?_) (fun c10 => ?_)
  · refine zr_aload_n hB 0 dX3_missOf_21 rfl ?_
    refine zr_getr hG 4 6 dX3_missOf_22 rfl wf_X3_15 rfl ?_
    refine zr_iload_n hB 1 dX3_missOf_25 rfl ?_
    refine zr_iald hG 22 dX3_missOf_26 rfl (by omega) (by omega) (fun x11 ex11 => ?_)
    obtain rfl : x8 = x11 := ex8.trans ex11.symm
    refine zr_callsi hG (rest := []) dX3_missOf_27 wm_X3_98 (c_J9_abs_0f7a4 K hG.2.2.2.2.2.1 σ0 x8 hO0 (by omega)) rfl rfl (Nat.le_of_ble_eq_true rfl) ⟨Nat.le_of_ble_eq_true rfl, Nat.le_of_ble_eq_true rfl, rfl, rfl⟩ (fun r12 σ13 h14 => ?_)
    obtain ⟨rfl, r12a, g15⟩ := h14
    exact zr_iret hG dX3_missOf_30 ⟨rfl, by omega, by omega⟩
  refine zr_bipush hB dX3_missOf_18 rfl (fun c16 ec16 => ?_)
  exact zr_iret hG dX3_missOf_20 ⟨rfl, by omega, by omega⟩

set_option maxHeartbeats 1000000 in
set_option maxRecDepth 100000 in
theorem c_X3_worstDay_4 (K : zc_K) (hi : zc_inj shX K.2.2.2.1) (σ0 : zc_S) (p1 : Int32) (p2 : Int32) (hO0 : zc_O okX σ0) (h1a : 0 ≤ p1.toInt) (h1b : p1.toInt ≤ 63) (h2a : 0 ≤ p2.toInt) (h2b : p2.toInt ≤ 63) : zc_M shX K yX3_worstDay cX3_worstDay 5 (some .int) (zrm 2 41) σ0 [.ref (zk K 4), .int p1, .int p2] (zc_I (fun r9 σ9 => σ0 = σ9 ∧ (-4) ≤ r9.toInt ∧ r9.toInt ≤ 63)) := by
  refine zc_start RX3 hi pfX3_worstDay rfl (Nat.le_of_ble_eq_true rfl) ?_
  intro G hG
  have hB := hG.1
  show zc_V 5 K G (zc_D shX K G σ0) [(0, .ref (zk K 4)), (1, .int p1), (2, .int p2)] 0 []
  refine zr_bipush hB dX3_worstDay_0 rfl (fun c1 ec1 => ?_)
  refine zr_istore_n hB dX3_worstDay_2 rfl (by decide) (lv' := [(3, .int c1), (0, .ref (zk K 4)), (1, .int p1), (2, .int p2)]) rfl ?_
  refine zr_iload_n hB 2 dX3_worstDay_3 rfl ?_
  refine zr_istore hB dX3_worstDay_4 (by decide) (lv' := [(4, .int p1), (3, .int c1), (0, .ref (zk K 4)), (1, .int p1), (2, .int p2)]) rfl ?_
  have L6_4 : ∀ (n6 : Nat) (y3_2 : Int32) (y4_3 : Int32), (-4) ≤ y3_2.toInt → y3_2.toInt ≤ 63 → 0 ≤ y4_3.toInt → y4_3.toInt ≤ 64 → 64 - y4_3.toInt < (n6 : Int) → zc_V 5 K G (zc_D shX K G σ0) [(0, .ref (zk K 4)), (1, .int p1), (2, .int p2), (3, .int y3_2), (4, .int y4_3)] 6 [] := by
    intro n6
    induction n6 with
    | zero => intro y3_2 y4_3 y3_2a y3_2b y4_3a y4_3b hn6; exfalso; omega
    | succ n6 ih6 =>
      intro y3_2 y4_3 y3_2a y3_2b y4_3a y4_3b hn6
      refine zr_iload hB 4 dX3_worstDay_6 rfl ?_
      refine zr_iload_n hB 2 dX3_worstDay_8 rfl ?_
      refine zr_icmp_gt hB dX3_worstDay_9 (tgt := 35) rfl (fun c5 => ?_) (fun c5 => ?_)
      · refine zr_iload_n hB 3 dX3_worstDay_35 rfl ?_
        exact zr_iret hG dX3_worstDay_36 ⟨rfl, by omega, by omega⟩
      refine zr_aload_n hB 0 dX3_worstDay_12 rfl ?_
      refine zr_iload hB 4 dX3_worstDay_13 rfl ?_
      refine zr_callvi hG (rest := []) 4 dX3_worstDay_15 wm_X3_126 rfl rfl (c_X3_missOf_4 K hG.2.2.2.2.2.1 σ0 y4_3 hO0 ) rfl rfl (Nat.le_of_ble_eq_true rfl) ⟨Nat.le_of_ble_eq_true rfl, Nat.le_of_ble_eq_true rfl, rfl, rfl⟩ (fun r6 σ7 h8 => ?_)
      obtain ⟨rfl, r6a, r6b⟩ := h8
      refine zr_aload_n hB 0 dX3_worstDay_18 rfl ?_
      refine zr_iload_n hB 3 dX3_worstDay_19 rfl ?_
      refine zr_callvi hG (rest := [.int r6]) 4 dX3_worstDay_20 wm_X3_126 rfl rfl (c_X3_missOf_4 K hG.2.2.2.2.2.1 σ0 y3_2 hO0 ) rfl rfl (Nat.le_of_ble_eq_true rfl) ⟨Nat.le_of_ble_eq_true rfl, Nat.le_of_ble_eq_true rfl, rfl, rfl⟩ (fun r9 σ10 h11 => ?_)
      obtain ⟨rfl, r9a, r9b⟩ := h11
      refine zr_icmp_le hB dX3_worstDay_23 (tgt := 29) rfl (fun c12 => ?_) (fun c12 => ?_)
      · refine zr_iinc hB 4 dX3_worstDay_29 rfl (by decide) rfl (by omega) (by omega) (fun x13 ex13 lv' hlv => ?_)
        obtain rfl : [(4, .int x13), (0, .ref (zk K 4)), (1, .int p1), (2, .int p2), (3, .int y3_2)] = lv' := hlv
        refine zr_goto hB dX3_worstDay_32 (tgt := 6) rfl ?_
        exact zc_sub [1, 2, 3, 4, 0] rfl (ih6 y3_2 x13 (by omega) (by omega) (by omega) (by omega) (by omega))
      refine zr_iload hB 4 dX3_worstDay_26 rfl ?_
      refine zr_istore_n hB dX3_worstDay_28 rfl (by decide) (lv' := [(3, .int y4_3), (0, .ref (zk K 4)), (1, .int p1), (2, .int p2), (4, .int y4_3)]) rfl ?_
      refine zr_iinc hB 4 dX3_worstDay_29 rfl (by decide) rfl (by omega) (by omega) (fun x14 ex14 lv' hlv => ?_)
      obtain rfl : [(4, .int x14), (3, .int y4_3), (0, .ref (zk K 4)), (1, .int p1), (2, .int p2)] = lv' := hlv
      refine zr_goto hB dX3_worstDay_32 (tgt := 6) rfl ?_
      exact zc_sub [2, 3, 4, 1, 0] rfl (ih6 y4_3 x14 (by omega) (by omega) (by omega) (by omega) (by omega))
  exact zc_sub [2, 3, 4, 1, 0] rfl (L6_4 66 c1 p1 (by omega) (by omega) (by omega) (by omega) (by omega))

def m_X3_sortIn_4 : zc_ms := [(23, none), (4, some 10)]
set_option maxHeartbeats 1000000 in
set_option maxRecDepth 100000 in
theorem c_X3_sortIn_4 (K : zc_K) (hi : zc_inj shX K.2.2.2.1) (σ0 : zc_S) (p1 : Int32) (hO0 : zc_O okX σ0) (h1a : (-1000000) ≤ p1.toInt) (h1b : p1.toInt ≤ 1000000) : zc_M shX K yX3_sortIn cX3_sortIn 3 none (zrm 0 0) σ0 [.ref (zk K 4), .int p1] (zc_N (fun σ9 => zc_O okX σ9 ∧ zc_Ag m_X3_sortIn_4 σ0 σ9)) := by
  refine zc_start RX3 hi pfX3_sortIn rfl (Nat.le_of_ble_eq_true rfl) ?_
  intro G hG
  have hB := hG.1
  have hA0 : zc_Ag m_X3_sortIn_4 σ0 σ0 := zc_Ag.rf
  show zc_V 3 K G (zc_D shX K G σ0) [(0, .ref (zk K 4)), (1, .int p1)] 0 []
  refine zr_aload_n hB 0 dX3_sortIn_0 rfl ?_
  refine zr_geti' hG 4 10 (σ0.1 4 10) dX3_sortIn_1 rfl wf_X3_133 rfl rfl ?_
  have b1 : 0 ≤ (σ0.1 4 10).toInt ∧ (σ0.1 4 10).toInt ≤ 64 := ⟨(hO0 4 10).1, (hO0 4 10).2.1⟩
  refine zr_bipush hB dX3_sortIn_4 rfl (fun c2 ec2 => ?_)
  refine zr_icmp_lt hB dX3_sortIn_6 (tgt := 10) rfl (fun c3 => ?_) (fun c3 => ?_)
  · refine zr_aload_n hB 0 dX3_sortIn_10 rfl ?_
    refine zr_geti' hG 4 10 (σ0.1 4 10) dX3_sortIn_11 rfl wf_X3_133 rfl rfl ?_
    refine zr_istore_n hB dX3_sortIn_14 rfl (by decide) (lv' := [(2, .int (σ0.1 4 10)), (0, .ref (zk K 4)), (1, .int p1)]) rfl ?_
    have L15_8 : ∀ (n15 : Nat) (σ5 : zc_S) (y2_4 : Int32), zc_O okX σ5 → zc_Ag m_X3_sortIn_4 σ0 σ5 → 0 ≤ y2_4.toInt → y2_4.toInt ≤ 63 → 0 ≤ (σ5.1 4 10).toInt → (σ5.1 4 10).toInt ≤ 63 → y2_4.toInt - 0 < (n15 : Int) → zc_V 3 K G (zc_D shX K G σ5) [(0, .ref (zk K 4)), (1, .int p1), (2, .int y2_4)] 15 [] := by
      intro n15
      induction n15 with
      | zero => intro σ5 y2_4 hO5 hA5 y2_4a y2_4b e6 e7 hn15; exfalso; omega
      | succ n15 ih15 =>
        intro σ5 y2_4 hO5 hA5 y2_4a y2_4b e6 e7 hn15
        refine zr_iload_n hB 2 dX3_sortIn_15 rfl ?_
        have L51_9 : zc_V 3 K G (zc_D shX K G σ5) [(0, .ref (zk K 4)), (1, .int p1), (2, .int y2_4)] 51 [] := by
          refine zr_aload_n hB 0 dX3_sortIn_51 rfl ?_
          refine zr_getr hG 4 9 dX3_sortIn_52 rfl wf_X3_18 rfl ?_
          refine zr_iload_n hB 2 dX3_sortIn_55 rfl ?_
          refine zr_iload_n hB 1 dX3_sortIn_56 rfl ?_
          refine zr_iast hG 23 dX3_sortIn_57 rfl (by omega) (by omega)  ?_
          have hOw10 := zc_O.u hO5 23 y2_4.toInt.toNat (v := p1) (show (-1000000) ≤ p1.toInt by omega) (show p1.toInt ≤ 1000000 by omega) (Or.inr (show (-1000000) ≤ p1.toInt by omega))
          have hAw10 := zc_Ag.u hA5 23 y2_4.toInt.toNat p1 rfl
          refine zr_aload_n hB 0 dX3_sortIn_58 rfl ?_
          refine zr_dup hB dX3_sortIn_59 rfl ?_
          refine zr_geti' hG 4 10 (σ5.1 4 10) dX3_sortIn_60 rfl wf_X3_133 rfl rfl ?_
          have b11 : 0 ≤ (σ5.1 4 10).toInt ∧ (σ5.1 4 10).toInt ≤ 64 := ⟨(hOw10 4 10).1, (hOw10 4 10).2.1⟩
          refine zr_iconst hB dX3_sortIn_63 rfl (fun c12 ec12 => ?_)
          refine zr_iadd hB dX3_sortIn_64 (by omega) (by omega) (fun x13 ex13 => ?_)
          refine zr_puti hG 4 10 dX3_sortIn_65 rfl wp_X3_133 rfl ?_
          have hOw14 := zc_O.u hOw10 4 10 (v := x13) (show 0 ≤ x13.toInt by omega) (show x13.toInt ≤ 64 by omega) (Or.inr (show 0 ≤ x13.toInt by omega))
          have hAw14 := zc_Ag.u hAw10 4 10 x13 rfl
          exact zr_vret hG dX3_sortIn_68 ⟨hOw14, hAw14⟩
        refine zr_if_le hB dX3_sortIn_16 (tgt := 51) rfl (fun c15 => ?_) (fun c15 => ?_)
        · exact L51_9
        refine zr_aload_n hB 0 dX3_sortIn_19 rfl ?_
        refine zr_getr hG 4 9 dX3_sortIn_20 rfl wf_X3_18 rfl ?_
        refine zr_iload_n hB 2 dX3_sortIn_23 rfl ?_
        refine zr_iconst hB dX3_sortIn_24 rfl (fun c16 ec16 => ?_)
        refine zr_isub hB dX3_sortIn_25 (by omega) (by omega) (fun x17 ex17 => ?_)
        refine zr_iald hG 23 dX3_sortIn_26 rfl (by omega) (by omega) (fun x18 ex18 => ?_)
        have bx18 : (-1000000) ≤ x18.toInt ∧ x18.toInt ≤ 1000000 := by rw [ex18]; exact ⟨(hO5 23 _).1, (hO5 23 _).2.1⟩
        refine zr_iload_n hB 1 dX3_sortIn_27 rfl ?_
        refine zr_icmp_le hB dX3_sortIn_28 (tgt := 51) rfl (fun c19 => ?_) (fun c19 => ?_)
        · exact L51_9
        refine zr_aload_n hB 0 dX3_sortIn_31 rfl ?_
        refine zr_getr hG 4 9 dX3_sortIn_32 rfl wf_X3_18 rfl ?_
        refine zr_iload_n hB 2 dX3_sortIn_35 rfl ?_
        refine zr_aload_n hB 0 dX3_sortIn_36 rfl ?_
        refine zr_getr hG 4 9 dX3_sortIn_37 rfl wf_X3_18 rfl ?_
        refine zr_iload_n hB 2 dX3_sortIn_40 rfl ?_
        refine zr_iconst hB dX3_sortIn_41 rfl (fun c20 ec20 => ?_)
        refine zr_isub hB dX3_sortIn_42 (by omega) (by omega) (fun x21 ex21 => ?_)
        refine zr_iald hG 23 dX3_sortIn_43 rfl (by omega) (by omega) (fun x22 ex22 => ?_)
        have bx22 : (-1000000) ≤ x22.toInt ∧ x22.toInt ≤ 1000000 := by rw [ex22]; exact ⟨(hO5 23 _).1, (hO5 23 _).2.1⟩
        refine zr_iast hG 23 dX3_sortIn_44 rfl (by omega) (by omega)  ?_
        have hOw23 := zc_O.u hO5 23 y2_4.toInt.toNat (v := x22) (show (-1000000) ≤ x22.toInt by omega) (show x22.toInt ≤ 1000000 by omega) (Or.inr (show (-1000000) ≤ x22.toInt by omega))
        have hAw23 := zc_Ag.u hA5 23 y2_4.toInt.toNat x22 rfl
        refine zr_iinc hB 2 dX3_sortIn_45 rfl (by decide) rfl (by omega) (by omega) (fun x24 ex24 lv' hlv => ?_)
        obtain rfl : [(2, .int x24), (0, .ref (zk K 4)), (1, .int p1)] = lv' := hlv
        refine zr_goto hB dX3_sortIn_48 (tgt := 15) rfl ?_
        have b25 : 0 ≤ (σ5.1 4 10).toInt ∧ (σ5.1 4 10).toInt ≤ 64 := ⟨(hOw23 4 10).1, (hOw23 4 10).2.1⟩
        exact zc_sub [1, 2, 0] rfl (ih15 (zc_u σ5 23 y2_4.toInt.toNat x22) x24 hOw23 hAw23 (by omega) (by omega) (show 0 ≤ (σ5.1 4 10).toInt by omega) (show (σ5.1 4 10).toInt ≤ 63 by omega) (by omega))
    exact zc_sub [1, 2, 0] rfl (L15_8 65 σ0 (σ0.1 4 10) hO0 hA0 (by omega) (by omega) (show 0 ≤ (σ0.1 4 10).toInt by omega) (show (σ0.1 4 10).toInt ≤ 63 by omega) (by omega))
  exact zr_vret hG dX3_sortIn_9 ⟨hO0, hA0⟩

def m_X3_sortMiss_4 : zc_ms := [(23, none), (4, some 10)]
set_option maxHeartbeats 1000000 in
set_option maxRecDepth 100000 in
theorem c_X3_sortMiss_4 (K : zc_K) (hi : zc_inj shX K.2.2.2.1) (σ0 : zc_S) (p1 : Int32) (hO0 : zc_O okX σ0)  : zc_M shX K yX3_sortMiss cX3_sortMiss 3 none (zrm 2 41) σ0 [.ref (zk K 4), .int p1] (zc_N (fun σ9 => zc_O okX σ9 ∧ zc_Ag m_X3_sortMiss_4 σ0 σ9)) := by
  refine zc_start RX3 hi pfX3_sortMiss rfl (Nat.le_of_ble_eq_true rfl) ?_
  intro G hG
  have hB := hG.1
  have hA0 : zc_Ag m_X3_sortMiss_4 σ0 σ0 := zc_Ag.rf
  show zc_V 3 K G (zc_D shX K G σ0) [(0, .ref (zk K 4)), (1, .int p1)] 0 []
  refine zr_aload_n hB 0 dX3_sortMiss_0 rfl ?_
  refine zr_iload_n hB 1 dX3_sortMiss_1 rfl ?_
  refine zr_callvi hG (rest := []) 4 dX3_sortMiss_2 wm_X3_126 rfl rfl (c_X3_missOf_4 K hG.2.2.2.2.2.1 σ0 p1 hO0 ) rfl rfl (Nat.le_of_ble_eq_true rfl) ⟨Nat.le_of_ble_eq_true rfl, Nat.le_of_ble_eq_true rfl, rfl, rfl⟩ (fun r1 σ2 h3 => ?_)
  obtain ⟨rfl, r1a, r1b⟩ := h3
  refine zr_istore_n hB dX3_sortMiss_5 rfl (by decide) (lv' := [(2, .int r1), (0, .ref (zk K 4)), (1, .int p1)]) rfl ?_
  refine zr_iload_n hB 0 dX3_sortMiss_6 rfl ?_
  refine zr_bipush hB dX3_sortMiss_7 rfl (fun c4 ec4 => ?_)
  refine zr_icmp_eq hB dX3_sortMiss_9 (tgt := 17) rfl (fun c5 => ?_) (fun c5 => ?_)
  · exact zr_vret hG dX3_sortMiss_17 ⟨hO0, hA0⟩
  refine zr_aload_n hB 1 dX3_sortMiss_12 rfl ?_
  refine zr_iload_n hB 0 dX3_sortMiss_13 rfl ?_
  refine zr_callvn hG (rest := []) 4 dX3_sortMiss_14 wm_X3_129 rfl rfl (c_X3_sortIn_4 K hG.2.2.2.2.2.1 σ0 r1 hO0 (by omega) (by omega)) rfl rfl (Nat.le_of_ble_eq_true rfl) ⟨Nat.le_of_ble_eq_true rfl, Nat.le_of_ble_eq_true rfl, rfl, rfl⟩ (fun σ7 h8 => ?_)
  obtain ⟨hO9, hAc10⟩ := h8
  have hA11 := zc_Ag.tr hA0 hAc10 rfl
  exact zr_vret hG dX3_sortMiss_17 ⟨hO9, hA11⟩

set_option maxHeartbeats 1000000 in
set_option maxRecDepth 100000 in
theorem c_X3_leastOver_4 (K : zc_K) (hi : zc_inj shX K.2.2.2.1) (σ0 : zc_S) (p1 : Int32) (p2 : Int32) (hO0 : zc_O okX σ0) (h1a : 1 ≤ p1.toInt) (h1b : p1.toInt ≤ 100) (h2a : 1 ≤ p2.toInt) (h2b : p2.toInt ≤ 200) : zc_M shX K yX3_leastOver cX3_leastOver 4 (some .int) (zrm 0 0) σ0 [.ref (zk K 4), .int p1, .int p2] (zc_I (fun r9 σ9 => σ0 = σ9 ∧ (-1000000) ≤ r9.toInt ∧ r9.toInt ≤ 1000000)) := by
  refine zc_start RX3 hi pfX3_leastOver rfl (Nat.le_of_ble_eq_true rfl) ?_
  intro G hG
  have hB := hG.1
  show zc_V 4 K G (zc_D shX K G σ0) [(0, .ref (zk K 4)), (1, .int p1), (2, .int p2)] 0 []
  refine zr_iload_n hB 2 dX3_leastOver_0 rfl ?_
  refine zr_if_gt hB dX3_leastOver_1 (tgt := 7) rfl (fun c1 => ?_) (fun c1 => ?_)
  · refine zr_iload_n hB 1 dX3_leastOver_7 rfl ?_
    refine zr_aload_n hB 0 dX3_leastOver_8 rfl ?_
    refine zr_geti' hG 4 10 (σ0.1 4 10) dX3_leastOver_9 rfl wf_X3_133 rfl rfl ?_
    have b2 : 0 ≤ (σ0.1 4 10).toInt ∧ (σ0.1 4 10).toInt ≤ 64 := ⟨(hO0 4 10).1, (hO0 4 10).2.1⟩
    refine zr_imulb hB dX3_leastOver_12 (A := 100) (B := 64) (by omega) (by omega) (by omega) (by omega) (by decide) (fun x3 ex3 ex3a ex3b ex3c ex3d => ?_)
    refine zr_iload_n hB 2 dX3_leastOver_13 rfl ?_
    refine zr_iadd hB dX3_leastOver_14 (by omega) (by omega) (fun x4 ex4 => ?_)
    refine zr_iconst hB dX3_leastOver_15 rfl (fun c5 ec5 => ?_)
    refine zr_isub hB dX3_leastOver_16 (by omega) (by omega) (fun x6 ex6 => ?_)
    refine zr_iload_n hB 2 dX3_leastOver_17 rfl ?_
    refine zr_idiv hB dX3_leastOver_18 (by omega) (by omega) (fun x7 ex7 ex7a ex7b ex7c => ?_)
    refine zr_istore_n hB dX3_leastOver_19 rfl (by decide) (lv' := [(3, .int x7), (0, .ref (zk K 4)), (1, .int p1), (2, .int p2)]) rfl ?_
    refine zr_iload_n hB 0 dX3_leastOver_20 rfl ?_
    refine zr_iconst hB dX3_leastOver_21 rfl (fun c8 ec8 => ?_)
    refine zr_icmp_lt hB dX3_leastOver_22 (tgt := 33) rfl (fun c9 => ?_) (fun c9 => ?_)
    · refine zr_ldc hB dX3_leastOver_33 wc_X3_109 (n := (-1000000)) rfl (fun c10 ec10 => ?_)
      refine zr_goto hB dX3_leastOver_35 (tgt := 46) rfl ?_
      exact zr_iret hG dX3_leastOver_46 ⟨rfl, by omega, by omega⟩
    refine zr_iload_n hB 0 dX3_leastOver_25 rfl ?_
    refine zr_aload_n hB 1 dX3_leastOver_26 rfl ?_
    refine zr_geti' hG 4 10 (σ0.1 4 10) dX3_leastOver_27 rfl wf_X3_133 rfl rfl ?_
    refine zr_icmp_le hB dX3_leastOver_30 (tgt := 38) rfl (fun c11 => ?_) (fun c11 => ?_)
    · refine zr_aload_n hB 1 dX3_leastOver_38 rfl ?_
      refine zr_getr hG 4 9 dX3_leastOver_39 rfl wf_X3_18 rfl ?_
      refine zr_iload_n hB 0 dX3_leastOver_42 rfl ?_
      refine zr_iconst hB dX3_leastOver_43 rfl (fun c12 ec12 => ?_)
      refine zr_isub hB dX3_leastOver_44 (by omega) (by omega) (fun x13 ex13 => ?_)
      refine zr_iald hG 23 dX3_leastOver_45 rfl (by omega) (by omega) (fun x14 ex14 => ?_)
      have bx14 : (-1000000) ≤ x14.toInt ∧ x14.toInt ≤ 1000000 := by rw [ex14]; exact ⟨(hO0 23 _).1, (hO0 23 _).2.1⟩
      exact zr_iret hG dX3_leastOver_46 ⟨rfl, by omega, by omega⟩
    refine zr_ldc hB dX3_leastOver_33 wc_X3_109 (n := (-1000000)) rfl (fun c15 ec15 => ?_)
    refine zr_goto hB dX3_leastOver_35 (tgt := 46) rfl ?_
    exact zr_iret hG dX3_leastOver_46 ⟨rfl, by omega, by omega⟩
  exfalso; omega

set_option maxHeartbeats 1000000 in
set_option maxRecDepth 100000 in
theorem c_X3_spanOf_4 (K : zc_K) (hi : zc_inj shX K.2.2.2.1) (σ0 : zc_S) (p1 : Int32) (hO0 : zc_O okX σ0) (h1a : 1 ≤ p1.toInt) (h1b : p1.toInt ≤ 100) : zc_M shX K yX3_spanOf cX3_spanOf 3 (some .int) (zrm 1 23) σ0 [.ref (zk K 4), .int p1] (zc_I (fun r9 σ9 => σ0 = σ9 ∧ (-1000000) ≤ r9.toInt ∧ r9.toInt ≤ 1000000)) := by
  refine zc_start RX3 hi pfX3_spanOf rfl (Nat.le_of_ble_eq_true rfl) ?_
  intro G hG
  have hB := hG.1
  show zc_V 3 K G (zc_D shX K G σ0) [(0, .ref (zk K 4)), (1, .int p1)] 0 []
  refine zr_aload_n hB 0 dX3_spanOf_0 rfl ?_
  refine zr_iload_n hB 1 dX3_spanOf_1 rfl ?_
  refine zr_bipush hB dX3_spanOf_2 rfl (fun c1 ec1 => ?_)
  refine zr_callvi hG (rest := []) 4 dX3_spanOf_4 wm_X3_136 rfl rfl (c_X3_leastOver_4 K hG.2.2.2.2.2.1 σ0 p1 c1 hO0 (by omega) (by omega) (by omega) (by omega)) rfl rfl (Nat.le_of_ble_eq_true rfl) ⟨Nat.le_of_ble_eq_true rfl, Nat.le_of_ble_eq_true rfl, rfl, rfl⟩ (fun r2 σ3 h4 => ?_)
  obtain ⟨rfl, r2a, r2b⟩ := h4
  refine zr_istore_n hB dX3_spanOf_7 rfl (by decide) (lv' := [(2, .int r2), (0, .ref (zk K 4)), (1, .int p1)]) rfl ?_
  refine zr_iload_n hB 0 dX3_spanOf_8 rfl ?_
  refine zr_ldc hB dX3_spanOf_9 wc_X3_109 (n := (-1000000)) rfl (fun c5 ec5 => ?_)
  refine zr_icmp_ne hB dX3_spanOf_11 (tgt := 19) rfl (fun c6 => ?_) (fun c6 => ?_)
  · refine zr_iload_n hB 0 dX3_spanOf_19 rfl ?_
    exact zr_iret hG dX3_spanOf_20 ⟨rfl, by omega, by omega⟩
  refine zr_bipush hB dX3_spanOf_14 rfl (fun c7 ec7 => ?_)
  refine zr_goto hB dX3_spanOf_16 (tgt := 20) rfl ?_
  exact zr_iret hG dX3_spanOf_20 ⟨rfl, by omega, by omega⟩

def m_X3_leastCostly_4 : zc_ms := [(23, none), (4, some 10)]
set_option maxHeartbeats 1000000 in
set_option maxRecDepth 100000 in
theorem c_X3_leastCostly_4 (K : zc_K) (hi : zc_inj shX K.2.2.2.1) (σ0 : zc_S) (p1 : Int32) (p2 : Int32) (p3 : Int32) (p4 : Int32) (p5 : Int32) (hO0 : zc_O okX σ0) (h1a : (-4) ≤ p1.toInt) (h1b : p1.toInt ≤ 999) (h2a : 0 ≤ p2.toInt) (h2b : p2.toInt ≤ 63) (h3a : 0 ≤ p3.toInt) (h3b : p3.toInt ≤ 63) (h4a : 1 ≤ p4.toInt) (h4b : p4.toInt ≤ 99) (h5a : 1 ≤ p5.toInt) (h5b : p5.toInt ≤ 99) : zc_M shX K yX3_leastCostly cX3_leastCostly 7 (some .int) (zrm 1 23) σ0 [.ref (zk K 4), .int p1, .int p2, .int p3, .int p4, .int p5] (zc_I (fun r9 σ9 => zc_O okX σ9 ∧ zc_Ag m_X3_leastCostly_4 σ0 σ9 ∧ 0 ≤ r9.toInt ∧ r9.toInt ≤ 999)) := by
  refine zc_start RX3 hi pfX3_leastCostly rfl (Nat.le_of_ble_eq_true rfl) ?_
  intro G hG
  have hB := hG.1
  have hA0 : zc_Ag m_X3_leastCostly_4 σ0 σ0 := zc_Ag.rf
  show zc_V 7 K G (zc_D shX K G σ0) [(0, .ref (zk K 4)), (1, .int p1), (2, .int p2), (3, .int p3), (4, .int p4), (5, .int p5)] 0 []
  refine zr_aload_n hB 0 dX3_leastCostly_0 rfl ?_
  refine zr_iconst hB dX3_leastCostly_1 rfl (fun c1 ec1 => ?_)
  refine zr_puti hG 4 10 dX3_leastCostly_2 rfl wp_X3_133 rfl ?_
  have hOw2 := zc_O.u hO0 4 10 (v := c1) (show 0 ≤ c1.toInt by omega) (show c1.toInt ≤ 64 by omega) (Or.inr (show 0 ≤ c1.toInt by omega))
  have hAw2 := zc_Ag.u hA0 4 10 c1 rfl
  refine zr_iload_n hB 2 dX3_leastCostly_5 rfl ?_
  refine zr_istore hB dX3_leastCostly_6 (by decide) (lv' := [(6, .int p2), (0, .ref (zk K 4)), (1, .int p1), (2, .int p2), (3, .int p3), (4, .int p4), (5, .int p5)]) rfl ?_
  have L8_5 : ∀ (n8 : Nat) (σ4 : zc_S) (y6_3 : Int32), zc_O okX σ4 → zc_Ag m_X3_leastCostly_4 σ0 σ4 → 0 ≤ y6_3.toInt → y6_3.toInt ≤ 64 → 64 - y6_3.toInt < (n8 : Int) → zc_V 7 K G (zc_D shX K G σ4) [(0, .ref (zk K 4)), (1, .int p1), (2, .int p2), (3, .int p3), (4, .int p4), (5, .int p5), (6, .int y6_3)] 8 [] := by
    intro n8
    induction n8 with
    | zero => intro σ4 y6_3 hO4 hA4 y6_3a y6_3b hn8; exfalso; omega
    | succ n8 ih8 =>
      intro σ4 y6_3 hO4 hA4 y6_3a y6_3b hn8
      refine zr_iload hB 6 dX3_leastCostly_8 rfl ?_
      refine zr_iload_n hB 3 dX3_leastCostly_10 rfl ?_
      refine zr_icmp_gt hB dX3_leastCostly_11 (tgt := 43) rfl (fun c6 => ?_) (fun c6 => ?_)
      · refine zr_aload_n hB 0 dX3_leastCostly_43 rfl ?_
        refine zr_iload hB 5 dX3_leastCostly_44 rfl ?_
        refine zr_iload hB 4 dX3_leastCostly_46 rfl ?_
        refine zr_iload hB 5 dX3_leastCostly_48 rfl ?_
        refine zr_iadd hB dX3_leastCostly_50 (by omega) (by omega) (fun x7 ex7 => ?_)
        refine zr_callvi hG (rest := []) 4 dX3_leastCostly_51 wm_X3_136 rfl rfl (c_X3_leastOver_4 K hG.2.2.2.2.2.1 σ4 p5 x7 hO4 (by omega) (by omega) (by omega) (by omega)) rfl rfl (Nat.le_of_ble_eq_true rfl) ⟨Nat.le_of_ble_eq_true rfl, Nat.le_of_ble_eq_true rfl, rfl, rfl⟩ (fun r8 σ9 h10 => ?_)
        obtain ⟨rfl, r8a, r8b⟩ := h10
        refine zr_istore hB dX3_leastCostly_54 (by decide) (lv' := [(6, .int r8), (0, .ref (zk K 4)), (1, .int p1), (2, .int p2), (3, .int p3), (4, .int p4), (5, .int p5)]) rfl ?_
        refine zr_iconst hB dX3_leastCostly_56 rfl (fun c11 ec11 => ?_)
        refine zr_sipush hB dX3_leastCostly_57 rfl (fun c12 ec12 => ?_)
        refine zr_iload_n hB 2 dX3_leastCostly_60 rfl ?_
        refine zr_iload hB 0 dX3_leastCostly_61 rfl ?_
        refine zr_iadd hB dX3_leastCostly_63 (by omega) (by omega) (fun x13 ex13 => ?_)
        refine zr_callsi hG (rest := [.int c11]) dX3_leastCostly_64 wm_X3_59 (c_J9_min_7cf53 K hG.2.2.2.2.2.1 σ4 c12 x13 hO4 ) rfl rfl (Nat.le_of_ble_eq_true rfl) ⟨Nat.le_of_ble_eq_true rfl, Nat.le_of_ble_eq_true rfl, rfl, rfl⟩ (fun r14 σ15 h16 => ?_)
        obtain ⟨rfl, g17, g18, g19⟩ := h16
        refine zr_callsi hG (rest := []) dX3_leastCostly_67 wm_X3_53 (c_J9_max_7cf53 K hG.2.2.2.2.2.1 σ4 c11 r14 hO4 ) rfl rfl (Nat.le_of_ble_eq_true rfl) ⟨Nat.le_of_ble_eq_true rfl, Nat.le_of_ble_eq_true rfl, rfl, rfl⟩ (fun r20 σ21 h22 => ?_)
        obtain ⟨rfl, g23, g24, g25⟩ := h22
        exact zr_iret hG dX3_leastCostly_70 ⟨hO4, hA4, by omega, by omega⟩
      refine zr_aload_n hB 0 dX3_leastCostly_14 rfl ?_
      refine zr_getr hG 4 6 dX3_leastCostly_15 rfl wf_X3_15 rfl ?_
      refine zr_iload hB 6 dX3_leastCostly_18 rfl ?_
      refine zr_iald hG 22 dX3_leastCostly_20 rfl (by omega) (by omega) (fun x26 ex26 => ?_)
      have bx26 : (-1000000) ≤ x26.toInt ∧ x26.toInt ≤ 1003 := by rw [ex26]; exact ⟨(hO4 22 _).1, (hO4 22 _).2.1⟩
      refine zr_ldc hB dX3_leastCostly_21 wc_X3_109 (n := (-1000000)) rfl (fun c27 ec27 => ?_)
      refine zr_icmp_eq hB dX3_leastCostly_23 (tgt := 37) rfl (fun c28 => ?_) (fun c28 => ?_)
      · refine zr_iinc hB 6 dX3_leastCostly_37 rfl (by decide) rfl (by omega) (by omega) (fun x29 ex29 lv' hlv => ?_)
        obtain rfl : [(6, .int x29), (0, .ref (zk K 4)), (1, .int p1), (2, .int p2), (3, .int p3), (4, .int p4), (5, .int p5)] = lv' := hlv
        refine zr_goto hB dX3_leastCostly_40 (tgt := 8) rfl ?_
        exact zc_sub [1, 2, 3, 4, 5, 6, 0] rfl (ih8 σ4 x29 hO4 hA4 (by omega) (by omega) (by omega))
      refine zr_aload_n hB 0 dX3_leastCostly_26 rfl ?_
      refine zr_aload_n hB 0 dX3_leastCostly_27 rfl ?_
      refine zr_getr hG 4 6 dX3_leastCostly_28 rfl wf_X3_15 rfl ?_
      refine zr_iload hB 6 dX3_leastCostly_31 rfl ?_
      refine zr_iald hG 22 dX3_leastCostly_33 rfl (by omega) (by omega) (fun x30 ex30 => ?_)
      obtain rfl : x26 = x30 := ex26.trans ex30.symm
      refine zr_callvn hG (rest := []) 4 dX3_leastCostly_34 wm_X3_129 rfl rfl (c_X3_sortIn_4 K hG.2.2.2.2.2.1 σ4 x26 hO4 (by omega) (by omega)) rfl rfl (Nat.le_of_ble_eq_true rfl) ⟨Nat.le_of_ble_eq_true rfl, Nat.le_of_ble_eq_true rfl, rfl, rfl⟩ (fun σ32 h33 => ?_)
      obtain ⟨hO34, hAc35⟩ := h33
      have hA36 := zc_Ag.tr hA4 hAc35 rfl
      refine zr_iinc hB 6 dX3_leastCostly_37 rfl (by decide) rfl (by omega) (by omega) (fun x37 ex37 lv' hlv => ?_)
      obtain rfl : [(6, .int x37), (0, .ref (zk K 4)), (1, .int p1), (2, .int p2), (3, .int p3), (4, .int p4), (5, .int p5)] = lv' := hlv
      refine zr_goto hB dX3_leastCostly_40 (tgt := 8) rfl ?_
      exact zc_sub [1, 2, 3, 4, 5, 6, 0] rfl (ih8 σ32 x37 hO34 hA36 (by omega) (by omega) (by omega))
  exact zc_sub [1, 2, 3, 4, 5, 6, 0] rfl (L8_5 66 (zc_u σ0 4 10 c1) p2 hOw2 hAw2 (by omega) (by omega) (by omega))

set_option maxHeartbeats 1000000 in
set_option maxRecDepth 100000 in
theorem c_X3_costOf_4 (K : zc_K) (hi : zc_inj shX K.2.2.2.1) (σ0 : zc_S) (p1 : Int32) (p2 : Int32) (p3 : Int32) (p4 : Int32) (p5 : Int32) (hO0 : zc_O okX σ0) (h2a : 0 ≤ p2.toInt) (h2b : p2.toInt ≤ 63) (h3a : 0 ≤ p3.toInt) (h3b : p3.toInt ≤ 63) : zc_M shX K yX3_costOf cX3_costOf 9 (some .int) (zrm 0 0) σ0 [.ref (zk K 4), .int p1, .int p2, .int p3, .int p4, .int p5] (zc_I (fun r9 σ9 => σ0 = σ9)) := by
  refine zc_start RX3 hi pfX3_costOf rfl (Nat.le_of_ble_eq_true rfl) ?_
  intro G hG
  have hB := hG.1
  show zc_V 9 K G (zc_D shX K G σ0) [(0, .ref (zk K 4)), (1, .int p1), (2, .int p2), (3, .int p3), (4, .int p4), (5, .int p5)] 0 []
  refine zr_iconst hB dX3_costOf_0 rfl (fun c1 ec1 => ?_)
  refine zr_istore hB dX3_costOf_1 (by decide) (lv' := [(6, .int c1), (0, .ref (zk K 4)), (1, .int p1), (2, .int p2), (3, .int p3), (4, .int p4), (5, .int p5)]) rfl ?_
  refine zr_iload_n hB 3 dX3_costOf_3 rfl ?_
  refine zr_istore hB dX3_costOf_4 (by decide) (lv' := [(7, .int p2), (6, .int c1), (0, .ref (zk K 4)), (1, .int p1), (2, .int p2), (3, .int p3), (4, .int p4), (5, .int p5)]) rfl ?_
  have L6_4 : ∀ (n6 : Nat) (y6_2 : Int32) (y7_3 : Int32), 0 ≤ y7_3.toInt → y7_3.toInt ≤ 64 → 64 - y7_3.toInt < (n6 : Int) → zc_V 9 K G (zc_D shX K G σ0) [(0, .ref (zk K 4)), (1, .int p1), (2, .int p2), (3, .int p3), (4, .int p4), (5, .int p5), (6, .int y6_2), (7, .int y7_3)] 6 [] := by
    intro n6
    induction n6 with
    | zero => intro y6_2 y7_3 y7_3a y7_3b hn6; have vy6_2 := And.intro (zn_lo y6_2) (zn_hi y6_2); exfalso; omega
    | succ n6 ih6 =>
      intro y6_2 y7_3 y7_3a y7_3b hn6
      have vy6_2 := And.intro (zn_lo y6_2) (zn_hi y6_2)
      refine zr_iload hB 7 dX3_costOf_6 rfl ?_
      refine zr_iload_n hB 3 dX3_costOf_8 rfl ?_
      refine zr_icmp_gt hB dX3_costOf_9 (tgt := 65) rfl (fun c5 => ?_) (fun c5 => ?_)
      · refine zr_iload hB 6 dX3_costOf_65 rfl ?_
        exact zr_iret hG dX3_costOf_67 rfl
      refine zr_aload_n hB 0 dX3_costOf_12 rfl ?_
      refine zr_getr hG 4 6 dX3_costOf_13 rfl wf_X3_15 rfl ?_
      refine zr_iload hB 7 dX3_costOf_16 rfl ?_
      refine zr_iald hG 22 dX3_costOf_18 rfl (by omega) (by omega) (fun x6 ex6 => ?_)
      have bx6 : (-1000000) ≤ x6.toInt ∧ x6.toInt ≤ 1003 := by rw [ex6]; exact ⟨(hO0 22 _).1, (hO0 22 _).2.1⟩
      refine zr_ldc hB dX3_costOf_19 wc_X3_109 (n := (-1000000)) rfl (fun c7 ec7 => ?_)
      refine zr_icmp_eq hB dX3_costOf_21 (tgt := 59) rfl (fun c8 => ?_) (fun c8 => ?_)
      · refine zr_iinc hB 7 dX3_costOf_59 rfl (by decide) rfl (by omega) (by omega) (fun x9 ex9 lv' hlv => ?_)
        obtain rfl : [(7, .int x9), (0, .ref (zk K 4)), (1, .int p1), (2, .int p2), (3, .int p3), (4, .int p4), (5, .int p5), (6, .int y6_2)] = lv' := hlv
        refine zr_goto hB dX3_costOf_62 (tgt := 6) rfl ?_
        exact zc_sub [1, 2, 3, 4, 5, 6, 7, 0] rfl (ih6 y6_2 x9 (by omega) (by omega) (by omega))
      refine zr_iload_n hB 1 dX3_costOf_24 rfl ?_
      refine zr_aload_n hB 0 dX3_costOf_25 rfl ?_
      refine zr_getr hG 4 6 dX3_costOf_26 rfl wf_X3_15 rfl ?_
      refine zr_iload hB 7 dX3_costOf_29 rfl ?_
      refine zr_iald hG 22 dX3_costOf_31 rfl (by omega) (by omega) (fun x10 ex10 => ?_)
      obtain rfl : x6 = x10 := ex6.trans ex10.symm
      refine zr_isubw hB dX3_costOf_32 (fun x11 ex11 => ?_)
      refine zr_istore hB dX3_costOf_33 (by decide) (lv' := [(8, .int x11), (0, .ref (zk K 4)), (1, .int p1), (2, .int p2), (3, .int p3), (4, .int p4), (5, .int p5), (6, .int y6_2), (7, .int y7_3)]) rfl ?_
      refine zr_iload hB 7 dX3_costOf_35 rfl ?_
      refine zr_iload hB 0 dX3_costOf_37 rfl ?_
      refine zr_if_le hB dX3_costOf_39 (tgt := 50) rfl (fun c12 => ?_) (fun c12 => ?_)
      · refine zr_iload hB 6 dX3_costOf_50 rfl ?_
        refine zr_iload hB 0 dX3_costOf_52 rfl ?_
        refine zr_inegw hB dX3_costOf_54 (fun x13 ex13 => ?_)
        refine zr_imulw hB dX3_costOf_55 (fun x14 ex14 => ?_)
        refine zr_iaddw hB dX3_costOf_56 (fun x15 ex15 => ?_)
        refine zr_istore hB dX3_costOf_57 (by decide) (lv' := [(6, .int x15), (8, .int x11), (0, .ref (zk K 4)), (1, .int p1), (2, .int p2), (3, .int p3), (4, .int p4), (5, .int p5), (7, .int y7_3)]) rfl ?_
        refine zr_iinc hB 8 dX3_costOf_59 rfl (by decide) rfl (by omega) (by omega) (fun x16 ex16 lv' hlv => ?_)
        obtain rfl : [(7, .int x16), (6, .int x15), (8, .int x11), (0, .ref (zk K 4)), (1, .int p1), (2, .int p2), (3, .int p3), (4, .int p4), (5, .int p5)] = lv' := hlv
        refine zr_goto hB dX3_costOf_62 (tgt := 6) rfl ?_
        exact zc_sub [3, 4, 5, 6, 7, 8, 1, 0] rfl (ih6 x15 x16 (by omega) (by omega) (by omega))
      refine zr_iload hB 5 dX3_costOf_42 rfl ?_
      refine zr_iload hB 0 dX3_costOf_44 rfl ?_
      refine zr_imulw hB dX3_costOf_46 (fun x17 ex17 => ?_)
      refine zr_goto hB dX3_costOf_47 (tgt := 56) rfl ?_
      refine zr_iaddw hB dX3_costOf_56 (fun x18 ex18 => ?_)
      refine zr_istore hB dX3_costOf_57 (by decide) (lv' := [(6, .int x18), (8, .int x11), (0, .ref (zk K 4)), (1, .int p1), (2, .int p2), (3, .int p3), (4, .int p4), (5, .int p5), (7, .int y7_3)]) rfl ?_
      refine zr_iinc hB 8 dX3_costOf_59 rfl (by decide) rfl (by omega) (by omega) (fun x19 ex19 lv' hlv => ?_)
      obtain rfl : [(7, .int x19), (6, .int x18), (8, .int x11), (0, .ref (zk K 4)), (1, .int p1), (2, .int p2), (3, .int p3), (4, .int p4), (5, .int p5)] = lv' := hlv
      refine zr_goto hB dX3_costOf_62 (tgt := 6) rfl ?_
      exact zc_sub [3, 4, 5, 6, 7, 8, 1, 0] rfl (ih6 x18 x19 (by omega) (by omega) (by omega))
  exact zc_sub [2, 3, 4, 5, 6, 7, 1, 0] rfl (L6_4 66 c1 p2 (by omega) (by omega) (by omega))

def m_X3_gather_4 : zc_ms := [(24, none), (4, some 12), (4, some 13)]
set_option maxHeartbeats 1000000 in
set_option maxRecDepth 100000 in
theorem c_X3_gather_4 (K : zc_K) (hi : zc_inj shX K.2.2.2.1) (σ0 : zc_S) (p1 : Int32) (p2 : Int32) (hO0 : zc_O okX σ0) (h1a : 0 ≤ p1.toInt) (h1b : p1.toInt ≤ 63) (h2a : 0 ≤ p2.toInt) (h2b : p2.toInt ≤ 63) : zc_M shX K yX3_gather cX3_gather 5 none (zrm 0 0) σ0 [.ref (zk K 4), .int p1, .int p2] (zc_N (fun σ9 => zc_O okX σ9 ∧ zc_Ag m_X3_gather_4 σ0 σ9)) := by
  refine zc_start RX3 hi pfX3_gather rfl (Nat.le_of_ble_eq_true rfl) ?_
  intro G hG
  have hB := hG.1
  have hA0 : zc_Ag m_X3_gather_4 σ0 σ0 := zc_Ag.rf
  show zc_V 5 K G (zc_D shX K G σ0) [(0, .ref (zk K 4)), (1, .int p1), (2, .int p2)] 0 []
  refine zr_iconst hB dX3_gather_0 rfl (fun c1 ec1 => ?_)
  refine zr_istore_n hB dX3_gather_1 rfl (by decide) (lv' := [(3, .int c1), (0, .ref (zk K 4)), (1, .int p1), (2, .int p2)]) rfl ?_
  refine zr_aload_n hB 1 dX3_gather_2 rfl ?_
  refine zr_iconst hB dX3_gather_3 rfl (fun c2 ec2 => ?_)
  refine zr_puti hG 4 12 dX3_gather_4 rfl wp_X3_139 rfl ?_
  have hOw3 := zc_O.u hO0 4 12 (v := c2) (show 0 ≤ c2.toInt by omega) (show c2.toInt ≤ 64 by omega) (Or.inr (show 0 ≤ c2.toInt by omega))
  have hAw3 := zc_Ag.u hA0 4 12 c2 rfl
  refine zr_aload_n hB 1 dX3_gather_7 rfl ?_
  refine zr_iconst hB dX3_gather_8 rfl (fun c4 ec4 => ?_)
  refine zr_puti hG 4 13 dX3_gather_9 rfl wp_X3_142 rfl ?_
  have hOw5 := zc_O.u hOw3 4 13 (v := c4) (zn_lo _) (zn_hi _) (Or.inr (zn_lo _))
  have hAw5 := zc_Ag.u hAw3 4 13 c4 rfl
  refine zr_iload_n hB 2 dX3_gather_12 rfl ?_
  refine zr_istore hB dX3_gather_13 (by decide) (lv' := [(4, .int p1), (3, .int c1), (0, .ref (zk K 4)), (1, .int p1), (2, .int p2)]) rfl ?_
  have L15_12 : ∀ (n15 : Nat) (σ8 : zc_S) (y3_6 : Int32) (y4_7 : Int32), zc_O okX σ8 → zc_Ag m_X3_gather_4 σ0 σ8 → 0 ≤ y3_6.toInt → y3_6.toInt ≤ 64 → 0 ≤ y4_7.toInt → y4_7.toInt ≤ 64 → y3_6.toInt + p1.toInt ≤ y4_7.toInt → 0 ≤ (σ8.1 4 12).toInt → (σ8.1 4 12).toInt ≤ y3_6.toInt → 64 - y4_7.toInt < (n15 : Int) → zc_V 5 K G (zc_D shX K G σ8) [(0, .ref (zk K 4)), (1, .int p1), (2, .int p2), (3, .int y3_6), (4, .int y4_7)] 15 [] := by
    intro n15
    induction n15 with
    | zero => intro σ8 y3_6 y4_7 hO8 hA8 y3_6a y3_6b y4_7a y4_7b e9 e10 e11 hn15; exfalso; omega
    | succ n15 ih15 =>
      intro σ8 y3_6 y4_7 hO8 hA8 y3_6a y3_6b y4_7a y4_7b e9 e10 e11 hn15
      refine zr_iload hB 4 dX3_gather_15 rfl ?_
      refine zr_iload_n hB 2 dX3_gather_17 rfl ?_
      refine zr_icmp_gt hB dX3_gather_18 (tgt := 115) rfl (fun c13 => ?_) (fun c13 => ?_)
      · exact zr_vret hG dX3_gather_115 ⟨hO8, hA8⟩
      refine zr_aload_n hB 0 dX3_gather_21 rfl ?_
      refine zr_getr hG 4 6 dX3_gather_22 rfl wf_X3_15 rfl ?_
      refine zr_iload hB 4 dX3_gather_25 rfl ?_
      refine zr_iald hG 22 dX3_gather_27 rfl (by omega) (by omega) (fun x14 ex14 => ?_)
      have bx14 : (-1000000) ≤ x14.toInt ∧ x14.toInt ≤ 1003 := by rw [ex14]; exact ⟨(hO8 22 _).1, (hO8 22 _).2.1⟩
      refine zr_ldc hB dX3_gather_28 wc_X3_109 (n := (-1000000)) rfl (fun c15 ec15 => ?_)
      refine zr_icmp_eq hB dX3_gather_30 (tgt := 109) rfl (fun c16 => ?_) (fun c16 => ?_)
      · refine zr_iinc hB 4 dX3_gather_109 rfl (by decide) rfl (by omega) (by omega) (fun x17 ex17 lv' hlv => ?_)
        obtain rfl : [(4, .int x17), (0, .ref (zk K 4)), (1, .int p1), (2, .int p2), (3, .int y3_6)] = lv' := hlv
        refine zr_goto hB dX3_gather_112 (tgt := 15) rfl ?_
        have b18 : 0 ≤ (σ8.1 4 12).toInt ∧ (σ8.1 4 12).toInt ≤ 64 := ⟨(hO8 4 12).1, (hO8 4 12).2.1⟩
        exact zc_sub [1, 2, 3, 4, 0] rfl (ih15 σ8 y3_6 x17 hO8 hA8 (by omega) (by omega) (by omega) (by omega) (show y3_6.toInt + p1.toInt ≤ x17.toInt by omega) (show 0 ≤ (σ8.1 4 12).toInt by omega) (show (σ8.1 4 12).toInt ≤ y3_6.toInt by omega) (by omega))
      refine zr_aload_n hB 0 dX3_gather_33 rfl ?_
      refine zr_getr hG 4 11 dX3_gather_34 rfl wf_X3_21 rfl ?_
      refine zr_iload_n hB 3 dX3_gather_37 rfl ?_
      refine zr_aload_n hB 0 dX3_gather_38 rfl ?_
      refine zr_getr hG 4 6 dX3_gather_39 rfl wf_X3_15 rfl ?_
      refine zr_iload hB 4 dX3_gather_42 rfl ?_
      refine zr_iald hG 22 dX3_gather_44 rfl (by omega) (by omega) (fun x19 ex19 => ?_)
      obtain rfl : x14 = x19 := ex14.trans ex19.symm
      refine zr_iast hG 24 dX3_gather_45 rfl (by omega) (by omega)  ?_
      have hOw20 := zc_O.u hO8 24 y3_6.toInt.toNat (v := x14) (show (-1000000) ≤ x14.toInt by omega) (show x14.toInt ≤ 1003 by omega) (Or.inr (show (-1000000) ≤ x14.toInt by omega))
      have hAw20 := zc_Ag.u hA8 24 y3_6.toInt.toNat x14 rfl
      refine zr_iinc hB 3 dX3_gather_46 rfl (by decide) rfl (by omega) (by omega) (fun x21 ex21 lv' hlv => ?_)
      obtain rfl : [(3, .int x21), (0, .ref (zk K 4)), (1, .int p1), (2, .int p2), (4, .int y4_7)] = lv' := hlv
      refine zr_aload_n hB 1 dX3_gather_49 rfl ?_
      refine zr_dup hB dX3_gather_50 rfl ?_
      refine zr_geti' hG 4 12 (σ8.1 4 12) dX3_gather_51 rfl wf_X3_139 rfl rfl ?_
      have b22 : 0 ≤ (σ8.1 4 12).toInt ∧ (σ8.1 4 12).toInt ≤ 64 := ⟨(hOw20 4 12).1, (hOw20 4 12).2.1⟩
      refine zr_aload_n hB 1 dX3_gather_54 rfl ?_
      refine zr_getr hG 4 0 dX3_gather_55 rfl wf_X3_24 rfl ?_
      refine zr_getr hG 1 7 dX3_gather_58 rfl wf_X3_145 rfl ?_
      refine zr_iload hB 4 dX3_gather_61 rfl ?_
      refine zr_zald hG 16 dX3_gather_63 rfl (by omega) (by omega) (fun x23 ex23 => ?_)
      have bx23 : 0 ≤ x23.toInt ∧ x23.toInt ≤ 1 := by rw [ex23]; exact ⟨(hOw20 16 _).1, (hOw20 16 _).2.1⟩
      refine zr_if_eq hB dX3_gather_64 (tgt := 71) rfl (fun c24 => ?_) (fun c24 => ?_)
      · refine zr_iconst hB dX3_gather_71 rfl (fun c25 ec25 => ?_)
        refine zr_iadd hB dX3_gather_72 (by omega) (by omega) (fun x26 ex26 => ?_)
        refine zr_puti hG 4 12 dX3_gather_73 rfl wp_X3_139 rfl ?_
        have hOw27 := zc_O.u hOw20 4 12 (v := x26) (show 0 ≤ x26.toInt by omega) (show x26.toInt ≤ 64 by omega) (Or.inr (show 0 ≤ x26.toInt by omega))
        have hAw27 := zc_Ag.u hAw20 4 12 x26 rfl
        refine zr_aload_n hB 1 dX3_gather_76 rfl ?_
        refine zr_dup hB dX3_gather_77 rfl ?_
        refine zr_geti' hG 4 13 (σ8.1 4 13) dX3_gather_78 rfl wf_X3_142 rfl rfl ?_
        refine zr_aload_n hB 1 dX3_gather_81 rfl ?_
        refine zr_getr hG 4 0 dX3_gather_82 rfl wf_X3_24 rfl ?_
        refine zr_getr hG 1 7 dX3_gather_85 rfl wf_X3_145 rfl ?_
        refine zr_iload hB 4 dX3_gather_88 rfl ?_
        refine zr_zald hG 16 dX3_gather_90 rfl (by omega) (by omega) (fun x28 ex28 => ?_)
        have bx28 : 0 ≤ x28.toInt ∧ x28.toInt ≤ 1 := by rw [ex28]; exact ⟨(hOw27 16 _).1, (hOw27 16 _).2.1⟩
        refine zr_if_eq hB dX3_gather_91 (tgt := 104) rfl (fun c29 => ?_) (fun c29 => ?_)
        · refine zr_iconst hB dX3_gather_104 rfl (fun c30 ec30 => ?_)
          have v32 := And.intro (zn_lo (σ8.1 4 13)) (zn_hi (σ8.1 4 13))
          refine zr_iadd hB dX3_gather_105 (by omega) (by omega) (fun x31 ex31 => ?_)
          refine zr_puti hG 4 13 dX3_gather_106 rfl wp_X3_142 rfl ?_
          have hOw33 := zc_O.u hOw27 4 13 (v := x31) (zn_lo _) (zn_hi _) (Or.inr (zn_lo _))
          have hAw33 := zc_Ag.u hAw27 4 13 x31 rfl
          refine zr_iinc hB 4 dX3_gather_109 rfl (by decide) rfl (by omega) (by omega) (fun x34 ex34 lv' hlv => ?_)
          obtain rfl : [(4, .int x34), (3, .int x21), (0, .ref (zk K 4)), (1, .int p1), (2, .int p2)] = lv' := hlv
          refine zr_goto hB dX3_gather_112 (tgt := 15) rfl ?_
          exact zc_sub [2, 3, 4, 1, 0] rfl (ih15 (zc_u (zc_u (zc_u σ8 24 y3_6.toInt.toNat x14) 4 12 x26) 4 13 x31) x21 x34 hOw33 hAw33 (by omega) (by omega) (by omega) (by omega) (show x21.toInt + p1.toInt ≤ x34.toInt by omega) (show 0 ≤ x26.toInt by omega) (show x26.toInt ≤ x21.toInt by omega) (by omega))
        refine zr_aload_n hB 1 dX3_gather_94 rfl ?_
        refine zr_getr hG 4 6 dX3_gather_95 rfl wf_X3_15 rfl ?_
        refine zr_iload hB 4 dX3_gather_98 rfl ?_
        refine zr_iald hG 22 dX3_gather_100 rfl (by omega) (by omega) (fun x35 ex35 => ?_)
        have bx35 : (-1000000) ≤ x35.toInt ∧ x35.toInt ≤ 1003 := by rw [ex35]; exact ⟨(hOw27 22 _).1, (hOw27 22 _).2.1⟩
        refine zr_goto hB dX3_gather_101 (tgt := 105) rfl ?_
        refine zr_iaddw hB dX3_gather_105 (fun x36 ex36 => ?_)
        refine zr_puti hG 4 13 dX3_gather_106 rfl wp_X3_142 rfl ?_
        have hOw37 := zc_O.u hOw27 4 13 (v := x36) (zn_lo _) (zn_hi _) (Or.inr (zn_lo _))
        have hAw37 := zc_Ag.u hAw27 4 13 x36 rfl
        refine zr_iinc hB 4 dX3_gather_109 rfl (by decide) rfl (by omega) (by omega) (fun x38 ex38 lv' hlv => ?_)
        obtain rfl : [(4, .int x38), (3, .int x21), (0, .ref (zk K 4)), (1, .int p1), (2, .int p2)] = lv' := hlv
        refine zr_goto hB dX3_gather_112 (tgt := 15) rfl ?_
        exact zc_sub [2, 3, 4, 1, 0] rfl (ih15 (zc_u (zc_u (zc_u σ8 24 y3_6.toInt.toNat x14) 4 12 x26) 4 13 x36) x21 x38 hOw37 hAw37 (by omega) (by omega) (by omega) (by omega) (show x21.toInt + p1.toInt ≤ x38.toInt by omega) (show 0 ≤ x26.toInt by omega) (show x26.toInt ≤ x21.toInt by omega) (by omega))
      refine zr_iconst hB dX3_gather_67 rfl (fun c39 ec39 => ?_)
      refine zr_goto hB dX3_gather_68 (tgt := 72) rfl ?_
      refine zr_iadd hB dX3_gather_72 (by omega) (by omega) (fun x40 ex40 => ?_)
      refine zr_puti hG 4 12 dX3_gather_73 rfl wp_X3_139 rfl ?_
      have hOw41 := zc_O.u hOw20 4 12 (v := x40) (show 0 ≤ x40.toInt by omega) (show x40.toInt ≤ 64 by omega) (Or.inr (show 0 ≤ x40.toInt by omega))
      have hAw41 := zc_Ag.u hAw20 4 12 x40 rfl
      refine zr_aload_n hB 1 dX3_gather_76 rfl ?_
      refine zr_dup hB dX3_gather_77 rfl ?_
      refine zr_geti' hG 4 13 (σ8.1 4 13) dX3_gather_78 rfl wf_X3_142 rfl rfl ?_
      refine zr_aload_n hB 1 dX3_gather_81 rfl ?_
      refine zr_getr hG 4 0 dX3_gather_82 rfl wf_X3_24 rfl ?_
      refine zr_getr hG 1 7 dX3_gather_85 rfl wf_X3_145 rfl ?_
      refine zr_iload hB 4 dX3_gather_88 rfl ?_
      refine zr_zald hG 16 dX3_gather_90 rfl (by omega) (by omega) (fun x42 ex42 => ?_)
      have bx42 : 0 ≤ x42.toInt ∧ x42.toInt ≤ 1 := by rw [ex42]; exact ⟨(hOw41 16 _).1, (hOw41 16 _).2.1⟩
      refine zr_if_eq hB dX3_gather_91 (tgt := 104) rfl (fun c43 => ?_) (fun c43 => ?_)
      · refine zr_iconst hB dX3_gather_104 rfl (fun c44 ec44 => ?_)
        have v46 := And.intro (zn_lo (σ8.1 4 13)) (zn_hi (σ8.1 4 13))
        refine zr_iadd hB dX3_gather_105 (by omega) (by omega) (fun x45 ex45 => ?_)
        refine zr_puti hG 4 13 dX3_gather_106 rfl wp_X3_142 rfl ?_
        have hOw47 := zc_O.u hOw41 4 13 (v := x45) (zn_lo _) (zn_hi _) (Or.inr (zn_lo _))
        have hAw47 := zc_Ag.u hAw41 4 13 x45 rfl
        refine zr_iinc hB 4 dX3_gather_109 rfl (by decide) rfl (by omega) (by omega) (fun x48 ex48 lv' hlv => ?_)
        obtain rfl : [(4, .int x48), (3, .int x21), (0, .ref (zk K 4)), (1, .int p1), (2, .int p2)] = lv' := hlv
        refine zr_goto hB dX3_gather_112 (tgt := 15) rfl ?_
        exact zc_sub [2, 3, 4, 1, 0] rfl (ih15 (zc_u (zc_u (zc_u σ8 24 y3_6.toInt.toNat x14) 4 12 x40) 4 13 x45) x21 x48 hOw47 hAw47 (by omega) (by omega) (by omega) (by omega) (show x21.toInt + p1.toInt ≤ x48.toInt by omega) (show 0 ≤ x40.toInt by omega) (show x40.toInt ≤ x21.toInt by omega) (by omega))
      refine zr_aload_n hB 1 dX3_gather_94 rfl ?_
      refine zr_getr hG 4 6 dX3_gather_95 rfl wf_X3_15 rfl ?_
      refine zr_iload hB 4 dX3_gather_98 rfl ?_
      refine zr_iald hG 22 dX3_gather_100 rfl (by omega) (by omega) (fun x49 ex49 => ?_)
      have bx49 : (-1000000) ≤ x49.toInt ∧ x49.toInt ≤ 1003 := by rw [ex49]; exact ⟨(hOw41 22 _).1, (hOw41 22 _).2.1⟩
      refine zr_goto hB dX3_gather_101 (tgt := 105) rfl ?_
      refine zr_iaddw hB dX3_gather_105 (fun x50 ex50 => ?_)
      refine zr_puti hG 4 13 dX3_gather_106 rfl wp_X3_142 rfl ?_
      have hOw51 := zc_O.u hOw41 4 13 (v := x50) (zn_lo _) (zn_hi _) (Or.inr (zn_lo _))
      have hAw51 := zc_Ag.u hAw41 4 13 x50 rfl
      refine zr_iinc hB 4 dX3_gather_109 rfl (by decide) rfl (by omega) (by omega) (fun x52 ex52 lv' hlv => ?_)
      obtain rfl : [(4, .int x52), (3, .int x21), (0, .ref (zk K 4)), (1, .int p1), (2, .int p2)] = lv' := hlv
      refine zr_goto hB dX3_gather_112 (tgt := 15) rfl ?_
      exact zc_sub [2, 3, 4, 1, 0] rfl (ih15 (zc_u (zc_u (zc_u σ8 24 y3_6.toInt.toNat x14) 4 12 x40) 4 13 x50) x21 x52 hOw51 hAw51 (by omega) (by omega) (by omega) (by omega) (show x21.toInt + p1.toInt ≤ x52.toInt by omega) (show 0 ≤ x40.toInt by omega) (show x40.toInt ≤ x21.toInt by omega) (by omega))
  exact zc_sub [2, 3, 4, 1, 0] rfl (L15_12 66 (zc_u (zc_u σ0 4 12 c2) 4 13 c4) c1 p1 hOw5 hAw5 (by omega) (by omega) (by omega) (by omega) (show c1.toInt + p1.toInt ≤ p1.toInt by omega) (show 0 ≤ c2.toInt by omega) (show c2.toInt ≤ c1.toInt by omega) (by omega))
