set_option maxHeartbeats 1000000 in
set_option maxRecDepth 100000 in
theorem c_X3_waysFrom_24_rec (K : zc_K) (hi : zc_inj shX K.2.2.2.1) : ∀ (n : Nat) (σ0 : zc_S) (p1 : Int32) (p2 : Int32) (p3 : Int32) (p4 : Int32) (hO0 : zc_O okX σ0) (h2a : 0 ≤ p2.toInt) (h2b : p2.toInt ≤ 16) (hr : 16 ≤ p2.toInt + (n : Int)), zc_M shX K yX3_waysFrom cX3_waysFrom 5 (some .int) (zrm n (24 * n)) σ0 [.ref (zk K 24), .int p1, .int p2, .int p3, .int p4] (zc_I (fun r9 σ9 => σ0 = σ9)) := by
  intro n
  induction n with
  | zero =>
    intro σ0 p1 p2 p3 p4 hO0 h2a h2b hr
    refine zc_start RX3 hi pfX3_waysFrom rfl (Nat.le_of_ble_eq_true rfl) ?_
    intro G hG
    have hB := hG.1
    show zc_V 5 K G (zc_D shX K G σ0) [(0, .ref (zk K 24)), (1, .int p1), (2, .int p2), (3, .int p3), (4, .int p4)] 0 []
    refine zr_iload_n hB 3 dX3_waysFrom_0 rfl ?_
    refine zr_if_ne hB dX3_waysFrom_1 (tgt := 15) rfl (fun c1 => ?_) (fun c1 => ?_)
    · refine zr_iload_n hB 2 dX3_waysFrom_15 rfl ?_
      refine zr_if_lt hB dX3_waysFrom_16 (tgt := 38) rfl (fun c2 => ?_) (fun c2 => ?_)
      · exfalso; omega
      refine zr_iload_n hB 2 dX3_waysFrom_19 rfl ?_
      refine zr_bipush hB dX3_waysFrom_20 rfl (fun c3 ec3 => ?_)
      refine zr_icmp_ge hB dX3_waysFrom_22 (tgt := 38) rfl (fun c4 => ?_) (fun c4 => ?_)
      · refine zr_iconst hB dX3_waysFrom_38 rfl (fun c5 ec5 => ?_)
        exact zr_iret hG dX3_waysFrom_39 rfl
      refine zr_iload_n hB 2 dX3_waysFrom_25 rfl ?_
      refine zr_aload_n hB 0 dX3_waysFrom_26 rfl ?_
      refine zr_alen hG 24 dX3_waysFrom_27 rfl rfl (m := 64) rfl (fun c6 ec6 => ?_)
      refine zr_icmp_ge hB dX3_waysFrom_28 (tgt := 38) rfl (fun c7 => ?_) (fun c7 => ?_)
      · exfalso; omega
      refine zr_iload_n hB 1 dX3_waysFrom_31 rfl ?_
      refine zr_iload_n hB 2 dX3_waysFrom_32 rfl ?_
      refine zr_isubw hB dX3_waysFrom_33 (fun x8 ex8 => ?_)
      refine zr_iload_n hB 3 dX3_waysFrom_34 rfl ?_
      refine zr_icmp_ge hB dX3_waysFrom_35 (tgt := 40) rfl (fun c9 => ?_) (fun c9 => ?_)
      · exfalso; omega
      refine zr_iconst hB dX3_waysFrom_38 rfl (fun c10 ec10 => ?_)
      exact zr_iret hG dX3_waysFrom_39 rfl
    refine zr_iload hB 4 dX3_waysFrom_4 rfl ?_
    refine zr_if_gt hB dX3_waysFrom_6 (tgt := 13) rfl (fun c11 => ?_) (fun c11 => ?_)
    · refine zr_iconst hB dX3_waysFrom_13 rfl (fun c12 ec12 => ?_)
      exact zr_iret hG dX3_waysFrom_14 rfl
    refine zr_iconst hB dX3_waysFrom_9 rfl (fun c13 ec13 => ?_)
    refine zr_goto hB dX3_waysFrom_10 (tgt := 14) rfl ?_
    exact zr_iret hG dX3_waysFrom_14 rfl
  | succ n ih =>
    intro σ0 p1 p2 p3 p4 hO0 h2a h2b hr
    refine zc_start RX3 hi pfX3_waysFrom rfl (Nat.le_of_ble_eq_true rfl) ?_
    intro G hG
    have hB := hG.1
    show zc_V 5 K G (zc_D shX K G σ0) [(0, .ref (zk K 24)), (1, .int p1), (2, .int p2), (3, .int p3), (4, .int p4)] 0 []
    refine zr_iload_n hB 3 dX3_waysFrom_0 rfl ?_
    refine zr_if_ne hB dX3_waysFrom_1 (tgt := 15) rfl (fun c1 => ?_) (fun c1 => ?_)
    · refine zr_iload_n hB 2 dX3_waysFrom_15 rfl ?_
      refine zr_if_lt hB dX3_waysFrom_16 (tgt := 38) rfl (fun c2 => ?_) (fun c2 => ?_)
      · exfalso; omega
      refine zr_iload_n hB 2 dX3_waysFrom_19 rfl ?_
      refine zr_bipush hB dX3_waysFrom_20 rfl (fun c3 ec3 => ?_)
      refine zr_icmp_ge hB dX3_waysFrom_22 (tgt := 38) rfl (fun c4 => ?_) (fun c4 => ?_)
      · refine zr_iconst hB dX3_waysFrom_38 rfl (fun c5 ec5 => ?_)
        exact zr_iret hG dX3_waysFrom_39 rfl
      refine zr_iload_n hB 2 dX3_waysFrom_25 rfl ?_
      refine zr_aload_n hB 0 dX3_waysFrom_26 rfl ?_
      refine zr_alen hG 24 dX3_waysFrom_27 rfl rfl (m := 64) rfl (fun c6 ec6 => ?_)
      refine zr_icmp_ge hB dX3_waysFrom_28 (tgt := 38) rfl (fun c7 => ?_) (fun c7 => ?_)
      · exfalso; omega
      refine zr_iload_n hB 1 dX3_waysFrom_31 rfl ?_
      refine zr_iload_n hB 2 dX3_waysFrom_32 rfl ?_
      refine zr_isubw hB dX3_waysFrom_33 (fun x8 ex8 => ?_)
      refine zr_iload_n hB 3 dX3_waysFrom_34 rfl ?_
      refine zr_icmp_ge hB dX3_waysFrom_35 (tgt := 40) rfl (fun c9 => ?_) (fun c9 => ?_)
      · refine zr_aload_n hB 0 dX3_waysFrom_40 rfl ?_
        refine zr_iload_n hB 1 dX3_waysFrom_41 rfl ?_
        refine zr_iload_n hB 2 dX3_waysFrom_42 rfl ?_
        refine zr_iconst hB dX3_waysFrom_43 rfl (fun c10 ec10 => ?_)
        refine zr_iadd hB dX3_waysFrom_44 (by omega) (by omega) (fun x11 ex11 => ?_)
        refine zr_iload_n hB 3 dX3_waysFrom_45 rfl ?_
        refine zr_iconst hB dX3_waysFrom_46 rfl (fun c12 ec12 => ?_)
        refine zr_isubw hB dX3_waysFrom_47 (fun x13 ex13 => ?_)
        refine zr_iload hB 4 dX3_waysFrom_48 rfl ?_
        refine zr_aload_n hB 0 dX3_waysFrom_50 rfl ?_
        refine zr_iload_n hB 2 dX3_waysFrom_51 rfl ?_
        refine zr_iald hG 24 dX3_waysFrom_52 rfl (by omega) (by omega) (fun x14 ex14 => ?_)
        have bx14 : (-1000000) ≤ x14.toInt ∧ x14.toInt ≤ 1003 := by rw [ex14]; exact ⟨(hO0 24 _).1, (hO0 24 _).2.1⟩
        refine zr_isubw hB dX3_waysFrom_53 (fun x15 ex15 => ?_)
        refine zr_callsi hG (rest := []) dX3_waysFrom_54 wm_X3_149 (ih σ0 p1 x11 x13 x15 hO0 (by omega) (by omega) (by omega)) rfl rfl (Nat.le_of_ble_eq_true rfl) ⟨by show n + 1 ≤ n + 1; omega, by show 8 + (5 + 11) + 24 * n ≤ 24 * (n + 1); omega, rfl, rfl⟩ (fun r16 σ17 h18 => ?_)
        obtain rfl := h18
        refine zr_aload_n hB 0 dX3_waysFrom_57 rfl ?_
        refine zr_iload_n hB 1 dX3_waysFrom_58 rfl ?_
        refine zr_iload_n hB 2 dX3_waysFrom_59 rfl ?_
        refine zr_iconst hB dX3_waysFrom_60 rfl (fun c19 ec19 => ?_)
        refine zr_iadd hB dX3_waysFrom_61 (by omega) (by omega) (fun x20 ex20 => ?_)
        refine zr_iload_n hB 3 dX3_waysFrom_62 rfl ?_
        refine zr_iload hB 4 dX3_waysFrom_63 rfl ?_
        refine zr_callsi hG (rest := [.int r16]) dX3_waysFrom_65 wm_X3_149 (ih σ0 p1 x20 p3 p4 hO0 (by omega) (by omega) (by omega)) rfl rfl (Nat.le_of_ble_eq_true rfl) ⟨by show n + 1 ≤ n + 1; omega, by show 8 + (5 + 11) + 24 * n ≤ 24 * (n + 1); omega, rfl, rfl⟩ (fun r21 σ22 h23 => ?_)
        obtain rfl := h23
        refine zr_iaddw hB dX3_waysFrom_68 (fun x24 ex24 => ?_)
        exact zr_iret hG dX3_waysFrom_69 rfl
      refine zr_iconst hB dX3_waysFrom_38 rfl (fun c25 ec25 => ?_)
      exact zr_iret hG dX3_waysFrom_39 rfl
    refine zr_iload hB 4 dX3_waysFrom_4 rfl ?_
    refine zr_if_gt hB dX3_waysFrom_6 (tgt := 13) rfl (fun c26 => ?_) (fun c26 => ?_)
    · refine zr_iconst hB dX3_waysFrom_13 rfl (fun c27 ec27 => ?_)
      exact zr_iret hG dX3_waysFrom_14 rfl
    refine zr_iconst hB dX3_waysFrom_9 rfl (fun c28 ec28 => ?_)
    refine zr_goto hB dX3_waysFrom_10 (tgt := 14) rfl ?_
    exact zr_iret hG dX3_waysFrom_14 rfl
theorem c_X3_waysFrom_24 (K : zc_K) (hi : zc_inj shX K.2.2.2.1) (σ0 : zc_S) (p1 : Int32) (p2 : Int32) (p3 : Int32) (p4 : Int32) (hO0 : zc_O okX σ0) (h2a : 0 ≤ p2.toInt) (h2b : p2.toInt ≤ 16) : zc_M shX K yX3_waysFrom cX3_waysFrom 5 (some .int) (zrm 16 384) σ0 [.ref (zk K 24), .int p1, .int p2, .int p3, .int p4] (zc_I (fun r9 σ9 => σ0 = σ9)) := c_X3_waysFrom_24_rec K hi 16 σ0 p1 p2 p3 p4 hO0 h2a h2b (by omega)

def m_X0_restart_5 : zc_ms := [(5, some 6), (5, some 7), (28, none), (29, none)]
set_option maxHeartbeats 1000000 in
set_option maxRecDepth 100000 in
theorem c_X0_restart_5 (K : zc_K) (hi : zc_inj shX K.2.2.2.1) (σ0 : zc_S)  (hO0 : zc_O okX σ0)  : zc_M shX K yX0_restart cX0_restart 1 none (zrm 1 24) σ0 [.ref (zk K 5)] (zc_N (fun σ9 => zc_O okX σ9 ∧ zc_Ag m_X0_restart_5 σ0 σ9)) := by
  refine zc_start RX0 hi pfX0_restart rfl (Nat.le_of_ble_eq_true rfl) ?_
  intro G hG
  have hB := hG.1
  have hA0 : zc_Ag m_X0_restart_5 σ0 σ0 := zc_Ag.rf
  show zc_V 1 K G (zc_D shX K G σ0) [(0, .ref (zk K 5))] 0 []
  refine zr_aload_n hB 0 dX0_restart_0 rfl ?_
  refine zr_iconst hB dX0_restart_1 rfl (fun c1 ec1 => ?_)
  refine zr_puti hG 5 6 dX0_restart_2 rfl wp_X0_74 rfl ?_
  have hOw2 := zc_O.u hO0 5 6 (v := c1) (show 0 ≤ c1.toInt by omega) (show c1.toInt ≤ 64 by omega) (Or.inr (show 0 ≤ c1.toInt by omega))
  have hAw2 := zc_Ag.u hA0 5 6 c1 rfl
  refine zr_aload_n hB 0 dX0_restart_5 rfl ?_
  refine zr_iconst hB dX0_restart_6 rfl (fun c3 ec3 => ?_)
  refine zr_puti hG 5 7 dX0_restart_7 rfl wp_X0_77 rfl ?_
  have hOw4 := zc_O.u hOw2 5 7 (v := c3) (zn_lo _) (zn_hi _) (Or.inr (zn_lo _))
  have hAw4 := zc_Ag.u hAw2 5 7 c3 rfl
  refine zr_aload_n hB 0 dX0_restart_10 rfl ?_
  refine zr_getr hG 5 8 dX0_restart_11 rfl wf_X0_21 rfl ?_
  refine zr_lconst hB dX0_restart_14 (m := 0) rfl (fun c5 ec5 => ?_)
  refine zr_callsn hG (rest := []) dX0_restart_15 wm_X0_80 (c_J7_fill_d0a16_28 K hG.2.2.2.2.2.1 (zc_u (zc_u σ0 5 6 c1) 5 7 c3) c5 hOw4 ) rfl rfl (Nat.le_of_ble_eq_true rfl) ⟨Nat.le_of_ble_eq_true rfl, Nat.le_of_ble_eq_true rfl, rfl, rfl⟩ (fun σ7 h8 => ?_)
  obtain ⟨hO9, hAc10⟩ := h8
  have hA11 := zc_Ag.tr hAw4 hAc10 rfl
  have q12 : (σ7.1 5 6).toInt = c1.toInt := congrArg Int32.toInt (hAc10 5 6 rfl).1
  have q13 : (σ7.1 5 7).toInt = c3.toInt := congrArg Int32.toInt (hAc10 5 7 rfl).1
  refine zr_aload_n hB 0 dX0_restart_18 rfl ?_
  refine zr_getr hG 5 9 dX0_restart_19 rfl wf_X0_25 rfl ?_
  refine zr_lconst hB dX0_restart_22 (m := 0) rfl (fun c14 ec14 => ?_)
  refine zr_callsn hG (rest := []) dX0_restart_23 wm_X0_80 (c_J7_fill_d0a16_29 K hG.2.2.2.2.2.1 σ7 c14 hO9 ) rfl rfl (Nat.le_of_ble_eq_true rfl) ⟨Nat.le_of_ble_eq_true rfl, Nat.le_of_ble_eq_true rfl, rfl, rfl⟩ (fun σ16 h17 => ?_)
  obtain ⟨hO18, hAc19⟩ := h17
  have hA20 := zc_Ag.tr hA11 hAc19 rfl
  have q21 : (σ16.1 5 6).toInt = (σ7.1 5 6).toInt := congrArg Int32.toInt (hAc19 5 6 rfl).1
  have q22 : (σ16.1 5 7).toInt = (σ7.1 5 7).toInt := congrArg Int32.toInt (hAc19 5 7 rfl).1
  exact zr_vret hG dX0_restart_26 ⟨hO18, hA20⟩

def m_X0_take_5 : zc_ms := [(5, some 7), (28, none), (29, none)]
set_option maxHeartbeats 1000000 in
set_option maxRecDepth 100000 in
theorem c_X0_take_5 (K : zc_K) (hi : zc_inj shX K.2.2.2.1) (σ0 : zc_S) (p1 : Int32) (hO0 : zc_O okX σ0) (h1a : (-4) ≤ p1.toInt) (h1b : p1.toInt ≤ 999) : zc_M shX K yX0_take cX0_take 5 none (zrm 2 51) σ0 [.ref (zk K 5), .int p1] (zc_N (fun σ9 => zc_O okX σ9 ∧ zc_Ag m_X0_take_5 σ0 σ9)) := by
  refine zc_start RX0 hi pfX0_take rfl (Nat.le_of_ble_eq_true rfl) ?_
  intro G hG
  have hB := hG.1
  have hA0 : zc_Ag m_X0_take_5 σ0 σ0 := zc_Ag.rf
  show zc_V 5 K G (zc_D shX K G σ0) [(0, .ref (zk K 5)), (1, .int p1)] 0 []
  refine zr_iconst hB dX0_take_0 rfl (fun c1 ec1 => ?_)
  refine zr_istore_n hB dX0_take_1 rfl (by decide) (lv' := [(2, .int c1), (0, .ref (zk K 5)), (1, .int p1)]) rfl ?_
  have L2_4 : ∀ (n2 : Nat) (σ3 : zc_S) (y2_2 : Int32), zc_O okX σ3 → zc_Ag m_X0_take_5 σ0 σ3 → 0 ≤ y2_2.toInt → y2_2.toInt ≤ 121 → 121 - y2_2.toInt < (n2 : Int) → zc_V 5 K G (zc_D shX K G σ3) [(0, .ref (zk K 5)), (1, .int p1), (2, .int y2_2)] 2 [] := by
    intro n2
    induction n2 with
    | zero => intro σ3 y2_2 hO3 hA3 y2_2a y2_2b hn2; exfalso; omega
    | succ n2 ih2 =>
      intro σ3 y2_2 hO3 hA3 y2_2a y2_2b hn2
      refine zr_iload_n hB 2 dX0_take_2 rfl ?_
      refine zr_bipush hB dX0_take_3 rfl (fun c5 ec5 => ?_)
      refine zr_icmp_ge hB dX0_take_5 (tgt := 78) rfl (fun c6 => ?_) (fun c6 => ?_)
      · refine zr_aload_n hB 0 dX0_take_78 rfl ?_
        refine zr_dup hB dX0_take_79 rfl ?_
        refine zr_geti' hG 5 7 (σ3.1 5 7) dX0_take_80 rfl wf_X0_77 rfl rfl ?_
        refine zr_iload_n hB 1 dX0_take_83 rfl ?_
        refine zr_bipush hB dX0_take_84 rfl (fun c7 ec7 => ?_)
        refine zr_icmp_ne hB dX0_take_86 (tgt := 93) rfl (fun c8 => ?_) (fun c8 => ?_)
        · refine zr_iconst hB dX0_take_93 rfl (fun c9 ec9 => ?_)
          refine zr_iaddw hB dX0_take_94 (fun x10 ex10 => ?_)
          refine zr_puti hG 5 7 dX0_take_95 rfl wp_X0_77 rfl ?_
          have hOw11 := zc_O.u hO3 5 7 (v := x10) (zn_lo _) (zn_hi _) (Or.inr (zn_lo _))
          have hAw11 := zc_Ag.u hA3 5 7 x10 rfl
          exact zr_vret hG dX0_take_98 ⟨hOw11, hAw11⟩
        refine zr_iconst hB dX0_take_89 rfl (fun c12 ec12 => ?_)
        refine zr_goto hB dX0_take_90 (tgt := 94) rfl ?_
        have v14 := And.intro (zn_lo (σ3.1 5 7)) (zn_hi (σ3.1 5 7))
        refine zr_iadd hB dX0_take_94 (by omega) (by omega) (fun x13 ex13 => ?_)
        refine zr_puti hG 5 7 dX0_take_95 rfl wp_X0_77 rfl ?_
        have hOw15 := zc_O.u hO3 5 7 (v := x13) (zn_lo _) (zn_hi _) (Or.inr (zn_lo _))
        have hAw15 := zc_Ag.u hA3 5 7 x13 rfl
        exact zr_vret hG dX0_take_98 ⟨hOw15, hAw15⟩
      refine zr_aload_n hB 0 dX0_take_8 rfl ?_
      refine zr_getr hG 5 8 dX0_take_9 rfl wf_X0_21 rfl ?_
      refine zr_iload_n hB 2 dX0_take_12 rfl ?_
      refine zr_lald hG 28 dX0_take_13 rfl (by omega) (by omega) (fun l16 el16 => ?_)
      refine zr_lstore_n hB dX0_take_14 rfl (by decide) (lv' := [(3, .long l16), (0, .ref (zk K 5)), (1, .int p1), (2, .int y2_2)]) rfl ?_
      refine zr_aload_n hB 1 dX0_take_15 rfl ?_
      refine zr_getr hG 5 8 dX0_take_16 rfl wf_X0_21 rfl ?_
      refine zr_iload_n hB 3 dX0_take_19 rfl ?_
      refine zr_iload_n hB 3 dX0_take_20 rfl ?_
      refine zr_bipush hB dX0_take_21 rfl (fun c17 ec17 => ?_)
      refine zr_idivc hB dX0_take_23 ec17 (by omega) (by decide) (fun x18 ex18 => ?_)
      refine zr_iload_n hB 2 dX0_take_24 rfl ?_
      refine zr_lload_n hB 0 dX0_take_25 rfl ?_
      refine zr_aload_n hB 1 dX0_take_26 rfl ?_
      refine zr_getr hG 5 9 dX0_take_27 rfl wf_X0_25 rfl ?_
      refine zr_iload_n hB 3 dX0_take_30 rfl ?_
      refine zr_lald hG 29 dX0_take_31 rfl (by omega) (by omega) (fun l19 el19 => ?_)
      refine zr_aload_n hB 1 dX0_take_32 rfl ?_
      refine zr_geti' hG 5 7 (σ3.1 5 7) dX0_take_33 rfl wf_X0_77 rfl rfl ?_
      refine zr_callsl hG (rest := [.int y2_2, .ref (zk K 28)]) dX0_take_36 wm_X0_93 (c_X7_levelAfter K hG.2.2.2.2.2.1 σ3 x18 p1 l16 l19 (σ3.1 5 7) hO3 ) rfl rfl (Nat.le_of_ble_eq_true rfl) ⟨Nat.le_of_ble_eq_true rfl, Nat.le_of_ble_eq_true rfl, rfl, rfl⟩ (fun r20 σ21 h22 => ?_)
      obtain rfl := h22
      refine zr_last hG 28 dX0_take_39 rfl (by omega) (by omega)  ?_
      have hOw23 := zc_O.ul hO3 28 y2_2.toInt.toNat r20
      have hAw23 := zc_Ag.ul hA3 28 y2_2.toInt.toNat r20 rfl
      refine zr_aload_n hB 1 dX0_take_40 rfl ?_
      refine zr_getr hG 5 9 dX0_take_41 rfl wf_X0_25 rfl ?_
      refine zr_iload_n hB 3 dX0_take_44 rfl ?_
      refine zr_iload_n hB 3 dX0_take_45 rfl ?_
      refine zr_bipush hB dX0_take_46 rfl (fun c24 ec24 => ?_)
      refine zr_iremc hB dX0_take_48 ec24 (by omega) (by decide) (fun x25 ex25 => ?_)
      refine zr_iload_n hB 2 dX0_take_49 rfl ?_
      refine zr_aload_n hB 1 dX0_take_50 rfl ?_
      refine zr_getr hG 5 8 dX0_take_51 rfl wf_X0_21 rfl ?_
      refine zr_iload_n hB 3 dX0_take_54 rfl ?_
      refine zr_lald hG 28 dX0_take_55 rfl (by omega) (by omega) (fun l26 el26 => ?_)
      refine zr_lload_n hB 0 dX0_take_56 rfl ?_
      refine zr_lsubw hB dX0_take_57 (fun l27 el27 => ?_)
      refine zr_aload_n hB 1 dX0_take_58 rfl ?_
      refine zr_getr hG 5 9 dX0_take_59 rfl wf_X0_25 rfl ?_
      refine zr_iload_n hB 3 dX0_take_62 rfl ?_
      refine zr_lald hG 29 dX0_take_63 rfl (by omega) (by omega) (fun l28 el28 => ?_)
      refine zr_aload_n hB 1 dX0_take_64 rfl ?_
      refine zr_geti' hG 5 7 (σ3.1 5 7) dX0_take_65 rfl wf_X0_77 rfl rfl ?_
      refine zr_callsl hG (rest := [.int y2_2, .ref (zk K 29)]) dX0_take_68 wm_X0_97 (c_X7_slopeAfter K hG.2.2.2.2.2.1 (zc_ul σ3 28 y2_2.toInt.toNat r20) x25 p1 l27 l28 (σ3.1 5 7) hOw23 ) rfl rfl (Nat.le_of_ble_eq_true rfl) ⟨Nat.le_of_ble_eq_true rfl, Nat.le_of_ble_eq_true rfl, rfl, rfl⟩ (fun r29 σ30 h31 => ?_)
      obtain rfl := h31
      refine zr_last hG 29 dX0_take_71 rfl (by omega) (by omega)  ?_
      have hOw32 := zc_O.ul hOw23 29 y2_2.toInt.toNat r29
      have hAw32 := zc_Ag.ul hAw23 29 y2_2.toInt.toNat r29 rfl
      refine zr_iinc hB 3 dX0_take_72 rfl (by decide) rfl (by omega) (by omega) (fun x33 ex33 lv' hlv => ?_)
      obtain rfl : [(2, .int x33), (3, .long l16), (0, .ref (zk K 5)), (1, .int p1)] = lv' := hlv
      refine zr_goto hB dX0_take_75 (tgt := 2) rfl ?_
      exact zc_sub [2, 3, 0] rfl (ih2 (zc_ul (zc_ul σ3 28 y2_2.toInt.toNat r20) 29 y2_2.toInt.toNat r29) x33 hOw32 hAw32 (by omega) (by omega) (by omega))
  exact zc_sub [1, 2, 0] rfl (L2_4 123 σ0 c1 hO0 hA0 (by omega) (by omega) (by omega))

def m_X0_follow_5 : zc_ms := [(5, some 6), (5, some 7), (28, none), (29, none), (27, none)]
set_option maxHeartbeats 1000000 in
set_option maxRecDepth 100000 in
theorem c_X0_follow_5 (K : zc_K) (hi : zc_inj shX K.2.2.2.1) (σ0 : zc_S)  (hO0 : zc_O okX σ0)  : zc_M shX K yX0_follow cX0_follow 3 none (zrm 3 75) σ0 [.ref (zk K 5)] (zc_N (fun σ9 => zc_O okX σ9 ∧ zc_Ag m_X0_follow_5 σ0 σ9)) := by
  refine zc_start RX0 hi pfX0_follow rfl (Nat.le_of_ble_eq_true rfl) ?_
  intro G hG
  have hB := hG.1
  have hA0 : zc_Ag m_X0_follow_5 σ0 σ0 := zc_Ag.rf
  show zc_V 3 K G (zc_D shX K G σ0) [(0, .ref (zk K 5))] 0 []
  refine zr_iconst hB dX0_follow_0 rfl (fun c1 ec1 => ?_)
  refine zr_istore_n hB dX0_follow_1 rfl (by decide) (lv' := [(1, .int c1), (0, .ref (zk K 5))]) rfl ?_
  refine zr_iconst hB dX0_follow_2 rfl (fun c2 ec2 => ?_)
  refine zr_istore_n hB dX0_follow_3 rfl (by decide) (lv' := [(2, .int c2), (1, .int c1), (0, .ref (zk K 5))]) rfl ?_
  have L4_5 : ∀ (n4 : Nat) (y1_3 : Int32) (y2_4 : Int32), 0 ≤ y1_3.toInt → y1_3.toInt ≤ 1 → 0 ≤ y2_4.toInt → y2_4.toInt ≤ 64 → 64 - y2_4.toInt < (n4 : Int) → zc_V 3 K G (zc_D shX K G σ0) [(0, .ref (zk K 5)), (1, .int y1_3), (2, .int y2_4)] 4 [] := by
    intro n4
    induction n4 with
    | zero => intro y1_3 y2_4 y1_3a y1_3b y2_4a y2_4b hn4; exfalso; omega
    | succ n4 ih4 =>
      intro y1_3 y2_4 y1_3a y1_3b y2_4a y2_4b hn4
      refine zr_iload_n hB 2 dX0_follow_4 rfl ?_
      refine zr_aload_n hB 0 dX0_follow_5 rfl ?_
      refine zr_geti' hG 5 6 (σ0.1 5 6) dX0_follow_6 rfl wf_X0_74 rfl rfl ?_
      have b6 : 0 ≤ (σ0.1 5 6).toInt ∧ (σ0.1 5 6).toInt ≤ 64 := ⟨(hO0 5 6).1, (hO0 5 6).2.1⟩
      refine zr_icmp_ge hB dX0_follow_9 (tgt := 46) rfl (fun c7 => ?_) (fun c7 => ?_)
      · refine zr_iload_n hB 1 dX0_follow_46 rfl ?_
        have L54_9 : ∀ (σ8 : zc_S) , zc_O okX σ8 → zc_Ag m_X0_follow_5 σ0 σ8 → zc_V 3 K G (zc_D shX K G σ8) [(0, .ref (zk K 5)), (1, .int y1_3), (2, .int y2_4)] 54 [] := by
          intro σ8 hO8 hA8
          refine zr_aload_n hB 0 dX0_follow_54 rfl ?_
          refine zr_geti' hG 5 6 (σ8.1 5 6) dX0_follow_55 rfl wf_X0_74 rfl rfl ?_
          have b10 : 0 ≤ (σ8.1 5 6).toInt ∧ (σ8.1 5 6).toInt ≤ 64 := ⟨(hO8 5 6).1, (hO8 5 6).2.1⟩
          refine zr_istore_n hB dX0_follow_58 rfl (by decide) (lv' := [(2, .int (σ8.1 5 6)), (0, .ref (zk K 5)), (1, .int y1_3)]) rfl ?_
          have L59_13 : ∀ (n59 : Nat) (σ12 : zc_S) (y2_11 : Int32), zc_O okX σ12 → zc_Ag m_X0_follow_5 σ0 σ12 → 0 ≤ y2_11.toInt → y2_11.toInt ≤ 64 → 64 - y2_11.toInt < (n59 : Int) → zc_V 3 K G (zc_D shX K G σ12) [(0, .ref (zk K 5)), (1, .int y1_3), (2, .int y2_11)] 59 [] := by
            intro n59
            induction n59 with
            | zero => intro σ12 y2_11 hO12 hA12 y2_11a y2_11b hn59; exfalso; omega
            | succ n59 ih59 =>
              intro σ12 y2_11 hO12 hA12 y2_11a y2_11b hn59
              refine zr_iload_n hB 2 dX0_follow_59 rfl ?_
              refine zr_aload_n hB 0 dX0_follow_60 rfl ?_
              refine zr_getr hG 5 1 dX0_follow_61 rfl wf_X0_37 rfl ?_
              refine zr_geti' hG 10 2 (σ12.1 10 2) dX0_follow_64 rfl wf_X0_86 rfl rfl ?_
              have b14 : 0 ≤ (σ12.1 10 2).toInt ∧ (σ12.1 10 2).toInt ≤ 63 := ⟨(hO12 10 2).1, (hO12 10 2).2.1⟩
              refine zr_icmp_gt hB dX0_follow_67 (tgt := 104) rfl (fun c15 => ?_) (fun c15 => ?_)
              · refine zr_aload_n hB 0 dX0_follow_104 rfl ?_
                refine zr_aload_n hB 0 dX0_follow_105 rfl ?_
                refine zr_getr hG 5 1 dX0_follow_106 rfl wf_X0_37 rfl ?_
                refine zr_geti' hG 10 2 (σ12.1 10 2) dX0_follow_109 rfl wf_X0_86 rfl rfl ?_
                refine zr_iconst hB dX0_follow_112 rfl (fun c16 ec16 => ?_)
                refine zr_iadd hB dX0_follow_113 (by omega) (by omega) (fun x17 ex17 => ?_)
                refine zr_puti hG 5 6 dX0_follow_114 rfl wp_X0_74 rfl ?_
                have hOw18 := zc_O.u hO12 5 6 (v := x17) (show 0 ≤ x17.toInt by omega) (show x17.toInt ≤ 64 by omega) (Or.inr (show 0 ≤ x17.toInt by omega))
                have hAw18 := zc_Ag.u hA12 5 6 x17 rfl
                exact zr_vret hG dX0_follow_117 ⟨hOw18, hAw18⟩
              refine zr_aload_n hB 0 dX0_follow_70 rfl ?_
              refine zr_aload_n hB 0 dX0_follow_71 rfl ?_
              refine zr_getr hG 5 1 dX0_follow_72 rfl wf_X0_37 rfl ?_
              refine zr_getr hG 10 1 dX0_follow_75 rfl wf_X0_83 rfl ?_
              refine zr_iload_n hB 2 dX0_follow_78 rfl ?_
              refine zr_iald hG 44 dX0_follow_79 rfl (by omega) (by omega) (fun x19 ex19 => ?_)
              have bx19 : (-4) ≤ x19.toInt ∧ x19.toInt ≤ 999 ∧ (x19.toInt = (-4) ∨ 0 ≤ x19.toInt) := by rw [ex19]; exact hO12 44 _
              refine zr_callvn hG (rest := []) 5 dX0_follow_80 wm_X0_89 rfl rfl (c_X0_take_5 K hG.2.2.2.2.2.1 σ12 x19 hO12 (by omega) (by omega)) rfl rfl (Nat.le_of_ble_eq_true rfl) ⟨Nat.le_of_ble_eq_true rfl, Nat.le_of_ble_eq_true rfl, rfl, rfl⟩ (fun σ21 h22 => ?_)
              obtain ⟨hO23, hAc24⟩ := h22
              have hA25 := zc_Ag.tr hA12 hAc24 rfl
              have q26 : (σ21.1 10 2).toInt = (σ12.1 10 2).toInt := congrArg Int32.toInt (hAc24 10 2 rfl).1
              refine zr_aload_n hB 0 dX0_follow_83 rfl ?_
              refine zr_getr hG 5 5 dX0_follow_84 rfl wf_X0_18 rfl ?_
              refine zr_iload_n hB 2 dX0_follow_87 rfl ?_
              refine zr_aload_n hB 0 dX0_follow_88 rfl ?_
              refine zr_getr hG 5 1 dX0_follow_89 rfl wf_X0_37 rfl ?_
              refine zr_getr hG 10 1 dX0_follow_92 rfl wf_X0_83 rfl ?_
              refine zr_iload_n hB 2 dX0_follow_95 rfl ?_
              refine zr_iald hG 44 dX0_follow_96 rfl (by omega) (by omega) (fun x27 ex27 => ?_)
              have bx27 : (-4) ≤ x27.toInt ∧ x27.toInt ≤ 999 ∧ (x27.toInt = (-4) ∨ 0 ≤ x27.toInt) := by rw [ex27]; exact hO23 44 _
              refine zr_iast hG 27 dX0_follow_97 rfl (by omega) (by omega)  ?_
              have hOw28 := zc_O.u hO23 27 y2_11.toInt.toNat (v := x27) (show (-4) ≤ x27.toInt by omega) (show x27.toInt ≤ 999 by omega) (show x27.toInt = (-4) ∨ 0 ≤ x27.toInt by omega)
              have hAw28 := zc_Ag.u hA25 27 y2_11.toInt.toNat x27 rfl
              refine zr_iinc hB 2 dX0_follow_98 rfl (by decide) rfl (by omega) (by omega) (fun x29 ex29 lv' hlv => ?_)
              obtain rfl : [(2, .int x29), (0, .ref (zk K 5)), (1, .int y1_3)] = lv' := hlv
              refine zr_goto hB dX0_follow_101 (tgt := 59) rfl ?_
              exact zc_sub [1, 2, 0] rfl (ih59 (zc_u σ21 27 y2_11.toInt.toNat x27) x29 hOw28 hAw28 (by omega) (by omega) (by omega))
          exact zc_sub [1, 2, 0] rfl (L59_13 66 σ8 (σ8.1 5 6) hO8 hA8 (by omega) (by omega) (by omega))
        refine zr_if_ne hB dX0_follow_47 (tgt := 54) rfl (fun c30 => ?_) (fun c30 => ?_)
        · exact L54_9 σ0 hO0 hA0
        refine zr_aload_n hB 0 dX0_follow_50 rfl ?_
        refine zr_callvn hG (rest := []) 5 dX0_follow_51 wm_X0_51 rfl rfl (c_X0_restart_5 K hG.2.2.2.2.2.1 σ0  hO0 ) rfl rfl (Nat.le_of_ble_eq_true rfl) ⟨Nat.le_of_ble_eq_true rfl, Nat.le_of_ble_eq_true rfl, rfl, rfl⟩ (fun σ32 h33 => ?_)
        obtain ⟨hO34, hAc35⟩ := h33
        have hA36 := zc_Ag.tr hA0 hAc35 rfl
        exact L54_9 σ32 hO34 hA36
      refine zr_iload_n hB 1 dX0_follow_12 rfl ?_
      refine zr_if_eq hB dX0_follow_13 (tgt := 38) rfl (fun c37 => ?_) (fun c37 => ?_)
      · refine zr_iconst hB dX0_follow_38 rfl (fun c38 ec38 => ?_)
        refine zr_istore_n hB dX0_follow_39 rfl (by decide) (lv' := [(1, .int c38), (0, .ref (zk K 5)), (2, .int y2_4)]) rfl ?_
        refine zr_iinc hB 2 dX0_follow_40 rfl (by decide) rfl (by omega) (by omega) (fun x39 ex39 lv' hlv => ?_)
        obtain rfl : [(2, .int x39), (1, .int c38), (0, .ref (zk K 5))] = lv' := hlv
        refine zr_goto hB dX0_follow_43 (tgt := 4) rfl ?_
        exact zc_sub [2, 1, 0] rfl (ih4 c38 x39 (by omega) (by omega) (by omega) (by omega) (by omega))
      refine zr_aload_n hB 0 dX0_follow_16 rfl ?_
      refine zr_getr hG 5 5 dX0_follow_17 rfl wf_X0_18 rfl ?_
      refine zr_iload_n hB 2 dX0_follow_20 rfl ?_
      refine zr_iald hG 27 dX0_follow_21 rfl (by omega) (by omega) (fun x40 ex40 => ?_)
      have bx40 : (-4) ≤ x40.toInt ∧ x40.toInt ≤ 999 ∧ (x40.toInt = (-4) ∨ 0 ≤ x40.toInt) := by rw [ex40]; exact hO0 27 _
      refine zr_aload_n hB 0 dX0_follow_22 rfl ?_
      refine zr_getr hG 5 1 dX0_follow_23 rfl wf_X0_37 rfl ?_
      refine zr_getr hG 10 1 dX0_follow_26 rfl wf_X0_83 rfl ?_
      refine zr_iload_n hB 2 dX0_follow_29 rfl ?_
      refine zr_iald hG 44 dX0_follow_30 rfl (by omega) (by omega) (fun x41 ex41 => ?_)
      have bx41 : (-4) ≤ x41.toInt ∧ x41.toInt ≤ 999 ∧ (x41.toInt = (-4) ∨ 0 ≤ x41.toInt) := by rw [ex41]; exact hO0 44 _
      refine zr_icmp_ne hB dX0_follow_31 (tgt := 38) rfl (fun c42 => ?_) (fun c42 => ?_)
      · refine zr_iconst hB dX0_follow_38 rfl (fun c43 ec43 => ?_)
        refine zr_istore_n hB dX0_follow_39 rfl (by decide) (lv' := [(1, .int c43), (0, .ref (zk K 5)), (2, .int y2_4)]) rfl ?_
        refine zr_iinc hB 2 dX0_follow_40 rfl (by decide) rfl (by omega) (by omega) (fun x44 ex44 lv' hlv => ?_)
        obtain rfl : [(2, .int x44), (1, .int c43), (0, .ref (zk K 5))] = lv' := hlv
        refine zr_goto hB dX0_follow_43 (tgt := 4) rfl ?_
        exact zc_sub [2, 1, 0] rfl (ih4 c43 x44 (by omega) (by omega) (by omega) (by omega) (by omega))
      refine zr_iconst hB dX0_follow_34 rfl (fun c45 ec45 => ?_)
      refine zr_goto hB dX0_follow_35 (tgt := 39) rfl ?_
      refine zr_istore_n hB dX0_follow_39 rfl (by decide) (lv' := [(1, .int c45), (0, .ref (zk K 5)), (2, .int y2_4)]) rfl ?_
      refine zr_iinc hB 2 dX0_follow_40 rfl (by decide) rfl (by omega) (by omega) (fun x46 ex46 lv' hlv => ?_)
      obtain rfl : [(2, .int x46), (1, .int c45), (0, .ref (zk K 5))] = lv' := hlv
      refine zr_goto hB dX0_follow_43 (tgt := 4) rfl ?_
      exact zc_sub [2, 1, 0] rfl (ih4 c45 x46 (by omega) (by omega) (by omega) (by omega) (by omega))
  exact zc_sub [2, 1, 0] rfl (L4_5 66 c1 c2 (by omega) (by omega) (by omega) (by omega) (by omega))

set_option maxHeartbeats 1000000 in
set_option maxRecDepth 100000 in
theorem c_X0_stepTold_5 (K : zc_K) (hi : zc_inj shX K.2.2.2.1) (σ0 : zc_S) (p1 : Int32) (p2 : Int32) (hO0 : zc_O okX σ0) (h1a : 0 ≤ p1.toInt) (h1b : p1.toInt ≤ 120) : zc_M shX K yX0_stepTold cX0_stepTold 3 (some .int) (zrm 2 51) σ0 [.ref (zk K 5), .int p1, .int p2] (zc_I (fun r9 σ9 => σ0 = σ9 ∧ (-4) ≤ r9.toInt ∧ r9.toInt ≤ 999 ∧ (r9.toInt = (-4) ∨ 0 ≤ r9.toInt))) := by
  refine zc_start RX0 hi pfX0_stepTold rfl (Nat.le_of_ble_eq_true rfl) ?_
  intro G hG
  have hB := hG.1
  show zc_V 3 K G (zc_D shX K G σ0) [(0, .ref (zk K 5)), (1, .int p1), (2, .int p2)] 0 []
  refine zr_aload_n hB 0 dX0_stepTold_0 rfl ?_
  refine zr_geti' hG 5 7 (σ0.1 5 7) dX0_stepTold_1 rfl wf_X0_77 rfl rfl ?_
  refine zr_iconst hB dX0_stepTold_4 rfl (fun c1 ec1 => ?_)
  refine zr_icmp_ge hB dX0_stepTold_5 (tgt := 13) rfl (fun c2 => ?_) (fun c2 => ?_)
  · refine zr_aload_n hB 0 dX0_stepTold_13 rfl ?_
    refine zr_getr hG 5 8 dX0_stepTold_14 rfl wf_X0_21 rfl ?_
    refine zr_iload_n hB 1 dX0_stepTold_17 rfl ?_
    refine zr_lald hG 28 dX0_stepTold_18 rfl (by omega) (by omega) (fun l3 el3 => ?_)
    refine zr_aload_n hB 0 dX0_stepTold_19 rfl ?_
    refine zr_getr hG 5 9 dX0_stepTold_20 rfl wf_X0_25 rfl ?_
    refine zr_iload_n hB 1 dX0_stepTold_23 rfl ?_
    refine zr_lald hG 29 dX0_stepTold_24 rfl (by omega) (by omega) (fun l4 el4 => ?_)
    refine zr_iload_n hB 2 dX0_stepTold_25 rfl ?_
    refine zr_callsi hG (rest := []) dX0_stepTold_26 wm_X0_114 (c_X7_toldByStep K hG.2.2.2.2.2.1 σ0 l3 l4 p2 hO0 ) rfl rfl (Nat.le_of_ble_eq_true rfl) ⟨Nat.le_of_ble_eq_true rfl, Nat.le_of_ble_eq_true rfl, rfl, rfl⟩ (fun r5 σ6 h7 => ?_)
    obtain ⟨rfl, r5a, r5b⟩ := h7
    exact zr_iret hG dX0_stepTold_29 ⟨rfl, by omega, by omega, by omega⟩
  refine zr_bipush hB dX0_stepTold_8 rfl (fun c8 ec8 => ?_)
  refine zr_goto hB dX0_stepTold_10 (tgt := 29) rfl ?_
  exact zr_iret hG dX0_stepTold_29 ⟨rfl, by omega, by omega, by omega⟩

def m_X0_score_5 : zc_ms := [(25, none), (26, none)]
set_option maxHeartbeats 1000000 in
set_option maxRecDepth 100000 in
theorem c_X0_score_5 (K : zc_K) (hi : zc_inj shX K.2.2.2.1) (σ0 : zc_S) (p1 : Int32) (p2 : Int32) (p3 : Int32) (hO0 : zc_O okX σ0) (h1a : 0 ≤ p1.toInt) (h1b : p1.toInt ≤ 3) (h2a : 1 ≤ p2.toInt) (h2b : p2.toInt ≤ 14) (h3a : (-4) ≤ p3.toInt) (h3b : p3.toInt ≤ 999) : zc_M shX K yX0_score cX0_score 6 none (zrm 4 107) σ0 [.ref (zk K 5), .int p1, .int p2, .int p3] (zc_N (fun σ9 => zc_O okX σ9 ∧ zc_Ag m_X0_score_5 σ0 σ9)) := by
  refine zc_start RX0 hi pfX0_score rfl (Nat.le_of_ble_eq_true rfl) ?_
  intro G hG
  have hB := hG.1
  have hA0 : zc_Ag m_X0_score_5 σ0 σ0 := zc_Ag.rf
  show zc_V 6 K G (zc_D shX K G σ0) [(0, .ref (zk K 5)), (1, .int p1), (2, .int p2), (3, .int p3)] 0 []
  refine zr_iconst hB dX0_score_0 rfl (fun c1 ec1 => ?_)
  refine zr_istore hB dX0_score_1 (by decide) (lv' := [(4, .int c1), (0, .ref (zk K 5)), (1, .int p1), (2, .int p2), (3, .int p3)]) rfl ?_
  have L3_4 : ∀ (n3 : Nat) (σ3 : zc_S) (y4_2 : Int32), zc_O okX σ3 → zc_Ag m_X0_score_5 σ0 σ3 → 0 ≤ y4_2.toInt → y4_2.toInt ≤ 121 → 121 - y4_2.toInt < (n3 : Int) → zc_V 6 K G (zc_D shX K G σ3) [(0, .ref (zk K 5)), (1, .int p1), (2, .int p2), (3, .int p3), (4, .int y4_2)] 3 [] := by
    intro n3
    induction n3 with
    | zero => intro σ3 y4_2 hO3 hA3 y4_2a y4_2b hn3; exfalso; omega
    | succ n3 ih3 =>
      intro σ3 y4_2 hO3 hA3 y4_2a y4_2b hn3
      refine zr_iload hB 4 dX0_score_3 rfl ?_
      refine zr_aload_n hB 0 dX0_score_5 rfl ?_
      refine zr_geti' hG 5 2 (σ3.1 5 2) dX0_score_6 rfl wf_X0_41 rfl rfl ?_
      have b5 : 0 ≤ (σ3.1 5 2).toInt ∧ (σ3.1 5 2).toInt ≤ 121 := ⟨(hO3 5 2).1, (hO3 5 2).2.1⟩
      refine zr_icmp_ge hB dX0_score_9 (tgt := 84) rfl (fun c6 => ?_) (fun c6 => ?_)
      · exact zr_vret hG dX0_score_84 ⟨hO3, hA3⟩
      refine zr_iload_n hB 1 dX0_score_12 rfl ?_
      refine zr_iconst hB dX0_score_13 rfl (fun c7 ec7 => ?_)
      refine zr_icmp_ne hB dX0_score_14 (tgt := 27) rfl (fun c8 => ?_) (fun c8 => ?_)
      · refine zr_aload_n hB 0 dX0_score_27 rfl ?_
        refine zr_getr hG 5 1 dX0_score_28 rfl wf_X0_37 rfl ?_
        refine zr_iload_n hB 1 dX0_score_31 rfl ?_
        refine zr_iload hB 4 dX0_score_32 rfl ?_
        refine zr_iconst hB dX0_score_34 rfl (fun c9 ec9 => ?_)
        refine zr_iadd hB dX0_score_35 (by omega) (by omega) (fun x10 ex10 => ?_)
        refine zr_iconst hB dX0_score_36 rfl (fun c11 ec11 => ?_)
        refine zr_iload_n hB 2 dX0_score_37 rfl ?_
        refine zr_callvi hG (rest := []) 10 dX0_score_38 wm_X0_104 rfl rfl (c_X7_foretell_10 K hG.2.2.2.2.2.1 σ3 p1 x10 c11 p2 hO3 (by omega) (by omega)) rfl rfl (Nat.le_of_ble_eq_true rfl) ⟨Nat.le_of_ble_eq_true rfl, Nat.le_of_ble_eq_true rfl, rfl, rfl⟩ (fun r12 σ13 h14 => ?_)
        obtain ⟨rfl, r12a, r12b, r12h⟩ := h14
        refine zr_istore hB dX0_score_41 (by decide) (lv' := [(5, .int r12), (0, .ref (zk K 5)), (1, .int p1), (2, .int p2), (3, .int p3), (4, .int y4_2)]) rfl ?_
        refine zr_iload hB 0 dX0_score_43 rfl ?_
        refine zr_bipush hB dX0_score_45 rfl (fun c15 ec15 => ?_)
        refine zr_icmp_eq hB dX0_score_47 (tgt := 78) rfl (fun c16 => ?_) (fun c16 => ?_)
        · refine zr_iinc hB 5 dX0_score_78 rfl (by decide) rfl (by omega) (by omega) (fun x17 ex17 lv' hlv => ?_)
          obtain rfl : [(4, .int x17), (5, .int r12), (0, .ref (zk K 5)), (1, .int p1), (2, .int p2), (3, .int p3)] = lv' := hlv
          refine zr_goto hB dX0_score_81 (tgt := 3) rfl ?_
          exact zc_sub [2, 3, 4, 5, 0] rfl (ih3 σ3 x17 hO3 hA3 (by omega) (by omega) (by omega))
        refine zr_aload_n hB 1 dX0_score_50 rfl ?_
        refine zr_getr hG 5 3 dX0_score_51 rfl wf_X0_9 rfl ?_
        refine zr_iload hB 5 dX0_score_54 rfl ?_
        refine zr_dup2 hB dX0_score_56 rfl rfl ?_
        refine zr_iald hG 25 dX0_score_57 rfl (by omega) (by omega) (fun x18 ex18 => ?_)
        refine zr_iconst hB dX0_score_58 rfl (fun c19 ec19 => ?_)
        refine zr_iaddw hB dX0_score_59 (fun x20 ex20 => ?_)
        refine zr_iast hG 25 dX0_score_60 rfl (by omega) (by omega)  ?_
        have hOw21 := zc_O.u hO3 25 y4_2.toInt.toNat (v := x20) (zn_lo _) (zn_hi _) (Or.inr (zn_lo _))
        have hAw21 := zc_Ag.u hA3 25 y4_2.toInt.toNat x20 rfl
        refine zr_aload_n hB 1 dX0_score_61 rfl ?_
        refine zr_getr hG 5 4 dX0_score_62 rfl wf_X0_15 rfl ?_
        refine zr_iload hB 5 dX0_score_65 rfl ?_
        refine zr_dup2 hB dX0_score_67 rfl rfl ?_
        refine zr_iald hG 26 dX0_score_68 rfl (by omega) (by omega) (fun x22 ex22 => ?_)
        refine zr_iload hB 0 dX0_score_69 rfl ?_
        refine zr_iload_n hB 4 dX0_score_71 rfl ?_
        refine zr_isub hB dX0_score_72 (by omega) (by omega) (fun x23 ex23 => ?_)
        refine zr_callsi hG (rest := [.int x22, .int y4_2, .ref (zk K 26)]) dX0_score_73 wm_X0_108 (c_J9_abs_0f7a4 K hG.2.2.2.2.2.1 (zc_u σ3 25 y4_2.toInt.toNat x20) x23 hOw21 (by omega)) rfl rfl (Nat.le_of_ble_eq_true rfl) ⟨Nat.le_of_ble_eq_true rfl, Nat.le_of_ble_eq_true rfl, rfl, rfl⟩ (fun r24 σ25 h26 => ?_)
        obtain ⟨rfl, r24a, g27⟩ := h26
        refine zr_iaddw hB dX0_score_76 (fun x28 ex28 => ?_)
        refine zr_iast hG 26 dX0_score_77 rfl (by omega) (by omega)  ?_
        have hOw29 := zc_O.u hOw21 26 y4_2.toInt.toNat (v := x28) (zn_lo _) (zn_hi _) (Or.inr (zn_lo _))
        have hAw29 := zc_Ag.u hAw21 26 y4_2.toInt.toNat x28 rfl
        refine zr_iinc hB 5 dX0_score_78 rfl (by decide) rfl (by omega) (by omega) (fun x30 ex30 lv' hlv => ?_)
        obtain rfl : [(4, .int x30), (5, .int r12), (0, .ref (zk K 5)), (1, .int p1), (2, .int p2), (3, .int p3)] = lv' := hlv
        refine zr_goto hB dX0_score_81 (tgt := 3) rfl ?_
        exact zc_sub [2, 3, 4, 5, 0] rfl (ih3 (zc_u (zc_u σ3 25 y4_2.toInt.toNat x20) 26 y4_2.toInt.toNat x28) x30 hOw29 hAw29 (by omega) (by omega) (by omega))
      refine zr_aload_n hB 0 dX0_score_17 rfl ?_
      refine zr_iload hB 4 dX0_score_18 rfl ?_
      refine zr_iload_n hB 2 dX0_score_20 rfl ?_
      refine zr_callvi hG (rest := []) 5 dX0_score_21 wm_X0_100 rfl rfl (c_X0_stepTold_5 K hG.2.2.2.2.2.1 σ3 y4_2 p2 hO3 (by omega) (by omega)) rfl rfl (Nat.le_of_ble_eq_true rfl) ⟨Nat.le_of_ble_eq_true rfl, Nat.le_of_ble_eq_true rfl, rfl, rfl⟩ (fun r31 σ32 h33 => ?_)
      obtain ⟨rfl, r31a, r31b, r31h⟩ := h33
      refine zr_goto hB dX0_score_24 (tgt := 41) rfl ?_
      refine zr_istore hB dX0_score_41 (by decide) (lv' := [(5, .int r31), (0, .ref (zk K 5)), (1, .int p1), (2, .int p2), (3, .int p3), (4, .int y4_2)]) rfl ?_
      refine zr_iload hB 0 dX0_score_43 rfl ?_
      refine zr_bipush hB dX0_score_45 rfl (fun c34 ec34 => ?_)
      refine zr_icmp_eq hB dX0_score_47 (tgt := 78) rfl (fun c35 => ?_) (fun c35 => ?_)
      · refine zr_iinc hB 5 dX0_score_78 rfl (by decide) rfl (by omega) (by omega) (fun x36 ex36 lv' hlv => ?_)
        obtain rfl : [(4, .int x36), (5, .int r31), (0, .ref (zk K 5)), (1, .int p1), (2, .int p2), (3, .int p3)] = lv' := hlv
        refine zr_goto hB dX0_score_81 (tgt := 3) rfl ?_
        exact zc_sub [2, 3, 4, 5, 0] rfl (ih3 σ3 x36 hO3 hA3 (by omega) (by omega) (by omega))
      refine zr_aload_n hB 1 dX0_score_50 rfl ?_
      refine zr_getr hG 5 3 dX0_score_51 rfl wf_X0_9 rfl ?_
      refine zr_iload hB 5 dX0_score_54 rfl ?_
      refine zr_dup2 hB dX0_score_56 rfl rfl ?_
      refine zr_iald hG 25 dX0_score_57 rfl (by omega) (by omega) (fun x37 ex37 => ?_)
      refine zr_iconst hB dX0_score_58 rfl (fun c38 ec38 => ?_)
      refine zr_iaddw hB dX0_score_59 (fun x39 ex39 => ?_)
      refine zr_iast hG 25 dX0_score_60 rfl (by omega) (by omega)  ?_
      have hOw40 := zc_O.u hO3 25 y4_2.toInt.toNat (v := x39) (zn_lo _) (zn_hi _) (Or.inr (zn_lo _))
      have hAw40 := zc_Ag.u hA3 25 y4_2.toInt.toNat x39 rfl
      refine zr_aload_n hB 1 dX0_score_61 rfl ?_
      refine zr_getr hG 5 4 dX0_score_62 rfl wf_X0_15 rfl ?_
      refine zr_iload hB 5 dX0_score_65 rfl ?_
      refine zr_dup2 hB dX0_score_67 rfl rfl ?_
      refine zr_iald hG 26 dX0_score_68 rfl (by omega) (by omega) (fun x41 ex41 => ?_)
      refine zr_iload hB 0 dX0_score_69 rfl ?_
      refine zr_iload_n hB 4 dX0_score_71 rfl ?_
      refine zr_isub hB dX0_score_72 (by omega) (by omega) (fun x42 ex42 => ?_)
      refine zr_callsi hG (rest := [.int x41, .int y4_2, .ref (zk K 26)]) dX0_score_73 wm_X0_108 (c_J9_abs_0f7a4 K hG.2.2.2.2.2.1 (zc_u σ3 25 y4_2.toInt.toNat x39) x42 hOw40 (by omega)) rfl rfl (Nat.le_of_ble_eq_true rfl) ⟨Nat.le_of_ble_eq_true rfl, Nat.le_of_ble_eq_true rfl, rfl, rfl⟩ (fun r43 σ44 h45 => ?_)
      obtain ⟨rfl, r43a, g46⟩ := h45
      refine zr_iaddw hB dX0_score_76 (fun x47 ex47 => ?_)
      refine zr_iast hG 26 dX0_score_77 rfl (by omega) (by omega)  ?_
      have hOw48 := zc_O.u hOw40 26 y4_2.toInt.toNat (v := x47) (zn_lo _) (zn_hi _) (Or.inr (zn_lo _))
      have hAw48 := zc_Ag.u hAw40 26 y4_2.toInt.toNat x47 rfl
      refine zr_iinc hB 5 dX0_score_78 rfl (by decide) rfl (by omega) (by omega) (fun x49 ex49 lv' hlv => ?_)
      obtain rfl : [(4, .int x49), (5, .int r31), (0, .ref (zk K 5)), (1, .int p1), (2, .int p2), (3, .int p3)] = lv' := hlv
      refine zr_goto hB dX0_score_81 (tgt := 3) rfl ?_
      exact zc_sub [2, 3, 4, 5, 0] rfl (ih3 (zc_u (zc_u σ3 25 y4_2.toInt.toNat x39) 26 y4_2.toInt.toNat x47) x49 hOw48 hAw48 (by omega) (by omega) (by omega))
  exact zc_sub [1, 2, 3, 4, 0] rfl (L3_4 123 σ0 c1 hO0 hA0 (by omega) (by omega) (by omega))

def m_X0_run_5 : zc_ms := [(5, some 6), (5, some 7), (28, none), (29, none), (27, none), (25, none), (26, none), (5, some 2), (10, some 2), (44, none)]
set_option maxHeartbeats 1000000 in
set_option maxRecDepth 100000 in
theorem c_X0_run_5 (K : zc_K) (hi : zc_inj shX K.2.2.2.1) (σ0 : zc_S) (p1 : Int32) (p2 : Int32) (p3 : Int32) (p4 : Int32) (p5 : Int32) (hO0 : zc_O okX σ0) (h1a : 0 ≤ p1.toInt) (h1b : p1.toInt ≤ 3) (h2a : 0 ≤ p2.toInt) (h2b : p2.toInt ≤ 3) (h3a : 1 ≤ p3.toInt) (h3b : p3.toInt ≤ 14) (h4a : 0 ≤ p4.toInt) (h4b : p4.toInt ≤ 63) (h5a : 0 ≤ p5.toInt) (h5b : p5.toInt ≤ 63) : zc_M shX K yX0_run cX0_run 8 none (zrm 5 132) σ0 [.ref (zk K 5), .int p1, .int p2, .int p3, .int p4, .int p5] (zc_N (fun σ9 => zc_O okX σ9 ∧ zc_Ag m_X0_run_5 σ0 σ9)) := by
  refine zc_start RX0 hi pfX0_run rfl (Nat.le_of_ble_eq_true rfl) ?_
  intro G hG
  have hB := hG.1
  have hA0 : zc_Ag m_X0_run_5 σ0 σ0 := zc_Ag.rf
  show zc_V 8 K G (zc_D shX K G σ0) [(0, .ref (zk K 5)), (1, .int p1), (2, .int p2), (3, .int p3), (4, .int p4), (5, .int p5)] 0 []
  refine zr_aload_n hB 0 dX0_run_0 rfl ?_
  refine zr_iload_n hB 2 dX0_run_1 rfl ?_
  refine zr_iconst hB dX0_run_2 rfl (fun c1 ec1 => ?_)
  refine zr_icmp_ne hB dX0_run_3 (tgt := 11) rfl (fun c2 => ?_) (fun c2 => ?_)
  · refine zr_bipush hB dX0_run_11 rfl (fun c3 ec3 => ?_)
    refine zr_puti hG 5 2 dX0_run_13 rfl wp_X0_41 rfl ?_
    have hOw4 := zc_O.u hO0 5 2 (v := c3) (show 0 ≤ c3.toInt by omega) (show c3.toInt ≤ 121 by omega) (Or.inr (show 0 ≤ c3.toInt by omega))
    have hAw4 := zc_Ag.u hA0 5 2 c3 rfl
    refine zr_aload_n hB 0 dX0_run_16 rfl ?_
    refine zr_getr hG 5 3 dX0_run_17 rfl wf_X0_9 rfl ?_
    refine zr_iconst hB dX0_run_20 rfl (fun c5 ec5 => ?_)
    refine zr_callsn hG (rest := []) dX0_run_21 wm_X0_45 (c_J7_fill_53178_25 K hG.2.2.2.2.2.1 (zc_u σ0 5 2 c3) c5 hOw4 ) rfl rfl (Nat.le_of_ble_eq_true rfl) ⟨Nat.le_of_ble_eq_true rfl, Nat.le_of_ble_eq_true rfl, rfl, rfl⟩ (fun σ7 h8 => ?_)
    obtain ⟨hO9, hAc10⟩ := h8
    have hA11 := zc_Ag.tr hAw4 hAc10 rfl
    have q12 : (σ7.1 5 2).toInt = c3.toInt := congrArg Int32.toInt (hAc10 5 2 rfl).1
    refine zr_aload_n hB 0 dX0_run_24 rfl ?_
    refine zr_getr hG 5 4 dX0_run_25 rfl wf_X0_15 rfl ?_
    refine zr_iconst hB dX0_run_28 rfl (fun c13 ec13 => ?_)
    refine zr_callsn hG (rest := []) dX0_run_29 wm_X0_45 (c_J7_fill_53178_26 K hG.2.2.2.2.2.1 σ7 c13 hO9 ) rfl rfl (Nat.le_of_ble_eq_true rfl) ⟨Nat.le_of_ble_eq_true rfl, Nat.le_of_ble_eq_true rfl, rfl, rfl⟩ (fun σ15 h16 => ?_)
    obtain ⟨hO17, hAc18⟩ := h16
    have hA19 := zc_Ag.tr hA11 hAc18 rfl
    have q20 : (σ15.1 5 2).toInt = (σ7.1 5 2).toInt := congrArg Int32.toInt (hAc18 5 2 rfl).1
    refine zr_aload_n hB 0 dX0_run_32 rfl ?_
    refine zr_callvn hG (rest := []) 5 dX0_run_33 wm_X0_51 rfl rfl (c_X0_restart_5 K hG.2.2.2.2.2.1 σ15  hO17 ) rfl rfl (Nat.le_of_ble_eq_true rfl) ⟨Nat.le_of_ble_eq_true rfl, Nat.le_of_ble_eq_true rfl, rfl, rfl⟩ (fun σ22 h23 => ?_)
    obtain ⟨hO24, hAc25⟩ := h23
    have hA26 := zc_Ag.tr hA19 hAc25 rfl
    have q27 : (σ22.1 5 2).toInt = (σ15.1 5 2).toInt := congrArg Int32.toInt (hAc25 5 2 rfl).1
    refine zr_iload_n hB 3 dX0_run_36 rfl ?_
    refine zr_istore hB dX0_run_37 (by decide) (lv' := [(6, .int p3), (0, .ref (zk K 5)), (1, .int p1), (2, .int p2), (3, .int p3), (4, .int p4), (5, .int p5)]) rfl ?_
    have L39_31 : ∀ (n39 : Nat) (σ29 : zc_S) (y6_28 : Int32), zc_O okX σ29 → zc_Ag m_X0_run_5 σ0 σ29 → 1 ≤ y6_28.toInt → y6_28.toInt ≤ 64 → p3.toInt ≤ y6_28.toInt → 64 - y6_28.toInt < (n39 : Int) → zc_V 8 K G (zc_D shX K G σ29) [(0, .ref (zk K 5)), (1, .int p1), (2, .int p2), (3, .int p3), (4, .int p4), (5, .int p5), (6, .int y6_28)] 39 [] := by
      intro n39
      induction n39 with
      | zero => intro σ29 y6_28 hO29 hA29 y6_28a y6_28b e30 hn39; exfalso; omega
      | succ n39 ih39 =>
        intro σ29 y6_28 hO29 hA29 y6_28a y6_28b e30 hn39
        refine zr_iload hB 6 dX0_run_39 rfl ?_
        refine zr_iload hB 5 dX0_run_41 rfl ?_
        refine zr_icmp_gt hB dX0_run_43 (tgt := 131) rfl (fun c32 => ?_) (fun c32 => ?_)
        · exact zr_vret hG dX0_run_131 ⟨hO29, hA29⟩
        refine zr_iload hB 6 dX0_run_46 rfl ?_
        refine zr_aload_n hB 0 dX0_run_48 rfl ?_
        refine zr_getr hG 5 0 dX0_run_49 rfl wf_X0_28 rfl ?_
        refine zr_geti' hG 1 0 (σ29.1 1 0) dX0_run_52 rfl wf_X0_54 rfl rfl ?_
        have b33 : 0 ≤ (σ29.1 1 0).toInt ∧ (σ29.1 1 0).toInt ≤ 63 := ⟨(hO29 1 0).1, (hO29 1 0).2.1⟩
        refine zr_icmp_gt hB dX0_run_55 (tgt := 131) rfl (fun c34 => ?_) (fun c34 => ?_)
        · exact zr_vret hG dX0_run_131 ⟨hO29, hA29⟩
        refine zr_aload_n hB 0 dX0_run_58 rfl ?_
        refine zr_getr hG 5 1 dX0_run_59 rfl wf_X0_37 rfl ?_
        refine zr_iload_n hB 1 dX0_run_62 rfl ?_
        refine zr_iload hB 6 dX0_run_63 rfl ?_
        refine zr_iload_n hB 3 dX0_run_65 rfl ?_
        refine zr_isub hB dX0_run_66 (by omega) (by omega) (fun x35 ex35 => ?_)
        refine zr_callvn hG (rest := []) 10 dX0_run_67 wm_X0_59 rfl rfl (c_X7_open_10 K hG.2.2.2.2.2.1 σ29 p1 x35 hO29 (by omega) (by omega)) rfl rfl (Nat.le_of_ble_eq_true rfl) ⟨Nat.le_of_ble_eq_true rfl, Nat.le_of_ble_eq_true rfl, rfl, rfl⟩ (fun σ37 h38 => ?_)
        obtain ⟨hO39, hAc40⟩ := h38
        have hA41 := zc_Ag.tr hA29 hAc40 rfl
        have q42 : (σ37.1 1 0).toInt = (σ29.1 1 0).toInt := congrArg Int32.toInt (hAc40 1 0 rfl).1
        refine zr_iload_n hB 2 dX0_run_70 rfl ?_
        refine zr_iconst hB dX0_run_71 rfl (fun c43 ec43 => ?_)
        have L79_45 : ∀ (σ44 : zc_S) , zc_O okX σ44 → zc_Ag m_X0_run_5 σ0 σ44 → zc_V 8 K G (zc_D shX K G σ44) [(0, .ref (zk K 5)), (1, .int p1), (2, .int p2), (3, .int p3), (4, .int p4), (5, .int p5), (6, .int y6_28)] 79 [] := by
          intro σ44 hO44 hA44
          refine zr_iload hB 6 dX0_run_79 rfl ?_
          refine zr_iload hB 4 dX0_run_81 rfl ?_
          refine zr_icmp_ge hB dX0_run_83 (tgt := 91) rfl (fun c46 => ?_) (fun c46 => ?_)
          · refine zr_aload_n hB 0 dX0_run_91 rfl ?_
            refine zr_getr hG 5 0 dX0_run_92 rfl wf_X0_28 rfl ?_
            refine zr_iload_n hB 1 dX0_run_95 rfl ?_
            refine zr_iload hB 6 dX0_run_96 rfl ?_
            refine zr_aload_n hB 0 dX0_run_98 rfl ?_
            refine zr_getr hG 5 0 dX0_run_99 rfl wf_X0_28 rfl ?_
            refine zr_geti' hG 1 0 (σ44.1 1 0) dX0_run_102 rfl wf_X0_54 rfl rfl ?_
            have b47 : 0 ≤ (σ44.1 1 0).toInt ∧ (σ44.1 1 0).toInt ≤ 63 := ⟨(hO44 1 0).1, (hO44 1 0).2.1⟩
            refine zr_callvi hG (rest := []) 1 dX0_run_105 wm_X0_66 rfl rfl (c_X4_valueOn_1 K hG.2.2.2.2.2.1 σ44 p1 y6_28 (σ44.1 1 0) hO44 ) rfl rfl (Nat.le_of_ble_eq_true rfl) ⟨Nat.le_of_ble_eq_true rfl, Nat.le_of_ble_eq_true rfl, rfl, rfl⟩ (fun r48 σ49 h50 => ?_)
            obtain ⟨rfl, r48a, r48b, r48h, g51⟩ := h50
            refine zr_istore hB dX0_run_108 (by decide) (lv' := [(7, .int r48), (0, .ref (zk K 5)), (1, .int p1), (2, .int p2), (3, .int p3), (4, .int p4), (5, .int p5), (6, .int y6_28)]) rfl ?_
            refine zr_iload hB 0 dX0_run_110 rfl ?_
            refine zr_bipush hB dX0_run_112 rfl (fun c52 ec52 => ?_)
            refine zr_icmp_eq hB dX0_run_114 (tgt := 125) rfl (fun c53 => ?_) (fun c53 => ?_)
            · refine zr_iinc hB 7 dX0_run_125 rfl (by decide) rfl (by omega) (by omega) (fun x54 ex54 lv' hlv => ?_)
              obtain rfl : [(6, .int x54), (7, .int r48), (0, .ref (zk K 5)), (1, .int p1), (2, .int p2), (3, .int p3), (4, .int p4), (5, .int p5)] = lv' := hlv
              refine zr_goto hB dX0_run_128 (tgt := 39) rfl ?_
              exact zc_sub [2, 3, 4, 5, 6, 7, 0] rfl (ih39 σ44 x54 hO44 hA44 (by omega) (by omega) (show p3.toInt ≤ x54.toInt by omega) (by omega))
            refine zr_aload_n hB 1 dX0_run_117 rfl ?_
            refine zr_iload_n hB 3 dX0_run_118 rfl ?_
            refine zr_iload_n hB 4 dX0_run_119 rfl ?_
            refine zr_iload hB 0 dX0_run_120 rfl ?_
            refine zr_callvn hG (rest := []) 5 dX0_run_122 wm_X0_70 rfl rfl (c_X0_score_5 K hG.2.2.2.2.2.1 σ44 p2 p3 r48 hO44 (by omega) (by omega) (by omega) (by omega) (by omega) (by omega)) rfl rfl (Nat.le_of_ble_eq_true rfl) ⟨Nat.le_of_ble_eq_true rfl, Nat.le_of_ble_eq_true rfl, rfl, rfl⟩ (fun σ56 h57 => ?_)
            obtain ⟨hO58, hAc59⟩ := h57
            have hA60 := zc_Ag.tr hA44 hAc59 rfl
            have q61 : (σ56.1 1 0).toInt = (σ44.1 1 0).toInt := congrArg Int32.toInt (hAc59 1 0 rfl).1
            refine zr_iinc hB 7 dX0_run_125 rfl (by decide) rfl (by omega) (by omega) (fun x62 ex62 lv' hlv => ?_)
            obtain rfl : [(6, .int x62), (7, .int r48), (0, .ref (zk K 5)), (1, .int p1), (2, .int p2), (3, .int p3), (4, .int p4), (5, .int p5)] = lv' := hlv
            refine zr_goto hB dX0_run_128 (tgt := 39) rfl ?_
            exact zc_sub [2, 3, 4, 5, 6, 7, 0] rfl (ih39 σ56 x62 hO58 hA60 (by omega) (by omega) (show p3.toInt ≤ x62.toInt by omega) (by omega))
          refine zr_bipush hB dX0_run_86 rfl (fun c63 ec63 => ?_)
          refine zr_goto hB dX0_run_88 (tgt := 108) rfl ?_
          refine zr_istore hB dX0_run_108 (by decide) (lv' := [(7, .int c63), (0, .ref (zk K 5)), (1, .int p1), (2, .int p2), (3, .int p3), (4, .int p4), (5, .int p5), (6, .int y6_28)]) rfl ?_
          refine zr_iload hB 0 dX0_run_110 rfl ?_
          refine zr_bipush hB dX0_run_112 rfl (fun c64 ec64 => ?_)
          refine zr_icmp_eq hB dX0_run_114 (tgt := 125) rfl (fun c65 => ?_) (fun c65 => ?_)
          · refine zr_iinc hB 7 dX0_run_125 rfl (by decide) rfl (by omega) (by omega) (fun x66 ex66 lv' hlv => ?_)
            obtain rfl : [(6, .int x66), (7, .int c63), (0, .ref (zk K 5)), (1, .int p1), (2, .int p2), (3, .int p3), (4, .int p4), (5, .int p5)] = lv' := hlv
            refine zr_goto hB dX0_run_128 (tgt := 39) rfl ?_
            exact zc_sub [2, 3, 4, 5, 6, 7, 0] rfl (ih39 σ44 x66 hO44 hA44 (by omega) (by omega) (show p3.toInt ≤ x66.toInt by omega) (by omega))
          exfalso; omega
        refine zr_icmp_ne hB dX0_run_72 (tgt := 79) rfl (fun c67 => ?_) (fun c67 => ?_)
        · exact L79_45 σ37 hO39 hA41
        refine zr_aload_n hB 0 dX0_run_75 rfl ?_
        refine zr_callvn hG (rest := []) 5 dX0_run_76 wm_X0_63 rfl rfl (c_X0_follow_5 K hG.2.2.2.2.2.1 σ37  hO39 ) rfl rfl (Nat.le_of_ble_eq_true rfl) ⟨Nat.le_of_ble_eq_true rfl, Nat.le_of_ble_eq_true rfl, rfl, rfl⟩ (fun σ69 h70 => ?_)
        obtain ⟨hO71, hAc72⟩ := h70
        have hA73 := zc_Ag.tr hA41 hAc72 rfl
        have q74 : (σ69.1 1 0).toInt = (σ37.1 1 0).toInt := congrArg Int32.toInt (hAc72 1 0 rfl).1
        exact L79_45 σ69 hO71 hA73
    exact zc_sub [1, 2, 3, 4, 5, 6, 0] rfl (L39_31 65 σ22 p3 hO24 hA26 (by omega) (by omega) (show p3.toInt ≤ p3.toInt by omega) (by omega))
  refine zr_bipush hB dX0_run_6 rfl (fun c75 ec75 => ?_)
  refine zr_goto hB dX0_run_8 (tgt := 13) rfl ?_
  refine zr_puti hG 5 2 dX0_run_13 rfl wp_X0_41 rfl ?_
  have hOw76 := zc_O.u hO0 5 2 (v := c75) (show 0 ≤ c75.toInt by omega) (show c75.toInt ≤ 121 by omega) (Or.inr (show 0 ≤ c75.toInt by omega))
  have hAw76 := zc_Ag.u hA0 5 2 c75 rfl
  refine zr_aload_n hB 0 dX0_run_16 rfl ?_
  refine zr_getr hG 5 3 dX0_run_17 rfl wf_X0_9 rfl ?_
  refine zr_iconst hB dX0_run_20 rfl (fun c77 ec77 => ?_)
  refine zr_callsn hG (rest := []) dX0_run_21 wm_X0_45 (c_J7_fill_53178_25 K hG.2.2.2.2.2.1 (zc_u σ0 5 2 c75) c77 hOw76 ) rfl rfl (Nat.le_of_ble_eq_true rfl) ⟨Nat.le_of_ble_eq_true rfl, Nat.le_of_ble_eq_true rfl, rfl, rfl⟩ (fun σ79 h80 => ?_)
  obtain ⟨hO81, hAc82⟩ := h80
  have hA83 := zc_Ag.tr hAw76 hAc82 rfl
  have q84 : (σ79.1 5 2).toInt = c75.toInt := congrArg Int32.toInt (hAc82 5 2 rfl).1
  refine zr_aload_n hB 0 dX0_run_24 rfl ?_
  refine zr_getr hG 5 4 dX0_run_25 rfl wf_X0_15 rfl ?_
  refine zr_iconst hB dX0_run_28 rfl (fun c85 ec85 => ?_)
  refine zr_callsn hG (rest := []) dX0_run_29 wm_X0_45 (c_J7_fill_53178_26 K hG.2.2.2.2.2.1 σ79 c85 hO81 ) rfl rfl (Nat.le_of_ble_eq_true rfl) ⟨Nat.le_of_ble_eq_true rfl, Nat.le_of_ble_eq_true rfl, rfl, rfl⟩ (fun σ87 h88 => ?_)
  obtain ⟨hO89, hAc90⟩ := h88
  have hA91 := zc_Ag.tr hA83 hAc90 rfl
  have q92 : (σ87.1 5 2).toInt = (σ79.1 5 2).toInt := congrArg Int32.toInt (hAc90 5 2 rfl).1
  refine zr_aload_n hB 0 dX0_run_32 rfl ?_
  refine zr_callvn hG (rest := []) 5 dX0_run_33 wm_X0_51 rfl rfl (c_X0_restart_5 K hG.2.2.2.2.2.1 σ87  hO89 ) rfl rfl (Nat.le_of_ble_eq_true rfl) ⟨Nat.le_of_ble_eq_true rfl, Nat.le_of_ble_eq_true rfl, rfl, rfl⟩ (fun σ94 h95 => ?_)
  obtain ⟨hO96, hAc97⟩ := h95
  have hA98 := zc_Ag.tr hA91 hAc97 rfl
  have q99 : (σ94.1 5 2).toInt = (σ87.1 5 2).toInt := congrArg Int32.toInt (hAc97 5 2 rfl).1
  refine zr_iload_n hB 3 dX0_run_36 rfl ?_
  refine zr_istore hB dX0_run_37 (by decide) (lv' := [(6, .int p3), (0, .ref (zk K 5)), (1, .int p1), (2, .int p2), (3, .int p3), (4, .int p4), (5, .int p5)]) rfl ?_
  have L39_103 : ∀ (n39 : Nat) (σ101 : zc_S) (y6_100 : Int32), zc_O okX σ101 → zc_Ag m_X0_run_5 σ0 σ101 → 1 ≤ y6_100.toInt → y6_100.toInt ≤ 64 → p3.toInt ≤ y6_100.toInt → 64 - y6_100.toInt < (n39 : Int) → zc_V 8 K G (zc_D shX K G σ101) [(0, .ref (zk K 5)), (1, .int p1), (2, .int p2), (3, .int p3), (4, .int p4), (5, .int p5), (6, .int y6_100)] 39 [] := by
    intro n39
    induction n39 with
    | zero => intro σ101 y6_100 hO101 hA101 y6_100a y6_100b e102 hn39; exfalso; omega
    | succ n39 ih39 =>
      intro σ101 y6_100 hO101 hA101 y6_100a y6_100b e102 hn39
      refine zr_iload hB 6 dX0_run_39 rfl ?_
      refine zr_iload hB 5 dX0_run_41 rfl ?_
      refine zr_icmp_gt hB dX0_run_43 (tgt := 131) rfl (fun c104 => ?_) (fun c104 => ?_)
      · exact zr_vret hG dX0_run_131 ⟨hO101, hA101⟩
      refine zr_iload hB 6 dX0_run_46 rfl ?_
      refine zr_aload_n hB 0 dX0_run_48 rfl ?_
      refine zr_getr hG 5 0 dX0_run_49 rfl wf_X0_28 rfl ?_
      refine zr_geti' hG 1 0 (σ101.1 1 0) dX0_run_52 rfl wf_X0_54 rfl rfl ?_
      have b105 : 0 ≤ (σ101.1 1 0).toInt ∧ (σ101.1 1 0).toInt ≤ 63 := ⟨(hO101 1 0).1, (hO101 1 0).2.1⟩
      refine zr_icmp_gt hB dX0_run_55 (tgt := 131) rfl (fun c106 => ?_) (fun c106 => ?_)
      · exact zr_vret hG dX0_run_131 ⟨hO101, hA101⟩
      refine zr_aload_n hB 0 dX0_run_58 rfl ?_
      refine zr_getr hG 5 1 dX0_run_59 rfl wf_X0_37 rfl ?_
      refine zr_iload_n hB 1 dX0_run_62 rfl ?_
      refine zr_iload hB 6 dX0_run_63 rfl ?_
      refine zr_iload_n hB 3 dX0_run_65 rfl ?_
      refine zr_isub hB dX0_run_66 (by omega) (by omega) (fun x107 ex107 => ?_)
      refine zr_callvn hG (rest := []) 10 dX0_run_67 wm_X0_59 rfl rfl (c_X7_open_10 K hG.2.2.2.2.2.1 σ101 p1 x107 hO101 (by omega) (by omega)) rfl rfl (Nat.le_of_ble_eq_true rfl) ⟨Nat.le_of_ble_eq_true rfl, Nat.le_of_ble_eq_true rfl, rfl, rfl⟩ (fun σ109 h110 => ?_)
      obtain ⟨hO111, hAc112⟩ := h110
      have hA113 := zc_Ag.tr hA101 hAc112 rfl
      have q114 : (σ109.1 1 0).toInt = (σ101.1 1 0).toInt := congrArg Int32.toInt (hAc112 1 0 rfl).1
      refine zr_iload_n hB 2 dX0_run_70 rfl ?_
      refine zr_iconst hB dX0_run_71 rfl (fun c115 ec115 => ?_)
      have L79_117 : ∀ (σ116 : zc_S) , zc_O okX σ116 → zc_Ag m_X0_run_5 σ0 σ116 → zc_V 8 K G (zc_D shX K G σ116) [(0, .ref (zk K 5)), (1, .int p1), (2, .int p2), (3, .int p3), (4, .int p4), (5, .int p5), (6, .int y6_100)] 79 [] := by
        intro σ116 hO116 hA116
        refine zr_iload hB 6 dX0_run_79 rfl ?_
        refine zr_iload hB 4 dX0_run_81 rfl ?_
        refine zr_icmp_ge hB dX0_run_83 (tgt := 91) rfl (fun c118 => ?_) (fun c118 => ?_)
        · refine zr_aload_n hB 0 dX0_run_91 rfl ?_
          refine zr_getr hG 5 0 dX0_run_92 rfl wf_X0_28 rfl ?_
          refine zr_iload_n hB 1 dX0_run_95 rfl ?_
          refine zr_iload hB 6 dX0_run_96 rfl ?_
          refine zr_aload_n hB 0 dX0_run_98 rfl ?_
          refine zr_getr hG 5 0 dX0_run_99 rfl wf_X0_28 rfl ?_
          refine zr_geti' hG 1 0 (σ116.1 1 0) dX0_run_102 rfl wf_X0_54 rfl rfl ?_
          have b119 : 0 ≤ (σ116.1 1 0).toInt ∧ (σ116.1 1 0).toInt ≤ 63 := ⟨(hO116 1 0).1, (hO116 1 0).2.1⟩
          refine zr_callvi hG (rest := []) 1 dX0_run_105 wm_X0_66 rfl rfl (c_X4_valueOn_1 K hG.2.2.2.2.2.1 σ116 p1 y6_100 (σ116.1 1 0) hO116 ) rfl rfl (Nat.le_of_ble_eq_true rfl) ⟨Nat.le_of_ble_eq_true rfl, Nat.le_of_ble_eq_true rfl, rfl, rfl⟩ (fun r120 σ121 h122 => ?_)
          obtain ⟨rfl, r120a, r120b, r120h, g123⟩ := h122
          refine zr_istore hB dX0_run_108 (by decide) (lv' := [(7, .int r120), (0, .ref (zk K 5)), (1, .int p1), (2, .int p2), (3, .int p3), (4, .int p4), (5, .int p5), (6, .int y6_100)]) rfl ?_
          refine zr_iload hB 0 dX0_run_110 rfl ?_
          refine zr_bipush hB dX0_run_112 rfl (fun c124 ec124 => ?_)
          refine zr_icmp_eq hB dX0_run_114 (tgt := 125) rfl (fun c125 => ?_) (fun c125 => ?_)
          · refine zr_iinc hB 7 dX0_run_125 rfl (by decide) rfl (by omega) (by omega) (fun x126 ex126 lv' hlv => ?_)
            obtain rfl : [(6, .int x126), (7, .int r120), (0, .ref (zk K 5)), (1, .int p1), (2, .int p2), (3, .int p3), (4, .int p4), (5, .int p5)] = lv' := hlv
            refine zr_goto hB dX0_run_128 (tgt := 39) rfl ?_
            exact zc_sub [2, 3, 4, 5, 6, 7, 0] rfl (ih39 σ116 x126 hO116 hA116 (by omega) (by omega) (show p3.toInt ≤ x126.toInt by omega) (by omega))
          refine zr_aload_n hB 1 dX0_run_117 rfl ?_
          refine zr_iload_n hB 3 dX0_run_118 rfl ?_
          refine zr_iload_n hB 4 dX0_run_119 rfl ?_
          refine zr_iload hB 0 dX0_run_120 rfl ?_
          refine zr_callvn hG (rest := []) 5 dX0_run_122 wm_X0_70 rfl rfl (c_X0_score_5 K hG.2.2.2.2.2.1 σ116 p2 p3 r120 hO116 (by omega) (by omega) (by omega) (by omega) (by omega) (by omega)) rfl rfl (Nat.le_of_ble_eq_true rfl) ⟨Nat.le_of_ble_eq_true rfl, Nat.le_of_ble_eq_true rfl, rfl, rfl⟩ (fun σ128 h129 => ?_)
          obtain ⟨hO130, hAc131⟩ := h129
          have hA132 := zc_Ag.tr hA116 hAc131 rfl
          have q133 : (σ128.1 1 0).toInt = (σ116.1 1 0).toInt := congrArg Int32.toInt (hAc131 1 0 rfl).1
          refine zr_iinc hB 7 dX0_run_125 rfl (by decide) rfl (by omega) (by omega) (fun x134 ex134 lv' hlv => ?_)
          obtain rfl : [(6, .int x134), (7, .int r120), (0, .ref (zk K 5)), (1, .int p1), (2, .int p2), (3, .int p3), (4, .int p4), (5, .int p5)] = lv' := hlv
          refine zr_goto hB dX0_run_128 (tgt := 39) rfl ?_
          exact zc_sub [2, 3, 4, 5, 6, 7, 0] rfl (ih39 σ128 x134 hO130 hA132 (by omega) (by omega) (show p3.toInt ≤ x134.toInt by omega) (by omega))
        refine zr_bipush hB dX0_run_86 rfl (fun c135 ec135 => ?_)
        refine zr_goto hB dX0_run_88 (tgt := 108) rfl ?_
        refine zr_istore hB dX0_run_108 (by decide) (lv' := [(7, .int c135), (0, .ref (zk K 5)), (1, .int p1), (2, .int p2), (3, .int p3), (4, .int p4), (5, .int p5), (6, .int y6_100)]) rfl ?_
        refine zr_iload hB 0 dX0_run_110 rfl ?_
        refine zr_bipush hB dX0_run_112 rfl (fun c136 ec136 => ?_)
        refine zr_icmp_eq hB dX0_run_114 (tgt := 125) rfl (fun c137 => ?_) (fun c137 => ?_)
        · refine zr_iinc hB 7 dX0_run_125 rfl (by decide) rfl (by omega) (by omega) (fun x138 ex138 lv' hlv => ?_)
          obtain rfl : [(6, .int x138), (7, .int c135), (0, .ref (zk K 5)), (1, .int p1), (2, .int p2), (3, .int p3), (4, .int p4), (5, .int p5)] = lv' := hlv
          refine zr_goto hB dX0_run_128 (tgt := 39) rfl ?_
          exact zc_sub [2, 3, 4, 5, 6, 7, 0] rfl (ih39 σ116 x138 hO116 hA116 (by omega) (by omega) (show p3.toInt ≤ x138.toInt by omega) (by omega))
        exfalso; omega
      refine zr_icmp_ne hB dX0_run_72 (tgt := 79) rfl (fun c139 => ?_) (fun c139 => ?_)
      · exfalso; omega
      refine zr_aload_n hB 0 dX0_run_75 rfl ?_
      refine zr_callvn hG (rest := []) 5 dX0_run_76 wm_X0_63 rfl rfl (c_X0_follow_5 K hG.2.2.2.2.2.1 σ109  hO111 ) rfl rfl (Nat.le_of_ble_eq_true rfl) ⟨Nat.le_of_ble_eq_true rfl, Nat.le_of_ble_eq_true rfl, rfl, rfl⟩ (fun σ141 h142 => ?_)
      obtain ⟨hO143, hAc144⟩ := h142
      have hA145 := zc_Ag.tr hA113 hAc144 rfl
      have q146 : (σ141.1 1 0).toInt = (σ109.1 1 0).toInt := congrArg Int32.toInt (hAc144 1 0 rfl).1
      exact L79_117 σ141 hO143 hA145
  exact zc_sub [1, 2, 3, 4, 5, 6, 0] rfl (L39_103 65 σ94 p3 hO96 hA98 (by omega) (by omega) (show p3.toInt ≤ p3.toInt by omega) (by omega))

set_option maxHeartbeats 1000000 in
set_option maxRecDepth 100000 in
theorem c_X0_bestPoint_5 (K : zc_K) (hi : zc_inj shX K.2.2.2.1) (σ0 : zc_S)  (hO0 : zc_O okX σ0)  : zc_M shX K yX0_bestPoint cX0_bestPoint 5 (some .int) (zrm 0 0) σ0 [.ref (zk K 5)] (zc_I (fun r9 σ9 => σ0 = σ9 ∧ 0 ≤ r9.toInt ∧ r9.toInt ≤ 120)) := by
  refine zc_start RX0 hi pfX0_bestPoint rfl (Nat.le_of_ble_eq_true rfl) ?_
  intro G hG
  have hB := hG.1
  show zc_V 5 K G (zc_D shX K G σ0) [(0, .ref (zk K 5))] 0 []
  refine zr_iconst hB dX0_bestPoint_0 rfl (fun c1 ec1 => ?_)
  refine zr_istore_n hB dX0_bestPoint_1 rfl (by decide) (lv' := [(1, .int c1), (0, .ref (zk K 5))]) rfl ?_
  refine zr_iconst hB dX0_bestPoint_2 rfl (fun c2 ec2 => ?_)
  refine zr_istore_n hB dX0_bestPoint_3 rfl (by decide) (lv' := [(2, .int c2), (1, .int c1), (0, .ref (zk K 5))]) rfl ?_
  have L4_5 : ∀ (n4 : Nat) (y1_3 : Int32) (y2_4 : Int32), 0 ≤ y1_3.toInt → y1_3.toInt ≤ 120 → 1 ≤ y2_4.toInt → y2_4.toInt ≤ 121 → 121 - y2_4.toInt < (n4 : Int) → zc_V 5 K G (zc_D shX K G σ0) [(0, .ref (zk K 5)), (1, .int y1_3), (2, .int y2_4)] 4 [] := by
    intro n4
    induction n4 with
    | zero => intro y1_3 y2_4 y1_3a y1_3b y2_4a y2_4b hn4; exfalso; omega
    | succ n4 ih4 =>
      intro y1_3 y2_4 y1_3a y1_3b y2_4a y2_4b hn4
      refine zr_iload_n hB 2 dX0_bestPoint_4 rfl ?_
      refine zr_aload_n hB 0 dX0_bestPoint_5 rfl ?_
      refine zr_geti' hG 5 2 (σ0.1 5 2) dX0_bestPoint_6 rfl wf_X0_41 rfl rfl ?_
      have b6 : 0 ≤ (σ0.1 5 2).toInt ∧ (σ0.1 5 2).toInt ≤ 121 := ⟨(hO0 5 2).1, (hO0 5 2).2.1⟩
      refine zr_icmp_ge hB dX0_bestPoint_9 (tgt := 87) rfl (fun c7 => ?_) (fun c7 => ?_)
      · refine zr_iload_n hB 1 dX0_bestPoint_87 rfl ?_
        exact zr_iret hG dX0_bestPoint_88 ⟨rfl, by omega, by omega⟩
      refine zr_aload_n hB 0 dX0_bestPoint_12 rfl ?_
      refine zr_getr hG 5 3 dX0_bestPoint_13 rfl wf_X0_9 rfl ?_
      refine zr_iload_n hB 2 dX0_bestPoint_16 rfl ?_
      refine zr_iald hG 25 dX0_bestPoint_17 rfl (by omega) (by omega) (fun x8 ex8 => ?_)
      refine zr_aload_n hB 0 dX0_bestPoint_18 rfl ?_
      refine zr_getr hG 5 3 dX0_bestPoint_19 rfl wf_X0_9 rfl ?_
      refine zr_iload_n hB 1 dX0_bestPoint_22 rfl ?_
      refine zr_iald hG 25 dX0_bestPoint_23 rfl (by omega) (by omega) (fun x9 ex9 => ?_)
      refine zr_icmp_le hB dX0_bestPoint_24 (tgt := 31) rfl (fun c10 => ?_) (fun c10 => ?_)
      · refine zr_iconst hB dX0_bestPoint_31 rfl (fun c11 ec11 => ?_)
        refine zr_istore_n hB dX0_bestPoint_32 rfl (by decide) (lv' := [(3, .int c11), (0, .ref (zk K 5)), (1, .int y1_3), (2, .int y2_4)]) rfl ?_
        refine zr_aload_n hB 1 dX0_bestPoint_33 rfl ?_
        refine zr_getr hG 5 3 dX0_bestPoint_34 rfl wf_X0_9 rfl ?_
        refine zr_iload_n hB 3 dX0_bestPoint_37 rfl ?_
        refine zr_iald hG 25 dX0_bestPoint_38 rfl (by omega) (by omega) (fun x12 ex12 => ?_)
        obtain rfl : x8 = x12 := ex8.trans ex12.symm
        refine zr_aload_n hB 1 dX0_bestPoint_39 rfl ?_
        refine zr_getr hG 5 3 dX0_bestPoint_40 rfl wf_X0_9 rfl ?_
        refine zr_iload_n hB 2 dX0_bestPoint_43 rfl ?_
        refine zr_iald hG 25 dX0_bestPoint_44 rfl (by omega) (by omega) (fun x13 ex13 => ?_)
        obtain rfl : x9 = x13 := ex9.trans ex13.symm
        refine zr_icmp_ne hB dX0_bestPoint_45 (tgt := 67) rfl (fun c14 => ?_) (fun c14 => ?_)
        · refine zr_iconst hB dX0_bestPoint_67 rfl (fun c15 ec15 => ?_)
          refine zr_istore hB dX0_bestPoint_68 (by decide) (lv' := [(4, .int c15), (3, .int c11), (0, .ref (zk K 5)), (1, .int y1_3), (2, .int y2_4)]) rfl ?_
          refine zr_iload_n hB 1 dX0_bestPoint_70 rfl ?_
          refine zr_if_ne hB dX0_bestPoint_71 (tgt := 79) rfl (fun c16 => ?_) (fun c16 => ?_)
          · exfalso; omega
          refine zr_iload hB 0 dX0_bestPoint_74 rfl ?_
          refine zr_if_eq hB dX0_bestPoint_76 (tgt := 81) rfl (fun c17 => ?_) (fun c17 => ?_)
          · refine zr_iinc hB 4 dX0_bestPoint_81 rfl (by decide) rfl (by omega) (by omega) (fun x18 ex18 lv' hlv => ?_)
            obtain rfl : [(2, .int x18), (4, .int c15), (3, .int c11), (0, .ref (zk K 5)), (1, .int y1_3)] = lv' := hlv
            refine zr_goto hB dX0_bestPoint_84 (tgt := 4) rfl ?_
            exact zc_sub [3, 4, 0] rfl (ih4 y1_3 x18 (by omega) (by omega) (by omega) (by omega) (by omega))
          exfalso; omega
        refine zr_aload_n hB 1 dX0_bestPoint_48 rfl ?_
        refine zr_getr hG 5 4 dX0_bestPoint_49 rfl wf_X0_15 rfl ?_
        refine zr_iload_n hB 3 dX0_bestPoint_52 rfl ?_
        refine zr_iald hG 26 dX0_bestPoint_53 rfl (by omega) (by omega) (fun x19 ex19 => ?_)
        refine zr_aload_n hB 1 dX0_bestPoint_54 rfl ?_
        refine zr_getr hG 5 4 dX0_bestPoint_55 rfl wf_X0_15 rfl ?_
        refine zr_iload_n hB 2 dX0_bestPoint_58 rfl ?_
        refine zr_iald hG 26 dX0_bestPoint_59 rfl (by omega) (by omega) (fun x20 ex20 => ?_)
        refine zr_icmp_ge hB dX0_bestPoint_60 (tgt := 67) rfl (fun c21 => ?_) (fun c21 => ?_)
        · refine zr_iconst hB dX0_bestPoint_67 rfl (fun c22 ec22 => ?_)
          refine zr_istore hB dX0_bestPoint_68 (by decide) (lv' := [(4, .int c22), (3, .int c11), (0, .ref (zk K 5)), (1, .int y1_3), (2, .int y2_4)]) rfl ?_
          refine zr_iload_n hB 1 dX0_bestPoint_70 rfl ?_
          refine zr_if_ne hB dX0_bestPoint_71 (tgt := 79) rfl (fun c23 => ?_) (fun c23 => ?_)
          · exfalso; omega
          refine zr_iload hB 0 dX0_bestPoint_74 rfl ?_
          refine zr_if_eq hB dX0_bestPoint_76 (tgt := 81) rfl (fun c24 => ?_) (fun c24 => ?_)
          · refine zr_iinc hB 4 dX0_bestPoint_81 rfl (by decide) rfl (by omega) (by omega) (fun x25 ex25 lv' hlv => ?_)
            obtain rfl : [(2, .int x25), (4, .int c22), (3, .int c11), (0, .ref (zk K 5)), (1, .int y1_3)] = lv' := hlv
            refine zr_goto hB dX0_bestPoint_84 (tgt := 4) rfl ?_
            exact zc_sub [3, 4, 0] rfl (ih4 y1_3 x25 (by omega) (by omega) (by omega) (by omega) (by omega))
          exfalso; omega
        refine zr_iconst hB dX0_bestPoint_63 rfl (fun c26 ec26 => ?_)
        refine zr_goto hB dX0_bestPoint_64 (tgt := 68) rfl ?_
        refine zr_istore hB dX0_bestPoint_68 (by decide) (lv' := [(4, .int c26), (3, .int c11), (0, .ref (zk K 5)), (1, .int y1_3), (2, .int y2_4)]) rfl ?_
        refine zr_iload_n hB 1 dX0_bestPoint_70 rfl ?_
        refine zr_if_ne hB dX0_bestPoint_71 (tgt := 79) rfl (fun c27 => ?_) (fun c27 => ?_)
        · exfalso; omega
        refine zr_iload hB 0 dX0_bestPoint_74 rfl ?_
        refine zr_if_eq hB dX0_bestPoint_76 (tgt := 81) rfl (fun c28 => ?_) (fun c28 => ?_)
        · exfalso; omega
        refine zr_iload_n hB 4 dX0_bestPoint_79 rfl ?_
        refine zr_istore_n hB dX0_bestPoint_80 rfl (by decide) (lv' := [(1, .int y2_4), (4, .int c26), (3, .int c11), (0, .ref (zk K 5)), (2, .int y2_4)]) rfl ?_
        refine zr_iinc hB 4 dX0_bestPoint_81 rfl (by decide) rfl (by omega) (by omega) (fun x29 ex29 lv' hlv => ?_)
        obtain rfl : [(2, .int x29), (1, .int y2_4), (4, .int c26), (3, .int c11), (0, .ref (zk K 5))] = lv' := hlv
        refine zr_goto hB dX0_bestPoint_84 (tgt := 4) rfl ?_
        exact zc_sub [4, 1, 0] rfl (ih4 y2_4 x29 (by omega) (by omega) (by omega) (by omega) (by omega))
      refine zr_iconst hB dX0_bestPoint_27 rfl (fun c30 ec30 => ?_)
      refine zr_goto hB dX0_bestPoint_28 (tgt := 32) rfl ?_
      refine zr_istore_n hB dX0_bestPoint_32 rfl (by decide) (lv' := [(3, .int c30), (0, .ref (zk K 5)), (1, .int y1_3), (2, .int y2_4)]) rfl ?_
      refine zr_aload_n hB 1 dX0_bestPoint_33 rfl ?_
      refine zr_getr hG 5 3 dX0_bestPoint_34 rfl wf_X0_9 rfl ?_
      refine zr_iload_n hB 3 dX0_bestPoint_37 rfl ?_
      refine zr_iald hG 25 dX0_bestPoint_38 rfl (by omega) (by omega) (fun x31 ex31 => ?_)
      obtain rfl : x8 = x31 := ex8.trans ex31.symm
      refine zr_aload_n hB 1 dX0_bestPoint_39 rfl ?_
      refine zr_getr hG 5 3 dX0_bestPoint_40 rfl wf_X0_9 rfl ?_
      refine zr_iload_n hB 2 dX0_bestPoint_43 rfl ?_
      refine zr_iald hG 25 dX0_bestPoint_44 rfl (by omega) (by omega) (fun x32 ex32 => ?_)
      obtain rfl : x9 = x32 := ex9.trans ex32.symm
      refine zr_icmp_ne hB dX0_bestPoint_45 (tgt := 67) rfl (fun c33 => ?_) (fun c33 => ?_)
      · refine zr_iconst hB dX0_bestPoint_67 rfl (fun c34 ec34 => ?_)
        refine zr_istore hB dX0_bestPoint_68 (by decide) (lv' := [(4, .int c34), (3, .int c30), (0, .ref (zk K 5)), (1, .int y1_3), (2, .int y2_4)]) rfl ?_
        refine zr_iload_n hB 1 dX0_bestPoint_70 rfl ?_
        refine zr_if_ne hB dX0_bestPoint_71 (tgt := 79) rfl (fun c35 => ?_) (fun c35 => ?_)
        · refine zr_iload_n hB 4 dX0_bestPoint_79 rfl ?_
          refine zr_istore_n hB dX0_bestPoint_80 rfl (by decide) (lv' := [(1, .int y2_4), (4, .int c34), (3, .int c30), (0, .ref (zk K 5)), (2, .int y2_4)]) rfl ?_
          refine zr_iinc hB 4 dX0_bestPoint_81 rfl (by decide) rfl (by omega) (by omega) (fun x36 ex36 lv' hlv => ?_)
          obtain rfl : [(2, .int x36), (1, .int y2_4), (4, .int c34), (3, .int c30), (0, .ref (zk K 5))] = lv' := hlv
          refine zr_goto hB dX0_bestPoint_84 (tgt := 4) rfl ?_
          exact zc_sub [4, 1, 0] rfl (ih4 y2_4 x36 (by omega) (by omega) (by omega) (by omega) (by omega))
        exfalso; omega
      refine zr_aload_n hB 1 dX0_bestPoint_48 rfl ?_
      refine zr_getr hG 5 4 dX0_bestPoint_49 rfl wf_X0_15 rfl ?_
      refine zr_iload_n hB 3 dX0_bestPoint_52 rfl ?_
      refine zr_iald hG 26 dX0_bestPoint_53 rfl (by omega) (by omega) (fun x37 ex37 => ?_)
      refine zr_aload_n hB 1 dX0_bestPoint_54 rfl ?_
      refine zr_getr hG 5 4 dX0_bestPoint_55 rfl wf_X0_15 rfl ?_
      refine zr_iload_n hB 2 dX0_bestPoint_58 rfl ?_
      refine zr_iald hG 26 dX0_bestPoint_59 rfl (by omega) (by omega) (fun x38 ex38 => ?_)
      refine zr_icmp_ge hB dX0_bestPoint_60 (tgt := 67) rfl (fun c39 => ?_) (fun c39 => ?_)
      · refine zr_iconst hB dX0_bestPoint_67 rfl (fun c40 ec40 => ?_)
        refine zr_istore hB dX0_bestPoint_68 (by decide) (lv' := [(4, .int c40), (3, .int c30), (0, .ref (zk K 5)), (1, .int y1_3), (2, .int y2_4)]) rfl ?_
        refine zr_iload_n hB 1 dX0_bestPoint_70 rfl ?_
        refine zr_if_ne hB dX0_bestPoint_71 (tgt := 79) rfl (fun c41 => ?_) (fun c41 => ?_)
        · refine zr_iload_n hB 4 dX0_bestPoint_79 rfl ?_
          refine zr_istore_n hB dX0_bestPoint_80 rfl (by decide) (lv' := [(1, .int y2_4), (4, .int c40), (3, .int c30), (0, .ref (zk K 5)), (2, .int y2_4)]) rfl ?_
          refine zr_iinc hB 4 dX0_bestPoint_81 rfl (by decide) rfl (by omega) (by omega) (fun x42 ex42 lv' hlv => ?_)
          obtain rfl : [(2, .int x42), (1, .int y2_4), (4, .int c40), (3, .int c30), (0, .ref (zk K 5))] = lv' := hlv
          refine zr_goto hB dX0_bestPoint_84 (tgt := 4) rfl ?_
          exact zc_sub [4, 1, 0] rfl (ih4 y2_4 x42 (by omega) (by omega) (by omega) (by omega) (by omega))
        exfalso; omega
      refine zr_iconst hB dX0_bestPoint_63 rfl (fun c43 ec43 => ?_)
      refine zr_goto hB dX0_bestPoint_64 (tgt := 68) rfl ?_
      refine zr_istore hB dX0_bestPoint_68 (by decide) (lv' := [(4, .int c43), (3, .int c30), (0, .ref (zk K 5)), (1, .int y1_3), (2, .int y2_4)]) rfl ?_
      refine zr_iload_n hB 1 dX0_bestPoint_70 rfl ?_
      refine zr_if_ne hB dX0_bestPoint_71 (tgt := 79) rfl (fun c44 => ?_) (fun c44 => ?_)
      · refine zr_iload_n hB 4 dX0_bestPoint_79 rfl ?_
        refine zr_istore_n hB dX0_bestPoint_80 rfl (by decide) (lv' := [(1, .int y2_4), (4, .int c43), (3, .int c30), (0, .ref (zk K 5)), (2, .int y2_4)]) rfl ?_
        refine zr_iinc hB 4 dX0_bestPoint_81 rfl (by decide) rfl (by omega) (by omega) (fun x45 ex45 lv' hlv => ?_)
        obtain rfl : [(2, .int x45), (1, .int y2_4), (4, .int c43), (3, .int c30), (0, .ref (zk K 5))] = lv' := hlv
        refine zr_goto hB dX0_bestPoint_84 (tgt := 4) rfl ?_
        exact zc_sub [4, 1, 0] rfl (ih4 y2_4 x45 (by omega) (by omega) (by omega) (by omega) (by omega))
      exfalso; omega
  exact zc_sub [2, 1, 0] rfl (L4_5 122 c1 c2 (by omega) (by omega) (by omega) (by omega) (by omega))

set_option maxHeartbeats 1000000 in
set_option maxRecDepth 100000 in
theorem c_X8_figureOfNote_0 (K : zc_K) (hi : zc_inj shX K.2.2.2.1) (σ0 : zc_S) (p1 : Int32) (hO0 : zc_O okX σ0) (h1a : 0 ≤ p1.toInt) (h1b : p1.toInt ≤ 23) : zc_M shX K yX8_figureOfNote cX8_figureOfNote 2 (some .int) (zrm 2 45) σ0 [.ref (zk K 0), .int p1] (zc_I (fun r9 σ9 => σ0 = σ9 ∧ (-4) ≤ r9.toInt ∧ r9.toInt ≤ 999 ∧ (r9.toInt = (-4) ∨ 0 ≤ r9.toInt) ∧ zp_o r9.toInt (zp_cx σ0 p1.toInt.toNat))) := by
  refine zc_start RX8 hi pfX8_figureOfNote rfl (Nat.le_of_ble_eq_true rfl) ?_
  intro G hG
  have hB := hG.1
  show zc_V 2 K G (zc_D shX K G σ0) [(0, .ref (zk K 0)), (1, .int p1)] 0 []
  have bw1_0 : 0 ≤ (σ0.1 1 0).toInt ∧ (σ0.1 1 0).toInt ≤ 63 := ⟨(hO0 1 0).1, (hO0 1 0).2.1⟩
  refine zr_aload_n hB 0 dX8_figureOfNote_0 rfl ?_
  refine zr_getr hG 0 0 dX8_figureOfNote_1 rfl wf_X8_15 rfl ?_
  refine zr_aload_n hB 0 dX8_figureOfNote_4 rfl ?_
  refine zr_getr hG 0 5 dX8_figureOfNote_5 rfl wf_X8_51 rfl ?_
  refine zr_getr hG 6 1 dX8_figureOfNote_8 rfl wf_X8_251 rfl ?_
  refine zr_iload_n hB 1 dX8_figureOfNote_11 rfl ?_
  refine zr_iald hG 30 dX8_figureOfNote_12 rfl (by omega) (by omega) (fun x1 ex1 => ?_)
  have bx1 : 0 ≤ x1.toInt ∧ x1.toInt ≤ 3 := by rw [ex1]; exact ⟨(hO0 30 _).1, (hO0 30 _).2.1⟩
  refine zr_aload_n hB 0 dX8_figureOfNote_13 rfl ?_
  refine zr_getr hG 0 5 dX8_figureOfNote_14 rfl wf_X8_51 rfl ?_
  refine zr_getr hG 6 4 dX8_figureOfNote_17 rfl wf_X8_260 rfl ?_
  refine zr_iload_n hB 1 dX8_figureOfNote_20 rfl ?_
  refine zr_iald hG 33 dX8_figureOfNote_21 rfl (by omega) (by omega) (fun x2 ex2 => ?_)
  have bx2 : 0 ≤ x2.toInt ∧ x2.toInt ≤ 77 := by rw [ex2]; exact ⟨(hO0 33 _).1, (hO0 33 _).2.1⟩
  refine zr_aload_n hB 0 dX8_figureOfNote_22 rfl ?_
  refine zr_getr hG 0 0 dX8_figureOfNote_23 rfl wf_X8_15 rfl ?_
  refine zr_geti' hG 1 0 (σ0.1 1 0) dX8_figureOfNote_26 rfl wf_X8_66 rfl rfl ?_
  refine zr_callvi hG (rest := []) 1 dX8_figureOfNote_29 wm_X8_76 rfl rfl (c_X4_valueOn_1 K hG.2.2.2.2.2.1 σ0 x1 x2 (σ0.1 1 0) hO0 ) rfl rfl (Nat.le_of_ble_eq_true rfl) ⟨Nat.le_of_ble_eq_true rfl, Nat.le_of_ble_eq_true rfl, rfl, rfl⟩ (fun r3 σ4 h5 => ?_)
  obtain ⟨rfl, r3a, r3b, r3h, g6⟩ := h5
  exact zr_iret hG dX8_figureOfNote_32 ⟨rfl, by omega, by omega, by omega, (by have q1 := congrArg Int32.toInt ex1; have q2 := congrArg Int32.toInt ex2; unfold zp_cx; rw [← q1, ← q2]; rcases g6 with ⟨x, y⟩ | ⟨x, y⟩; exact zp_o.n y (fun h9 => x (by omega)); (by_cases h9 : r3.toInt = -4; exact zp_o.n h9 (fun h8 => h8.2.2 (y.symm.trans h9)); exact zp_o.y h9 ⟨by omega, by omega, fun h8 => h9 (y.trans h8)⟩))⟩

set_option maxHeartbeats 1000000 in
set_option maxRecDepth 100000 in
theorem c_X8_heldOfNote_0 (K : zc_K) (hi : zc_inj shX K.2.2.2.1) (σ0 : zc_S) (p1 : Int32) (hO0 : zc_O okX σ0) (h1a : 0 ≤ p1.toInt) (h1b : p1.toInt ≤ 23) : zc_M shX K yX8_heldOfNote cX8_heldOfNote 3 (some .int) (zrm 3 66) σ0 [.ref (zk K 0), .int p1] (zc_I (fun r9 σ9 => σ0 = σ9 ∧ (-4) ≤ r9.toInt ∧ r9.toInt ≤ 1)) := by
  refine zc_start RX8 hi pfX8_heldOfNote rfl (Nat.le_of_ble_eq_true rfl) ?_
  intro G hG
  have hB := hG.1
  show zc_V 3 K G (zc_D shX K G σ0) [(0, .ref (zk K 0)), (1, .int p1)] 0 []
  refine zr_aload_n hB 0 dX8_heldOfNote_0 rfl ?_
  refine zr_iload_n hB 1 dX8_heldOfNote_1 rfl ?_
  refine zr_callvi hG (rest := []) 0 dX8_heldOfNote_2 wm_X8_269 rfl rfl (c_X8_figureOfNote_0 K hG.2.2.2.2.2.1 σ0 p1 hO0 (by omega) (by omega)) rfl rfl (Nat.le_of_ble_eq_true rfl) ⟨Nat.le_of_ble_eq_true rfl, Nat.le_of_ble_eq_true rfl, rfl, rfl⟩ (fun r1 σ2 h3 => ?_)
  obtain ⟨rfl, r1a, r1b, r1h, g4⟩ := h3
  refine zr_istore_n hB dX8_heldOfNote_5 rfl (by decide) (lv' := [(2, .int r1), (0, .ref (zk K 0)), (1, .int p1)]) rfl ?_
  refine zr_iload_n hB 0 dX8_heldOfNote_6 rfl ?_
  refine zr_bipush hB dX8_heldOfNote_7 rfl (fun c5 ec5 => ?_)
  refine zr_icmp_ne hB dX8_heldOfNote_9 (tgt := 15) rfl (fun c6 => ?_) (fun c6 => ?_)
  · refine zr_iload_n hB 0 dX8_heldOfNote_15 rfl ?_
    refine zr_aload_n hB 1 dX8_heldOfNote_16 rfl ?_
    refine zr_getr hG 0 5 dX8_heldOfNote_17 rfl wf_X8_51 rfl ?_
    refine zr_getr hG 6 5 dX8_heldOfNote_20 rfl wf_X8_263 rfl ?_
    refine zr_iload_n hB 2 dX8_heldOfNote_23 rfl ?_
    refine zr_iald hG 34 dX8_heldOfNote_24 rfl (by omega) (by omega) (fun x7 ex7 => ?_)
    have bx7 : (-4) ≤ x7.toInt ∧ x7.toInt ≤ 999 := by rw [ex7]; exact ⟨(hO0 34 _).1, (hO0 34 _).2.1⟩
    refine zr_isub hB dX8_heldOfNote_25 (by omega) (by omega) (fun x8 ex8 => ?_)
    refine zr_callsi hG (rest := []) dX8_heldOfNote_26 wm_X8_207 (c_J9_abs_0f7a4 K hG.2.2.2.2.2.1 σ0 x8 hO0 (by omega)) rfl rfl (Nat.le_of_ble_eq_true rfl) ⟨Nat.le_of_ble_eq_true rfl, Nat.le_of_ble_eq_true rfl, rfl, rfl⟩ (fun r9 σ10 h11 => ?_)
    obtain ⟨rfl, r9a, g12⟩ := h11
    refine zr_aload_n hB 1 dX8_heldOfNote_29 rfl ?_
    refine zr_getr hG 0 5 dX8_heldOfNote_30 rfl wf_X8_51 rfl ?_
    refine zr_getr hG 6 6 dX8_heldOfNote_33 rfl wf_X8_266 rfl ?_
    refine zr_iload_n hB 2 dX8_heldOfNote_36 rfl ?_
    refine zr_iald hG 35 dX8_heldOfNote_37 rfl (by omega) (by omega) (fun x13 ex13 => ?_)
    have bx13 : 0 ≤ x13.toInt ∧ x13.toInt ≤ 999 := by rw [ex13]; exact ⟨(hO0 35 _).1, (hO0 35 _).2.1⟩
    refine zr_icmp_gt hB dX8_heldOfNote_38 (tgt := 45) rfl (fun c14 => ?_) (fun c14 => ?_)
    · refine zr_iconst hB dX8_heldOfNote_45 rfl (fun c15 ec15 => ?_)
      exact zr_iret hG dX8_heldOfNote_46 ⟨rfl, by omega, by omega⟩
    refine zr_iconst hB dX8_heldOfNote_41 rfl (fun c16 ec16 => ?_)
    refine zr_goto hB dX8_heldOfNote_42 (tgt := 46) rfl ?_
    exact zr_iret hG dX8_heldOfNote_46 ⟨rfl, by omega, by omega⟩
  refine zr_bipush hB dX8_heldOfNote_12 rfl (fun c17 ec17 => ?_)
  exact zr_iret hG dX8_heldOfNote_14 ⟨rfl, by omega, by omega⟩

set_option maxHeartbeats 1000000 in
set_option maxRecDepth 100000 in
theorem c_X8_isKnownSo_0 (K : zc_K) (hi : zc_inj shX K.2.2.2.1) (σ0 : zc_S) (p1 : Int32) (p2 : Int32) (p3 : Int32) (hO0 : zc_O okX σ0) (h1a : 0 ≤ p1.toInt) (h1b : p1.toInt ≤ 3) (h2a : 0 ≤ p2.toInt) (h2b : p2.toInt ≤ 63) : zc_M shX K yX8_isKnownSo cX8_isKnownSo 4 (some .boolean) (zrm 2 45) σ0 [.ref (zk K 0), .int p1, .int p2, .int p3] (zc_I (fun r9 σ9 => σ0 = σ9 ∧ 0 ≤ r9.toInt ∧ r9.toInt ≤ 1 ∧ ((r9.toInt = 1 ∧ zx_A σ0 (p1.toInt * 64 + p2.toInt).toNat (σ0.1 1 0).toInt = zq_nm p3.toInt) ∨ (r9.toInt = 0 ∧ ¬ zx_A σ0 (p1.toInt * 64 + p2.toInt).toNat (σ0.1 1 0).toInt = zq_nm p3.toInt)))) := by
  refine zc_start RX8 hi pfX8_isKnownSo rfl (Nat.le_of_ble_eq_true rfl) ?_
  intro G hG
  have hB := hG.1
  show zc_V 4 K G (zc_D shX K G σ0) [(0, .ref (zk K 0)), (1, .int p1), (2, .int p2), (3, .int p3)] 0 []
  refine zr_aload_n hB 0 dX8_isKnownSo_0 rfl ?_
  refine zr_getr hG 0 0 dX8_isKnownSo_1 rfl wf_X8_15 rfl ?_
  refine zr_iload_n hB 1 dX8_isKnownSo_4 rfl ?_
  refine zr_iload_n hB 2 dX8_isKnownSo_5 rfl ?_
  refine zr_aload_n hB 0 dX8_isKnownSo_6 rfl ?_
  refine zr_getr hG 0 0 dX8_isKnownSo_7 rfl wf_X8_15 rfl ?_
  refine zr_geti' hG 1 0 (σ0.1 1 0) dX8_isKnownSo_10 rfl wf_X8_66 rfl rfl ?_
  have b1 : 0 ≤ (σ0.1 1 0).toInt ∧ (σ0.1 1 0).toInt ≤ 63 := ⟨(hO0 1 0).1, (hO0 1 0).2.1⟩
  refine zr_callvi hG (rest := []) 1 dX8_isKnownSo_13 wm_X8_76 rfl rfl (c_X4_valueOn_1 K hG.2.2.2.2.2.1 σ0 p1 p2 (σ0.1 1 0) hO0 ) rfl rfl (Nat.le_of_ble_eq_true rfl) ⟨Nat.le_of_ble_eq_true rfl, Nat.le_of_ble_eq_true rfl, rfl, rfl⟩ (fun r2 σ3 h4 => ?_)
  obtain ⟨rfl, r2a, r2b, r2h, g5⟩ := h4
  refine zr_iload_n hB 3 dX8_isKnownSo_16 rfl ?_
  refine zr_if_ge hB dX8_isKnownSo_17 (tgt := 25) rfl (fun c6 => ?_) (fun c6 => ?_)
  · refine zr_iload_n hB 3 dX8_isKnownSo_25 rfl ?_
    refine zr_icmp_ne hB dX8_isKnownSo_26 (tgt := 33) rfl (fun c7 => ?_) (fun c7 => ?_)
    · refine zr_iconst hB dX8_isKnownSo_33 rfl (fun c8 ec8 => ?_)
      exact zr_zret hG dX8_isKnownSo_34 (by omega) (by omega) ⟨rfl, by omega, by omega, (by first | exact Or.inl ⟨by omega, by unfold zq_nm; split <;> omega⟩ | exact Or.inr ⟨by omega, by unfold zq_nm; split <;> omega⟩)⟩
    refine zr_iconst hB dX8_isKnownSo_29 rfl (fun c9 ec9 => ?_)
    refine zr_goto hB dX8_isKnownSo_30 (tgt := 34) rfl ?_
    exact zr_zret hG dX8_isKnownSo_34 (by omega) (by omega) ⟨rfl, by omega, by omega, (by first | exact Or.inl ⟨by omega, by unfold zq_nm; split <;> omega⟩ | exact Or.inr ⟨by omega, by unfold zq_nm; split <;> omega⟩)⟩
  refine zr_bipush hB dX8_isKnownSo_20 rfl (fun c10 ec10 => ?_)
  refine zr_goto hB dX8_isKnownSo_22 (tgt := 26) rfl ?_
  refine zr_icmp_ne hB dX8_isKnownSo_26 (tgt := 33) rfl (fun c11 => ?_) (fun c11 => ?_)
  · refine zr_iconst hB dX8_isKnownSo_33 rfl (fun c12 ec12 => ?_)
    exact zr_zret hG dX8_isKnownSo_34 (by omega) (by omega) ⟨rfl, by omega, by omega, (by first | exact Or.inl ⟨by omega, by unfold zq_nm; split <;> omega⟩ | exact Or.inr ⟨by omega, by unfold zq_nm; split <;> omega⟩)⟩
  refine zr_iconst hB dX8_isKnownSo_29 rfl (fun c13 ec13 => ?_)
  refine zr_goto hB dX8_isKnownSo_30 (tgt := 34) rfl ?_
  exact zr_zret hG dX8_isKnownSo_34 (by omega) (by omega) ⟨rfl, by omega, by omega, (by first | exact Or.inl ⟨by omega, by unfold zq_nm; split <;> omega⟩ | exact Or.inr ⟨by omega, by unfold zq_nm; split <;> omega⟩)⟩

def m_X8_tellFromSheet_0 : zc_ms := [(1, some 1), (11, none), (12, none), (13, none), (14, none)]
set_option maxHeartbeats 1000000 in
set_option maxRecDepth 100000 in
theorem c_X8_tellFromSheet_0 (K : zc_K) (hi : zc_inj shX K.2.2.2.1) (σ0 : zc_S) (p1 : Int32) (p2 : Int32) (p3 : Int32) (p4 : Int32) (p5 : Int32) (hO0 : zc_O okX σ0) (h1a : 0 ≤ p1.toInt) (h1b : p1.toInt ≤ 3) (h2a : 0 ≤ p2.toInt) (h2b : p2.toInt ≤ 63) (h3a : 0 ≤ p3.toInt) (h3b : p3.toInt ≤ 3) (h5a : 0 ≤ p5.toInt) (h5b : p5.toInt ≤ 64) (hx0 : (p5.toInt = 0 ∨ (0 ≤ p4.toInt ∧ p4.toInt + p5.toInt ≤ 64))) (hx1 : p2.toInt + p5.toInt ≤ 64) (hq0 : ∀ j : Int, 0 ≤ j → j < p5.toInt → (σ0.1 39 (p3.toInt * 64 + p4.toInt + j).toNat).toInt ≤ 999) (hC : zx_C σ0) (hN : (σ0.1 1 1).toInt + zq_cn (σ0.1 1 0).toInt (p1.toInt * 64 + p2.toInt).toNat (zx_cl σ0 p3.toInt p4.toInt) (zx_A σ0) p5.toInt.toNat ≤ 200) : zc_M shX K yX8_tellFromSheet cX8_tellFromSheet 8 none (zrm 3 68) σ0 [.ref (zk K 0), .int p1, .int p2, .int p3, .int p4, .int p5] (zc_N (fun σ9 => zc_O okX σ9 ∧ zc_Ag m_X8_tellFromSheet_0 σ0 σ9 ∧ zx_R σ0 σ9 (p1.toInt * 64 + p2.toInt).toNat (zx_cl σ0 p3.toInt p4.toInt) p5.toInt.toNat)) := by
  refine zc_start RX8 hi pfX8_tellFromSheet rfl (Nat.le_of_ble_eq_true rfl) ?_
  intro G hG
  have hB := hG.1
  have hA0 : zc_Ag m_X8_tellFromSheet_0 σ0 σ0 := zc_Ag.rf
  show zc_V 8 K G (zc_D shX K G σ0) [(0, .ref (zk K 0)), (1, .int p1), (2, .int p2), (3, .int p3), (4, .int p4), (5, .int p5)] 0 []
  refine zr_iconst hB dX8_tellFromSheet_0 rfl (fun c1 ec1 => ?_)
  refine zr_istore hB dX8_tellFromSheet_1 (by decide) (lv' := [(6, .int c1), (0, .ref (zk K 0)), (1, .int p1), (2, .int p2), (3, .int p3), (4, .int p4), (5, .int p5)]) rfl ?_
  have L3_5 : ∀ (n3 : Nat) (σ3 : zc_S) (y6_2 : Int32), zc_O okX σ3 → zc_Ag m_X8_tellFromSheet_0 σ0 σ3 → 0 ≤ y6_2.toInt → y6_2.toInt ≤ 64 → y6_2.toInt ≤ p5.toInt → zx_R σ0 σ3 (p1.toInt * 64 + p2.toInt).toNat (zx_cl σ0 p3.toInt p4.toInt) y6_2.toInt.toNat → 64 - y6_2.toInt < (n3 : Int) → zc_V 8 K G (zc_D shX K G σ3) [(0, .ref (zk K 0)), (1, .int p1), (2, .int p2), (3, .int p3), (4, .int p4), (5, .int p5), (6, .int y6_2)] 3 [] := by
    intro n3
    induction n3 with
    | zero => intro σ3 y6_2 hO3 hA3 y6_2a y6_2b e4 hzr hn3; exfalso; omega
    | succ n3 ih3 =>
      intro σ3 y6_2 hO3 hA3 y6_2a y6_2b e4 hzr hn3
      refine zr_iload hB 6 dX8_tellFromSheet_3 rfl ?_
      refine zr_iload hB 5 dX8_tellFromSheet_5 rfl ?_
      refine zr_icmp_ge hB dX8_tellFromSheet_7 (tgt := 69) rfl (fun c6 => ?_) (fun c6 => ?_)
      · exact zr_vret hG dX8_tellFromSheet_69 ⟨hO3, hA3, (by rw [show p5.toInt.toNat = y6_2.toInt.toNat by omega]; exact hzr)⟩
      refine zr_aload_n hB 0 dX8_tellFromSheet_10 rfl ?_
      refine zr_getr hG 0 6 dX8_tellFromSheet_11 rfl wf_X8_58 rfl ?_
      refine zr_iload_n hB 3 dX8_tellFromSheet_14 rfl ?_
      refine zr_iload hB 4 dX8_tellFromSheet_15 rfl ?_
      refine zr_iload hB 6 dX8_tellFromSheet_17 rfl ?_
      have v8 := And.intro (zn_lo p4) (zn_hi p4)
      refine zr_iadd hB dX8_tellFromSheet_19 (by omega) (by omega) (fun x7 ex7 => ?_)
      refine zr_callvi hG (rest := []) 7 dX8_tellFromSheet_20 wm_X8_296 rfl rfl (c_X5_cell_7 K hG.2.2.2.2.2.1 σ3 p3 x7 hO3 (by omega) (by omega) (by omega) (by omega)) rfl rfl (Nat.le_of_ble_eq_true rfl) ⟨Nat.le_of_ble_eq_true rfl, Nat.le_of_ble_eq_true rfl, rfl, rfl⟩ (fun r9 σ10 h11 => ?_)
      obtain ⟨rfl, g12⟩ := h11
      have hv : r9.toInt ≤ 999 := by
        have q := hq0 y6_2.toInt (by omega) (by omega)
        rw [g12, (hA3 39 _ rfl).1, show (p3.toInt * 64 + x7.toInt).toNat = (p3.toInt * 64 + p4.toInt + y6_2.toInt).toNat by omega]
        exact q
      have hcl : r9.toInt = (zx_cl σ0 p3.toInt p4.toInt) y6_2.toInt.toNat := by unfold zx_cl; rw [g12, (hA3 39 _ rfl).1, show (p3.toInt * 64 + x7.toInt).toNat = (p3.toInt * 64 + p4.toInt + (y6_2.toInt.toNat : Int)).toNat by omega]
      refine zr_istore hB dX8_tellFromSheet_23 (by decide) (lv' := [(7, .int r9), (0, .ref (zk K 0)), (1, .int p1), (2, .int p2), (3, .int p3), (4, .int p4), (5, .int p5), (6, .int y6_2)]) rfl ?_
      refine zr_aload_n hB 1 dX8_tellFromSheet_25 rfl ?_
      refine zr_iload_n hB 2 dX8_tellFromSheet_26 rfl ?_
      refine zr_iload_n hB 3 dX8_tellFromSheet_27 rfl ?_
      refine zr_iload hB 7 dX8_tellFromSheet_28 rfl ?_
      refine zr_iadd hB dX8_tellFromSheet_30 (by omega) (by omega) (fun x13 ex13 => ?_)
      refine zr_iload hB 0 dX8_tellFromSheet_31 rfl ?_
      refine zr_callvi hG (rest := []) 0 dX8_tellFromSheet_33 wm_X8_299 rfl rfl (c_X8_isKnownSo_0 K hG.2.2.2.2.2.1 σ3 p1 x13 r9 hO3 (by omega) (by omega) (by omega) (by omega)) rfl rfl (Nat.le_of_ble_eq_true rfl) ⟨Nat.le_of_ble_eq_true rfl, Nat.le_of_ble_eq_true rfl, rfl, rfl⟩ (fun r14 σ15 h16 => ?_)
      obtain ⟨rfl, r14a, r14b, g17⟩ := h16
      have hnw : (σ3.1 1 0).toInt = (σ0.1 1 0).toInt := by rw [(hA3 1 0 rfl).1]
      have hk9 := g17
      rw [show (p1.toInt * 64 + x13.toInt).toNat = (p1.toInt * 64 + p2.toInt).toNat + y6_2.toInt.toNat by omega, hnw, hcl] at hk9
      refine zr_if_ne hB dX8_tellFromSheet_36 (tgt := 63) rfl (fun c18 => ?_) (fun c18 => ?_)
      · refine zr_iinc hB 7 dX8_tellFromSheet_63 rfl (by decide) rfl (by omega) (by omega) (fun x19 ex19 lv' hlv => ?_)
        obtain rfl : [(6, .int x19), (7, .int r9), (0, .ref (zk K 0)), (1, .int p1), (2, .int p2), (3, .int p3), (4, .int p4), (5, .int p5)] = lv' := hlv
        refine zr_goto hB dX8_tellFromSheet_66 (tgt := 3) rfl ?_
        exact zc_sub [2, 3, 4, 5, 6, 7, 0] rfl (ih3 σ3 x19 hO3 hA3 (by omega) (by omega) (show x19.toInt ≤ p5.toInt by omega) (show zx_R σ0 σ3 (p1.toInt * 64 + p2.toInt).toNat (zx_cl σ0 p3.toInt p4.toInt) x19.toInt.toNat by exact zx_Rk hzr (by omega) (by rcases hk9 with ⟨_, b⟩ | ⟨a, _⟩; exact b; (exfalso; omega))) (by omega))
      refine zr_aload_n hB 1 dX8_tellFromSheet_39 rfl ?_
      refine zr_getr hG 0 0 dX8_tellFromSheet_40 rfl wf_X8_15 rfl ?_
      refine zr_iload_n hB 2 dX8_tellFromSheet_43 rfl ?_
      refine zr_iload_n hB 3 dX8_tellFromSheet_44 rfl ?_
      refine zr_iload hB 7 dX8_tellFromSheet_45 rfl ?_
      refine zr_iadd hB dX8_tellFromSheet_47 (by omega) (by omega) (fun x20 ex20 => ?_)
      refine zr_iload hB 0 dX8_tellFromSheet_48 rfl ?_
      refine zr_if_ge hB dX8_tellFromSheet_50 (tgt := 58) rfl (fun c21 => ?_) (fun c21 => ?_)
      · refine zr_iload hB 0 dX8_tellFromSheet_58 rfl ?_
        have hkn : ¬ zx_A σ3 ((p1.toInt * 64 + p2.toInt).toNat + y6_2.toInt.toNat) (σ0.1 1 0).toInt = zq_nm ((zx_cl σ0 p3.toInt p4.toInt) y6_2.toInt.toNat) := by rcases hk9 with ⟨a, _⟩ | ⟨_, b⟩; (exfalso; omega); exact b
        have hrm9 := zx_room hzr hN (by omega) hkn
        refine zr_callvn hG (rest := []) 1 dX8_tellFromSheet_60 wm_X8_80 rfl rfl (c_X4_tell_1 K hG.2.2.2.2.2.1 σ3 p1 x20 r9 hO3 (by omega) (by omega) (by omega)) rfl rfl (Nat.le_of_ble_eq_true rfl) ⟨Nat.le_of_ble_eq_true rfl, Nat.le_of_ble_eq_true rfl, rfl, rfl⟩ (fun σ23 h24 => ?_)
        obtain ⟨hO25, hAc26, g27⟩ := h24
        have hA28 := zc_Ag.tr hA3 hAc26 rfl
        have hT9 := zx_or g27 (by omega) hzr.1
        rw [show (p1.toInt * 64 + x20.toInt).toNat = (p1.toInt * 64 + p2.toInt).toNat + y6_2.toInt.toNat by omega, show r9.toInt = zq_nm ((zx_cl σ0 p3.toInt p4.toInt) y6_2.toInt.toNat) by rw [← hcl]; unfold zq_nm; split <;> omega] at hT9
        refine zr_iinc hB 7 dX8_tellFromSheet_63 rfl (by decide) rfl (by omega) (by omega) (fun x29 ex29 lv' hlv => ?_)
        obtain rfl : [(6, .int x29), (7, .int r9), (0, .ref (zk K 0)), (1, .int p1), (2, .int p2), (3, .int p3), (4, .int p4), (5, .int p5)] = lv' := hlv
        refine zr_goto hB dX8_tellFromSheet_66 (tgt := 3) rfl ?_
        exact zc_sub [2, 3, 4, 5, 6, 7, 0] rfl (ih3 σ23 x29 hO25 hA28 (by omega) (by omega) (show x29.toInt ≤ p5.toInt by omega) (show zx_R σ0 σ23 (p1.toInt * 64 + p2.toInt).toNat (zx_cl σ0 p3.toInt p4.toInt) x29.toInt.toNat by exact zx_Rt hzr (by omega) hkn hnw hT9) (by omega))
      refine zr_bipush hB dX8_tellFromSheet_53 rfl (fun c30 ec30 => ?_)
      refine zr_goto hB dX8_tellFromSheet_55 (tgt := 60) rfl ?_
      have hkn : ¬ zx_A σ3 ((p1.toInt * 64 + p2.toInt).toNat + y6_2.toInt.toNat) (σ0.1 1 0).toInt = zq_nm ((zx_cl σ0 p3.toInt p4.toInt) y6_2.toInt.toNat) := by rcases hk9 with ⟨a, _⟩ | ⟨_, b⟩; (exfalso; omega); exact b
      have hrm9 := zx_room hzr hN (by omega) hkn
      refine zr_callvn hG (rest := []) 1 dX8_tellFromSheet_60 wm_X8_80 rfl rfl (c_X4_tell_1 K hG.2.2.2.2.2.1 σ3 p1 x20 c30 hO3 (by omega) (by omega) (by omega)) rfl rfl (Nat.le_of_ble_eq_true rfl) ⟨Nat.le_of_ble_eq_true rfl, Nat.le_of_ble_eq_true rfl, rfl, rfl⟩ (fun σ32 h33 => ?_)
      obtain ⟨hO34, hAc35, g36⟩ := h33
      have hA37 := zc_Ag.tr hA3 hAc35 rfl
      have hT9 := zx_or g36 (by omega) hzr.1
      rw [show (p1.toInt * 64 + x20.toInt).toNat = (p1.toInt * 64 + p2.toInt).toNat + y6_2.toInt.toNat by omega, show c30.toInt = zq_nm ((zx_cl σ0 p3.toInt p4.toInt) y6_2.toInt.toNat) by rw [← hcl]; unfold zq_nm; split <;> omega] at hT9
      refine zr_iinc hB 7 dX8_tellFromSheet_63 rfl (by decide) rfl (by omega) (by omega) (fun x38 ex38 lv' hlv => ?_)
      obtain rfl : [(6, .int x38), (7, .int r9), (0, .ref (zk K 0)), (1, .int p1), (2, .int p2), (3, .int p3), (4, .int p4), (5, .int p5)] = lv' := hlv
      refine zr_goto hB dX8_tellFromSheet_66 (tgt := 3) rfl ?_
      exact zc_sub [2, 3, 4, 5, 6, 7, 0] rfl (ih3 σ32 x38 hO34 hA37 (by omega) (by omega) (show x38.toInt ≤ p5.toInt by omega) (show zx_R σ0 σ32 (p1.toInt * 64 + p2.toInt).toNat (zx_cl σ0 p3.toInt p4.toInt) x38.toInt.toNat by exact zx_Rt hzr (by omega) hkn hnw hT9) (by omega))
  exact zc_sub [1, 2, 3, 4, 5, 6, 0] rfl (L3_5 66 σ0 c1 hO0 hA0 (by omega) (by omega) (show c1.toInt ≤ p5.toInt by omega) (show zx_R σ0 σ0 (p1.toInt * 64 + p2.toInt).toNat (zx_cl σ0 p3.toInt p4.toInt) c1.toInt.toNat by exact zx_R0 hC (by omega)) (by omega))

set_option maxHeartbeats 1000000 in
set_option maxRecDepth 100000 in
theorem c_X8_marked_15 (K : zc_K) (hi : zc_inj shX K.2.2.2.1) (σ0 : zc_S)  (hO0 : zc_O okX σ0)  : zc_M shX K yX8_marked cX8_marked 3 (some .int) (zrm 0 0) σ0 [.ref (zk K 15)] (zc_I (fun r9 σ9 => σ0 = σ9 ∧ r9.toInt = zp_ct (zp_mk 15 σ0) 64)) := by
  refine zc_start RX8 hi pfX8_marked rfl (Nat.le_of_ble_eq_true rfl) ?_
  intro G hG
  have hB := hG.1
  show zc_V 3 K G (zc_D shX K G σ0) [(0, .ref (zk K 15))] 0 []
  refine zr_iconst hB dX8_marked_0 rfl (fun c1 ec1 => ?_)
  refine zr_istore_n hB dX8_marked_1 rfl (by decide) (lv' := [(1, .int c1), (0, .ref (zk K 15))]) rfl ?_
  refine zr_iconst hB dX8_marked_2 rfl (fun c2 ec2 => ?_)
  refine zr_istore_n hB dX8_marked_3 rfl (by decide) (lv' := [(2, .int c2), (1, .int c1), (0, .ref (zk K 15))]) rfl ?_
  have L4_6 : ∀ (n4 : Nat) (y1_3 : Int32) (y2_4 : Int32), 0 ≤ y1_3.toInt → y1_3.toInt ≤ 64 → 0 ≤ y2_4.toInt → y2_4.toInt ≤ 64 → y1_3.toInt ≤ y2_4.toInt → y1_3.toInt = zp_ct (zp_mk 15 σ0) y2_4.toInt.toNat → 64 - y2_4.toInt < (n4 : Int) → zc_V 3 K G (zc_D shX K G σ0) [(0, .ref (zk K 15)), (1, .int y1_3), (2, .int y2_4)] 4 [] := by
    intro n4
    induction n4 with
    | zero => intro y1_3 y2_4 y1_3a y1_3b y2_4a y2_4b e5 hc hn4; exfalso; omega
    | succ n4 ih4 =>
      intro y1_3 y2_4 y1_3a y1_3b y2_4a y2_4b e5 hc hn4
      refine zr_iload_n hB 2 dX8_marked_4 rfl ?_
      refine zr_aload_n hB 0 dX8_marked_5 rfl ?_
      refine zr_alen hG 15 dX8_marked_6 rfl rfl (m := 64) rfl (fun c7 ec7 => ?_)
      refine zr_icmp_ge hB dX8_marked_7 (tgt := 30) rfl (fun c8 => ?_) (fun c8 => ?_)
      · refine zr_iload_n hB 1 dX8_marked_30 rfl ?_
        exact zr_iret hG dX8_marked_31 ⟨rfl, (by rw [show (64 : Nat) = y2_4.toInt.toNat by omega]; exact hc)⟩
      refine zr_iload_n hB 1 dX8_marked_10 rfl ?_
      refine zr_aload_n hB 0 dX8_marked_11 rfl ?_
      refine zr_iload_n hB 2 dX8_marked_12 rfl ?_
      refine zr_zald hG 15 dX8_marked_13 rfl (by omega) (by omega) (fun x9 ex9 => ?_)
      have bx9 : 0 ≤ x9.toInt ∧ x9.toInt ≤ 1 := by rw [ex9]; exact ⟨(hO0 15 _).1, (hO0 15 _).2.1⟩
      refine zr_if_eq hB dX8_marked_14 (tgt := 21) rfl (fun c10 => ?_) (fun c10 => ?_)
      · refine zr_iconst hB dX8_marked_21 rfl (fun c11 ec11 => ?_)
        refine zr_iadd hB dX8_marked_22 (by omega) (by omega) (fun x12 ex12 => ?_)
        refine zr_istore_n hB dX8_marked_23 rfl (by decide) (lv' := [(1, .int x12), (0, .ref (zk K 15)), (2, .int y2_4)]) rfl ?_
        refine zr_iinc hB 2 dX8_marked_24 rfl (by decide) rfl (by omega) (by omega) (fun x13 ex13 lv' hlv => ?_)
        obtain rfl : [(2, .int x13), (1, .int x12), (0, .ref (zk K 15))] = lv' := hlv
        refine zr_goto hB dX8_marked_27 (tgt := 4) rfl ?_
        exact zc_sub [2, 1, 0] rfl (ih4 x12 x13 (by omega) (by omega) (by omega) (by omega) (show x12.toInt ≤ x13.toInt by omega) (show x12.toInt = zp_ct (zp_mk 15 σ0) x13.toInt.toNat by rw [show x13.toInt.toNat = (y2_4.toInt + 1).toNat by omega]; first | (rw [zp_cy (k := (zp_mk 15 σ0)) (n := y2_4.toInt.toNat) (by omega) (show ¬ (σ0.1 15 y2_4.toInt.toNat).toInt = 0 by rw [← ex9]; omega)]; omega) | (rw [zp_cn (k := (zp_mk 15 σ0)) (n := y2_4.toInt.toNat) (by omega) (fun h9 => h9 (show (σ0.1 15 y2_4.toInt.toNat).toInt = 0 by rw [← ex9]; omega))]; omega)) (by omega))
      refine zr_iconst hB dX8_marked_17 rfl (fun c14 ec14 => ?_)
      refine zr_goto hB dX8_marked_18 (tgt := 22) rfl ?_
      refine zr_iadd hB dX8_marked_22 (by omega) (by omega) (fun x15 ex15 => ?_)
      refine zr_istore_n hB dX8_marked_23 rfl (by decide) (lv' := [(1, .int x15), (0, .ref (zk K 15)), (2, .int y2_4)]) rfl ?_
      refine zr_iinc hB 2 dX8_marked_24 rfl (by decide) rfl (by omega) (by omega) (fun x16 ex16 lv' hlv => ?_)
      obtain rfl : [(2, .int x16), (1, .int x15), (0, .ref (zk K 15))] = lv' := hlv
      refine zr_goto hB dX8_marked_27 (tgt := 4) rfl ?_
      exact zc_sub [2, 1, 0] rfl (ih4 x15 x16 (by omega) (by omega) (by omega) (by omega) (show x15.toInt ≤ x16.toInt by omega) (show x15.toInt = zp_ct (zp_mk 15 σ0) x16.toInt.toNat by rw [show x16.toInt.toNat = (y2_4.toInt + 1).toNat by omega]; first | (rw [zp_cy (k := (zp_mk 15 σ0)) (n := y2_4.toInt.toNat) (by omega) (show ¬ (σ0.1 15 y2_4.toInt.toNat).toInt = 0 by rw [← ex9]; omega)]; omega) | (rw [zp_cn (k := (zp_mk 15 σ0)) (n := y2_4.toInt.toNat) (by omega) (fun h9 => h9 (show (σ0.1 15 y2_4.toInt.toNat).toInt = 0 by rw [← ex9]; omega))]; omega)) (by omega))
  exact zc_sub [2, 1, 0] rfl (L4_6 66 c1 c2 (by omega) (by omega) (by omega) (by omega) (show c1.toInt ≤ c2.toInt by omega) (show c1.toInt = zp_ct (zp_mk 15 σ0) c2.toInt.toNat by rw [show c2.toInt.toNat = 0 by omega]; show _ = (0 : Int); omega) (by omega))

set_option maxHeartbeats 1000000 in
set_option maxRecDepth 100000 in
theorem c_X8_marked_16 (K : zc_K) (hi : zc_inj shX K.2.2.2.1) (σ0 : zc_S)  (hO0 : zc_O okX σ0)  : zc_M shX K yX8_marked cX8_marked 3 (some .int) (zrm 0 0) σ0 [.ref (zk K 16)] (zc_I (fun r9 σ9 => σ0 = σ9 ∧ r9.toInt = zp_ct (zp_mk 16 σ0) 64)) := by
  refine zc_start RX8 hi pfX8_marked rfl (Nat.le_of_ble_eq_true rfl) ?_
  intro G hG
  have hB := hG.1
  show zc_V 3 K G (zc_D shX K G σ0) [(0, .ref (zk K 16))] 0 []
  refine zr_iconst hB dX8_marked_0 rfl (fun c1 ec1 => ?_)
  refine zr_istore_n hB dX8_marked_1 rfl (by decide) (lv' := [(1, .int c1), (0, .ref (zk K 16))]) rfl ?_
  refine zr_iconst hB dX8_marked_2 rfl (fun c2 ec2 => ?_)
  refine zr_istore_n hB dX8_marked_3 rfl (by decide) (lv' := [(2, .int c2), (1, .int c1), (0, .ref (zk K 16))]) rfl ?_
  have L4_6 : ∀ (n4 : Nat) (y1_3 : Int32) (y2_4 : Int32), 0 ≤ y1_3.toInt → y1_3.toInt ≤ 64 → 0 ≤ y2_4.toInt → y2_4.toInt ≤ 64 → y1_3.toInt ≤ y2_4.toInt → y1_3.toInt = zp_ct (zp_mk 16 σ0) y2_4.toInt.toNat → 64 - y2_4.toInt < (n4 : Int) → zc_V 3 K G (zc_D shX K G σ0) [(0, .ref (zk K 16)), (1, .int y1_3), (2, .int y2_4)] 4 [] := by
    intro n4
    induction n4 with
    | zero => intro y1_3 y2_4 y1_3a y1_3b y2_4a y2_4b e5 hc hn4; exfalso; omega
    | succ n4 ih4 =>
      intro y1_3 y2_4 y1_3a y1_3b y2_4a y2_4b e5 hc hn4
      refine zr_iload_n hB 2 dX8_marked_4 rfl ?_
      refine zr_aload_n hB 0 dX8_marked_5 rfl ?_
      refine zr_alen hG 16 dX8_marked_6 rfl rfl (m := 64) rfl (fun c7 ec7 => ?_)
      refine zr_icmp_ge hB dX8_marked_7 (tgt := 30) rfl (fun c8 => ?_) (fun c8 => ?_)
      · refine zr_iload_n hB 1 dX8_marked_30 rfl ?_
        exact zr_iret hG dX8_marked_31 ⟨rfl, (by rw [show (64 : Nat) = y2_4.toInt.toNat by omega]; exact hc)⟩
      refine zr_iload_n hB 1 dX8_marked_10 rfl ?_
      refine zr_aload_n hB 0 dX8_marked_11 rfl ?_
      refine zr_iload_n hB 2 dX8_marked_12 rfl ?_
      refine zr_zald hG 16 dX8_marked_13 rfl (by omega) (by omega) (fun x9 ex9 => ?_)
      have bx9 : 0 ≤ x9.toInt ∧ x9.toInt ≤ 1 := by rw [ex9]; exact ⟨(hO0 16 _).1, (hO0 16 _).2.1⟩
      refine zr_if_eq hB dX8_marked_14 (tgt := 21) rfl (fun c10 => ?_) (fun c10 => ?_)
      · refine zr_iconst hB dX8_marked_21 rfl (fun c11 ec11 => ?_)
        refine zr_iadd hB dX8_marked_22 (by omega) (by omega) (fun x12 ex12 => ?_)
        refine zr_istore_n hB dX8_marked_23 rfl (by decide) (lv' := [(1, .int x12), (0, .ref (zk K 16)), (2, .int y2_4)]) rfl ?_
        refine zr_iinc hB 2 dX8_marked_24 rfl (by decide) rfl (by omega) (by omega) (fun x13 ex13 lv' hlv => ?_)
        obtain rfl : [(2, .int x13), (1, .int x12), (0, .ref (zk K 16))] = lv' := hlv
        refine zr_goto hB dX8_marked_27 (tgt := 4) rfl ?_
        exact zc_sub [2, 1, 0] rfl (ih4 x12 x13 (by omega) (by omega) (by omega) (by omega) (show x12.toInt ≤ x13.toInt by omega) (show x12.toInt = zp_ct (zp_mk 16 σ0) x13.toInt.toNat by rw [show x13.toInt.toNat = (y2_4.toInt + 1).toNat by omega]; first | (rw [zp_cy (k := (zp_mk 16 σ0)) (n := y2_4.toInt.toNat) (by omega) (show ¬ (σ0.1 16 y2_4.toInt.toNat).toInt = 0 by rw [← ex9]; omega)]; omega) | (rw [zp_cn (k := (zp_mk 16 σ0)) (n := y2_4.toInt.toNat) (by omega) (fun h9 => h9 (show (σ0.1 16 y2_4.toInt.toNat).toInt = 0 by rw [← ex9]; omega))]; omega)) (by omega))
      refine zr_iconst hB dX8_marked_17 rfl (fun c14 ec14 => ?_)
      refine zr_goto hB dX8_marked_18 (tgt := 22) rfl ?_
      refine zr_iadd hB dX8_marked_22 (by omega) (by omega) (fun x15 ex15 => ?_)
      refine zr_istore_n hB dX8_marked_23 rfl (by decide) (lv' := [(1, .int x15), (0, .ref (zk K 16)), (2, .int y2_4)]) rfl ?_
      refine zr_iinc hB 2 dX8_marked_24 rfl (by decide) rfl (by omega) (by omega) (fun x16 ex16 lv' hlv => ?_)
      obtain rfl : [(2, .int x16), (1, .int x15), (0, .ref (zk K 16))] = lv' := hlv
      refine zr_goto hB dX8_marked_27 (tgt := 4) rfl ?_
      exact zc_sub [2, 1, 0] rfl (ih4 x15 x16 (by omega) (by omega) (by omega) (by omega) (show x15.toInt ≤ x16.toInt by omega) (show x15.toInt = zp_ct (zp_mk 16 σ0) x16.toInt.toNat by rw [show x16.toInt.toNat = (y2_4.toInt + 1).toNat by omega]; first | (rw [zp_cy (k := (zp_mk 16 σ0)) (n := y2_4.toInt.toNat) (by omega) (show ¬ (σ0.1 16 y2_4.toInt.toNat).toInt = 0 by rw [← ex9]; omega)]; omega) | (rw [zp_cn (k := (zp_mk 16 σ0)) (n := y2_4.toInt.toNat) (by omega) (fun h9 => h9 (show (σ0.1 16 y2_4.toInt.toNat).toInt = 0 by rw [← ex9]; omega))]; omega)) (by omega))
  exact zc_sub [2, 1, 0] rfl (L4_6 66 c1 c2 (by omega) (by omega) (by omega) (by omega) (show c1.toInt ≤ c2.toInt by omega) (show c1.toInt = zp_ct (zp_mk 16 σ0) c2.toInt.toNat by rw [show c2.toInt.toNat = 0 by omega]; show _ = (0 : Int); omega) (by omega))

def m_X8_now_0 : zc_ms := [(1, some 0)]
set_option maxHeartbeats 1000000 in
set_option maxRecDepth 100000 in
theorem c_X8_now_0 (K : zc_K) (hi : zc_inj shX K.2.2.2.1) (σ0 : zc_S) (p1 : Int32) (hO0 : zc_O okX σ0)  : zc_M shX K yX8_now cX8_now 3 (some .int) (zrm 1 20) σ0 [.ref (zk K 0), .int p1] (zc_I (fun r9 σ9 => zc_O okX σ9 ∧ zc_Ag m_X8_now_0 σ0 σ9 ∧ (-1) ≤ r9.toInt ∧ r9.toInt ≤ 63 ∧ (((p1.toInt < 0 ∨ p1.toInt < (σ0.1 1 0).toInt ∨ 63 < p1.toInt) ∧ r9.toInt = -1 ∧ (σ9.1 1 0).toInt = (σ0.1 1 0).toInt) ∨ (0 ≤ p1.toInt ∧ (σ0.1 1 0).toInt ≤ p1.toInt ∧ p1.toInt ≤ 63 ∧ r9.toInt = (σ0.1 1 0).toInt ∧ (σ9.1 1 0).toInt = p1.toInt)))) := by
  refine zc_start RX8 hi pfX8_now rfl (Nat.le_of_ble_eq_true rfl) ?_
  intro G hG
  have hB := hG.1
  have hA0 : zc_Ag m_X8_now_0 σ0 σ0 := zc_Ag.rf
  show zc_V 3 K G (zc_D shX K G σ0) [(0, .ref (zk K 0)), (1, .int p1)] 0 []
  refine zr_iload_n hB 1 dX8_now_0 rfl ?_
  refine zr_callsi hG (rest := []) dX8_now_1 wm_X8_62 (c_X8_isDay K hG.2.2.2.2.2.1 σ0 p1 hO0 ) rfl rfl (Nat.le_of_ble_eq_true rfl) ⟨Nat.le_of_ble_eq_true rfl, Nat.le_of_ble_eq_true rfl, rfl, rfl⟩ (fun r1 σ2 h3 => ?_)
  obtain ⟨rfl, r1q⟩ := h3
  have r1z := r1q.b
  refine zr_if_eq hB dX8_now_4 (tgt := 18) rfl (fun c4 => ?_) (fun c4 => ?_)
  · have q5 := r1q.f c4
    refine zr_iconst hB dX8_now_18 rfl (fun c6 ec6 => ?_)
    exact zr_iret hG dX8_now_19 ⟨hO0, hA0, by omega, by omega, (show (((p1.toInt < 0 ∨ p1.toInt < (σ0.1 1 0).toInt ∨ 63 < p1.toInt) ∧ c6.toInt = -1 ∧ (σ0.1 1 0).toInt = (σ0.1 1 0).toInt) ∨ (0 ≤ p1.toInt ∧ (σ0.1 1 0).toInt ≤ p1.toInt ∧ p1.toInt ≤ 63 ∧ c6.toInt = (σ0.1 1 0).toInt ∧ (σ0.1 1 0).toInt = p1.toInt)) by omega)⟩
  have q7 := r1q.t c4
  refine zr_iload_n hB 1 dX8_now_7 rfl ?_
  refine zr_aload_n hB 0 dX8_now_8 rfl ?_
  refine zr_getr hG 0 0 dX8_now_9 rfl wf_X8_15 rfl ?_
  refine zr_geti' hG 1 0 (σ0.1 1 0) dX8_now_12 rfl wf_X8_66 rfl rfl ?_
  have b8 : 0 ≤ (σ0.1 1 0).toInt ∧ (σ0.1 1 0).toInt ≤ 63 := ⟨(hO0 1 0).1, (hO0 1 0).2.1⟩
  refine zr_icmp_ge hB dX8_now_15 (tgt := 20) rfl (fun c9 => ?_) (fun c9 => ?_)
  · refine zr_aload_n hB 0 dX8_now_20 rfl ?_
    refine zr_getr hG 0 0 dX8_now_21 rfl wf_X8_15 rfl ?_
    refine zr_geti' hG 1 0 (σ0.1 1 0) dX8_now_24 rfl wf_X8_66 rfl rfl ?_
    refine zr_istore_n hB dX8_now_27 rfl (by decide) (lv' := [(2, .int (σ0.1 1 0)), (0, .ref (zk K 0)), (1, .int p1)]) rfl ?_
    refine zr_aload_n hB 1 dX8_now_28 rfl ?_
    refine zr_getr hG 0 0 dX8_now_29 rfl wf_X8_15 rfl ?_
    refine zr_iload_n hB 2 dX8_now_32 rfl ?_
    refine zr_puti hG 1 0 dX8_now_33 rfl wp_X8_66 rfl ?_
    have hOw10 := zc_O.u hO0 1 0 (v := p1) (show 0 ≤ p1.toInt by omega) (show p1.toInt ≤ 63 by omega) (Or.inr (show 0 ≤ p1.toInt by omega))
    have hAw10 := zc_Ag.u hA0 1 0 p1 rfl
    refine zr_iload_n hB 0 dX8_now_36 rfl ?_
    exact zr_iret hG dX8_now_37 ⟨hOw10, hAw10, by omega, by omega, (show (((p1.toInt < 0 ∨ p1.toInt < (σ0.1 1 0).toInt ∨ 63 < p1.toInt) ∧ (σ0.1 1 0).toInt = -1 ∧ p1.toInt = (σ0.1 1 0).toInt) ∨ (0 ≤ p1.toInt ∧ (σ0.1 1 0).toInt ≤ p1.toInt ∧ p1.toInt ≤ 63 ∧ (σ0.1 1 0).toInt = (σ0.1 1 0).toInt ∧ p1.toInt = p1.toInt)) by omega)⟩
  refine zr_iconst hB dX8_now_18 rfl (fun c11 ec11 => ?_)
  exact zr_iret hG dX8_now_19 ⟨hO0, hA0, by omega, by omega, (show (((p1.toInt < 0 ∨ p1.toInt < (σ0.1 1 0).toInt ∨ 63 < p1.toInt) ∧ c11.toInt = -1 ∧ (σ0.1 1 0).toInt = (σ0.1 1 0).toInt) ∨ (0 ≤ p1.toInt ∧ (σ0.1 1 0).toInt ≤ p1.toInt ∧ p1.toInt ≤ 63 ∧ c11.toInt = (σ0.1 1 0).toInt ∧ (σ0.1 1 0).toInt = p1.toInt)) by omega)⟩

def m_X8_figure_0 : zc_ms := [(1, some 1), (11, none), (12, none), (13, none), (14, none)]
set_option maxHeartbeats 1000000 in
set_option maxRecDepth 100000 in
theorem c_X8_figure_0 (K : zc_K) (hi : zc_inj shX K.2.2.2.1) (σ0 : zc_S) (p1 : Int32) (p2 : Int32) (p3 : Int32) (hO0 : zc_O okX σ0)  : zc_M shX K yX8_figure cX8_figure 6 (some .int) (zrm 2 45) σ0 [.ref (zk K 0), .int p1, .int p2, .int p3] (zc_I (fun r9 σ9 => zc_O okX σ9 ∧ zc_Ag m_X8_figure_0 σ0 σ9 ∧ (-7) ≤ r9.toInt ∧ r9.toInt ≤ 999 ∧ ((¬ (0 ≤ p1.toInt ∧ p1.toInt ≤ 3 ∧ 0 ≤ p2.toInt ∧ p2.toInt ≤ 63 ∧ p2.toInt ≤ (σ0.1 1 0).toInt ∧ (p3.toInt = -4 ∨ (0 ≤ p3.toInt ∧ p3.toInt ≤ 999))) ∧ r9.toInt = -5 ∧ σ9 = σ0) ∨ ((0 ≤ p1.toInt ∧ p1.toInt ≤ 3 ∧ 0 ≤ p2.toInt ∧ p2.toInt ≤ 63 ∧ p2.toInt ≤ (σ0.1 1 0).toInt ∧ (p3.toInt = -4 ∨ (0 ≤ p3.toInt ∧ p3.toInt ≤ 999))) ∧ 200 ≤ (σ0.1 1 1).toInt ∧ r9.toInt = -7 ∧ σ9 = σ0) ∨ ((0 ≤ p1.toInt ∧ p1.toInt ≤ 3 ∧ 0 ≤ p2.toInt ∧ p2.toInt ≤ 63 ∧ p2.toInt ≤ (σ0.1 1 0).toInt ∧ (p3.toInt = -4 ∨ (0 ≤ p3.toInt ∧ p3.toInt ≤ 999))) ∧ (σ0.1 1 1).toInt < 200 ∧ r9.toInt = zx_A σ0 (p1.toInt * 64 + p2.toInt).toNat (σ0.1 1 0).toInt ∧ (zx_C σ0 → zx_T σ0 σ9 (p1.toInt * 64 + p2.toInt).toNat p3.toInt))))) := by
  refine zc_start RX8 hi pfX8_figure rfl (Nat.le_of_ble_eq_true rfl) ?_
  intro G hG
  have hB := hG.1
  have hA0 : zc_Ag m_X8_figure_0 σ0 σ0 := zc_Ag.rf
  show zc_V 6 K G (zc_D shX K G σ0) [(0, .ref (zk K 0)), (1, .int p1), (2, .int p2), (3, .int p3)] 0 []
  refine zr_iload_n hB 3 dX8_figure_0 rfl ?_
  refine zr_bipush hB dX8_figure_1 rfl (fun c1 ec1 => ?_)
  refine zr_icmp_eq hB dX8_figure_3 (tgt := 17) rfl (fun c2 => ?_) (fun c2 => ?_)
  · refine zr_iconst hB dX8_figure_17 rfl (fun c3 ec3 => ?_)
    refine zr_goto hB dX8_figure_18 (tgt := 22) rfl ?_
    refine zr_istore hB dX8_figure_22 (by decide) (lv' := [(4, .int c3), (0, .ref (zk K 0)), (1, .int p1), (2, .int p2), (3, .int p3)]) rfl ?_
    refine zr_iload_n hB 2 dX8_figure_24 rfl ?_
    refine zr_callsi hG (rest := []) dX8_figure_25 wm_X8_70 (c_X8_isShop K hG.2.2.2.2.2.1 σ0 p1 hO0 ) rfl rfl (Nat.le_of_ble_eq_true rfl) ⟨Nat.le_of_ble_eq_true rfl, Nat.le_of_ble_eq_true rfl, rfl, rfl⟩ (fun r4 σ5 h6 => ?_)
    obtain ⟨rfl, r4q⟩ := h6
    have r4z := r4q.b
    refine zr_if_eq hB dX8_figure_28 (tgt := 54) rfl (fun c7 => ?_) (fun c7 => ?_)
    · have q8 := r4q.f c7
      refine zr_bipush hB dX8_figure_54 rfl (fun c9 ec9 => ?_)
      exact zr_iret hG dX8_figure_56 ⟨hO0, hA0, by omega, by omega, (by first | (exfalso; omega) | exact Or.inl ⟨by omega, by omega, by first | rfl | assumption⟩ | exact Or.inr (Or.inl ⟨by omega, by omega, by omega, by first | rfl | assumption⟩) | exact Or.inr (Or.inr (⟨by omega, by omega, by omega, by exact zx_or trivial (by omega)⟩)))⟩
    have q10 := r4q.t c7
    refine zr_iload_n hB 3 dX8_figure_31 rfl ?_
    refine zr_callsi hG (rest := []) dX8_figure_32 wm_X8_62 (c_X8_isDay K hG.2.2.2.2.2.1 σ0 p2 hO0 ) rfl rfl (Nat.le_of_ble_eq_true rfl) ⟨Nat.le_of_ble_eq_true rfl, Nat.le_of_ble_eq_true rfl, rfl, rfl⟩ (fun r11 σ12 h13 => ?_)
    obtain ⟨rfl, r11q⟩ := h13
    have r11z := r11q.b
    refine zr_if_eq hB dX8_figure_35 (tgt := 54) rfl (fun c14 => ?_) (fun c14 => ?_)
    · have q15 := r11q.f c14
      refine zr_bipush hB dX8_figure_54 rfl (fun c16 ec16 => ?_)
      exact zr_iret hG dX8_figure_56 ⟨hO0, hA0, by omega, by omega, (by first | (exfalso; omega) | exact Or.inl ⟨by omega, by omega, by first | rfl | assumption⟩ | exact Or.inr (Or.inl ⟨by omega, by omega, by omega, by first | rfl | assumption⟩) | exact Or.inr (Or.inr (⟨by omega, by omega, by omega, by exact zx_or trivial (by omega)⟩)))⟩
    have q17 := r11q.t c14
    refine zr_iload_n hB 3 dX8_figure_38 rfl ?_
    refine zr_aload_n hB 1 dX8_figure_39 rfl ?_
    refine zr_getr hG 0 0 dX8_figure_40 rfl wf_X8_15 rfl ?_
    refine zr_geti' hG 1 0 (σ0.1 1 0) dX8_figure_43 rfl wf_X8_66 rfl rfl ?_
    have b18 : 0 ≤ (σ0.1 1 0).toInt ∧ (σ0.1 1 0).toInt ≤ 63 := ⟨(hO0 1 0).1, (hO0 1 0).2.1⟩
    refine zr_icmp_gt hB dX8_figure_46 (tgt := 54) rfl (fun c19 => ?_) (fun c19 => ?_)
    · refine zr_bipush hB dX8_figure_54 rfl (fun c20 ec20 => ?_)
      exact zr_iret hG dX8_figure_56 ⟨hO0, hA0, by omega, by omega, (by first | (exfalso; omega) | exact Or.inl ⟨by omega, by omega, by first | rfl | assumption⟩ | exact Or.inr (Or.inl ⟨by omega, by omega, by omega, by first | rfl | assumption⟩) | exact Or.inr (Or.inr (⟨by omega, by omega, by omega, by exact zx_or trivial (by omega)⟩)))⟩
    refine zr_iload hB 0 dX8_figure_49 rfl ?_
    refine zr_if_ne hB dX8_figure_51 (tgt := 57) rfl (fun c21 => ?_) (fun c21 => ?_)
    · refine zr_aload_n hB 1 dX8_figure_57 rfl ?_
      refine zr_getr hG 0 0 dX8_figure_58 rfl wf_X8_15 rfl ?_
      refine zr_geti' hG 1 1 (σ0.1 1 1) dX8_figure_61 rfl wf_X8_73 rfl rfl ?_
      have b22 : 0 ≤ (σ0.1 1 1).toInt ∧ (σ0.1 1 1).toInt ≤ 200 := ⟨(hO0 1 1).1, (hO0 1 1).2.1⟩
      refine zr_sipush hB dX8_figure_64 rfl (fun c23 ec23 => ?_)
      refine zr_icmp_lt hB dX8_figure_67 (tgt := 73) rfl (fun c24 => ?_) (fun c24 => ?_)
      · refine zr_aload_n hB 1 dX8_figure_73 rfl ?_
        refine zr_getr hG 0 0 dX8_figure_74 rfl wf_X8_15 rfl ?_
        refine zr_iload_n hB 2 dX8_figure_77 rfl ?_
        refine zr_iload_n hB 3 dX8_figure_78 rfl ?_
        refine zr_aload_n hB 1 dX8_figure_79 rfl ?_
        refine zr_getr hG 0 0 dX8_figure_80 rfl wf_X8_15 rfl ?_
        refine zr_geti' hG 1 0 (σ0.1 1 0) dX8_figure_83 rfl wf_X8_66 rfl rfl ?_
        refine zr_callvi hG (rest := []) 1 dX8_figure_86 wm_X8_76 rfl rfl (c_X4_valueOn_1 K hG.2.2.2.2.2.1 σ0 p1 p2 (σ0.1 1 0) hO0 ) rfl rfl (Nat.le_of_ble_eq_true rfl) ⟨Nat.le_of_ble_eq_true rfl, Nat.le_of_ble_eq_true rfl, rfl, rfl⟩ (fun r25 σ26 h27 => ?_)
        obtain ⟨rfl, r25a, r25b, r25h, g28⟩ := h27
        refine zr_istore hB dX8_figure_89 (by decide) (lv' := [(5, .int r25), (4, .int c3), (0, .ref (zk K 0)), (1, .int p1), (2, .int p2), (3, .int p3)]) rfl ?_
        refine zr_aload_n hB 2 dX8_figure_91 rfl ?_
        refine zr_getr hG 0 0 dX8_figure_92 rfl wf_X8_15 rfl ?_
        refine zr_iload_n hB 3 dX8_figure_95 rfl ?_
        refine zr_iload_n hB 4 dX8_figure_96 rfl ?_
        refine zr_iload_n hB 5 dX8_figure_97 rfl ?_
        refine zr_callvn hG (rest := []) 1 dX8_figure_98 wm_X8_80 rfl rfl (c_X4_tell_1 K hG.2.2.2.2.2.1 σ0 p1 p2 p3 hO0 (by omega) (by omega) (by omega)) rfl rfl (Nat.le_of_ble_eq_true rfl) ⟨Nat.le_of_ble_eq_true rfl, Nat.le_of_ble_eq_true rfl, rfl, rfl⟩ (fun σ30 h31 => ?_)
        obtain ⟨hO32, hAc33, g34⟩ := h31
        have hA35 := zc_Ag.tr hA0 hAc33 rfl
        have q36 : (σ30.1 1 0).toInt = (σ0.1 1 0).toInt := congrArg Int32.toInt (hAc33 1 0 rfl).1
        refine zr_iload hB 0 dX8_figure_101 rfl ?_
        exact zr_iret hG dX8_figure_103 ⟨hO32, hA35, by omega, by omega, (by first | (exfalso; omega) | exact Or.inl ⟨by omega, by omega, by first | rfl | assumption⟩ | exact Or.inr (Or.inl ⟨by omega, by omega, by omega, by first | rfl | assumption⟩) | exact Or.inr (Or.inr (⟨by omega, by omega, by omega, by exact zx_or g34 (by omega)⟩)))⟩
      refine zr_bipush hB dX8_figure_70 rfl (fun c37 ec37 => ?_)
      exact zr_iret hG dX8_figure_72 ⟨hO0, hA0, by omega, by omega, (by first | (exfalso; omega) | exact Or.inl ⟨by omega, by omega, by first | rfl | assumption⟩ | exact Or.inr (Or.inl ⟨by omega, by omega, by omega, by first | rfl | assumption⟩) | exact Or.inr (Or.inr (⟨by omega, by omega, by omega, by exact zx_or trivial (by omega)⟩)))⟩
    exfalso; omega
  refine zr_iload_n hB 3 dX8_figure_6 rfl ?_
  refine zr_if_lt hB dX8_figure_7 (tgt := 21) rfl (fun c38 => ?_) (fun c38 => ?_)
  · refine zr_iconst hB dX8_figure_21 rfl (fun c39 ec39 => ?_)
    refine zr_istore hB dX8_figure_22 (by decide) (lv' := [(4, .int c39), (0, .ref (zk K 0)), (1, .int p1), (2, .int p2), (3, .int p3)]) rfl ?_
    refine zr_iload_n hB 2 dX8_figure_24 rfl ?_
    refine zr_callsi hG (rest := []) dX8_figure_25 wm_X8_70 (c_X8_isShop K hG.2.2.2.2.2.1 σ0 p1 hO0 ) rfl rfl (Nat.le_of_ble_eq_true rfl) ⟨Nat.le_of_ble_eq_true rfl, Nat.le_of_ble_eq_true rfl, rfl, rfl⟩ (fun r40 σ41 h42 => ?_)
    obtain ⟨rfl, r40q⟩ := h42
    have r40z := r40q.b
    refine zr_if_eq hB dX8_figure_28 (tgt := 54) rfl (fun c43 => ?_) (fun c43 => ?_)
    · have q44 := r40q.f c43
      refine zr_bipush hB dX8_figure_54 rfl (fun c45 ec45 => ?_)
      exact zr_iret hG dX8_figure_56 ⟨hO0, hA0, by omega, by omega, (by first | (exfalso; omega) | exact Or.inl ⟨by omega, by omega, by first | rfl | assumption⟩ | exact Or.inr (Or.inl ⟨by omega, by omega, by omega, by first | rfl | assumption⟩) | exact Or.inr (Or.inr (⟨by omega, by omega, by omega, by exact zx_or trivial (by omega)⟩)))⟩
    have q46 := r40q.t c43
    refine zr_iload_n hB 3 dX8_figure_31 rfl ?_
    refine zr_callsi hG (rest := []) dX8_figure_32 wm_X8_62 (c_X8_isDay K hG.2.2.2.2.2.1 σ0 p2 hO0 ) rfl rfl (Nat.le_of_ble_eq_true rfl) ⟨Nat.le_of_ble_eq_true rfl, Nat.le_of_ble_eq_true rfl, rfl, rfl⟩ (fun r47 σ48 h49 => ?_)
    obtain ⟨rfl, r47q⟩ := h49
    have r47z := r47q.b
    refine zr_if_eq hB dX8_figure_35 (tgt := 54) rfl (fun c50 => ?_) (fun c50 => ?_)
    · have q51 := r47q.f c50
      refine zr_bipush hB dX8_figure_54 rfl (fun c52 ec52 => ?_)
      exact zr_iret hG dX8_figure_56 ⟨hO0, hA0, by omega, by omega, (by first | (exfalso; omega) | exact Or.inl ⟨by omega, by omega, by first | rfl | assumption⟩ | exact Or.inr (Or.inl ⟨by omega, by omega, by omega, by first | rfl | assumption⟩) | exact Or.inr (Or.inr (⟨by omega, by omega, by omega, by exact zx_or trivial (by omega)⟩)))⟩
    have q53 := r47q.t c50
    refine zr_iload_n hB 3 dX8_figure_38 rfl ?_
    refine zr_aload_n hB 1 dX8_figure_39 rfl ?_
    refine zr_getr hG 0 0 dX8_figure_40 rfl wf_X8_15 rfl ?_
    refine zr_geti' hG 1 0 (σ0.1 1 0) dX8_figure_43 rfl wf_X8_66 rfl rfl ?_
    have b54 : 0 ≤ (σ0.1 1 0).toInt ∧ (σ0.1 1 0).toInt ≤ 63 := ⟨(hO0 1 0).1, (hO0 1 0).2.1⟩
    refine zr_icmp_gt hB dX8_figure_46 (tgt := 54) rfl (fun c55 => ?_) (fun c55 => ?_)
    · refine zr_bipush hB dX8_figure_54 rfl (fun c56 ec56 => ?_)
      exact zr_iret hG dX8_figure_56 ⟨hO0, hA0, by omega, by omega, (by first | (exfalso; omega) | exact Or.inl ⟨by omega, by omega, by first | rfl | assumption⟩ | exact Or.inr (Or.inl ⟨by omega, by omega, by omega, by first | rfl | assumption⟩) | exact Or.inr (Or.inr (⟨by omega, by omega, by omega, by exact zx_or trivial (by omega)⟩)))⟩
    refine zr_iload hB 0 dX8_figure_49 rfl ?_
    refine zr_if_ne hB dX8_figure_51 (tgt := 57) rfl (fun c57 => ?_) (fun c57 => ?_)
    · exfalso; omega
    refine zr_bipush hB dX8_figure_54 rfl (fun c58 ec58 => ?_)
    exact zr_iret hG dX8_figure_56 ⟨hO0, hA0, by omega, by omega, (by first | (exfalso; omega) | exact Or.inl ⟨by omega, by omega, by first | rfl | assumption⟩ | exact Or.inr (Or.inl ⟨by omega, by omega, by omega, by first | rfl | assumption⟩) | exact Or.inr (Or.inr (⟨by omega, by omega, by omega, by exact zx_or trivial (by omega)⟩)))⟩
  refine zr_iload_n hB 3 dX8_figure_10 rfl ?_
  refine zr_sipush hB dX8_figure_11 rfl (fun c59 ec59 => ?_)
  refine zr_icmp_gt hB dX8_figure_14 (tgt := 21) rfl (fun c60 => ?_) (fun c60 => ?_)
  · refine zr_iconst hB dX8_figure_21 rfl (fun c61 ec61 => ?_)
    refine zr_istore hB dX8_figure_22 (by decide) (lv' := [(4, .int c61), (0, .ref (zk K 0)), (1, .int p1), (2, .int p2), (3, .int p3)]) rfl ?_
    refine zr_iload_n hB 2 dX8_figure_24 rfl ?_
    refine zr_callsi hG (rest := []) dX8_figure_25 wm_X8_70 (c_X8_isShop K hG.2.2.2.2.2.1 σ0 p1 hO0 ) rfl rfl (Nat.le_of_ble_eq_true rfl) ⟨Nat.le_of_ble_eq_true rfl, Nat.le_of_ble_eq_true rfl, rfl, rfl⟩ (fun r62 σ63 h64 => ?_)
    obtain ⟨rfl, r62q⟩ := h64
    have r62z := r62q.b
    refine zr_if_eq hB dX8_figure_28 (tgt := 54) rfl (fun c65 => ?_) (fun c65 => ?_)
    · have q66 := r62q.f c65
      refine zr_bipush hB dX8_figure_54 rfl (fun c67 ec67 => ?_)
      exact zr_iret hG dX8_figure_56 ⟨hO0, hA0, by omega, by omega, (by first | (exfalso; omega) | exact Or.inl ⟨by omega, by omega, by first | rfl | assumption⟩ | exact Or.inr (Or.inl ⟨by omega, by omega, by omega, by first | rfl | assumption⟩) | exact Or.inr (Or.inr (⟨by omega, by omega, by omega, by exact zx_or trivial (by omega)⟩)))⟩
    have q68 := r62q.t c65
    refine zr_iload_n hB 3 dX8_figure_31 rfl ?_
    refine zr_callsi hG (rest := []) dX8_figure_32 wm_X8_62 (c_X8_isDay K hG.2.2.2.2.2.1 σ0 p2 hO0 ) rfl rfl (Nat.le_of_ble_eq_true rfl) ⟨Nat.le_of_ble_eq_true rfl, Nat.le_of_ble_eq_true rfl, rfl, rfl⟩ (fun r69 σ70 h71 => ?_)
    obtain ⟨rfl, r69q⟩ := h71
    have r69z := r69q.b
    refine zr_if_eq hB dX8_figure_35 (tgt := 54) rfl (fun c72 => ?_) (fun c72 => ?_)
    · have q73 := r69q.f c72
      refine zr_bipush hB dX8_figure_54 rfl (fun c74 ec74 => ?_)
      exact zr_iret hG dX8_figure_56 ⟨hO0, hA0, by omega, by omega, (by first | (exfalso; omega) | exact Or.inl ⟨by omega, by omega, by first | rfl | assumption⟩ | exact Or.inr (Or.inl ⟨by omega, by omega, by omega, by first | rfl | assumption⟩) | exact Or.inr (Or.inr (⟨by omega, by omega, by omega, by exact zx_or trivial (by omega)⟩)))⟩
    have q75 := r69q.t c72
    refine zr_iload_n hB 3 dX8_figure_38 rfl ?_
    refine zr_aload_n hB 1 dX8_figure_39 rfl ?_
    refine zr_getr hG 0 0 dX8_figure_40 rfl wf_X8_15 rfl ?_
    refine zr_geti' hG 1 0 (σ0.1 1 0) dX8_figure_43 rfl wf_X8_66 rfl rfl ?_
    have b76 : 0 ≤ (σ0.1 1 0).toInt ∧ (σ0.1 1 0).toInt ≤ 63 := ⟨(hO0 1 0).1, (hO0 1 0).2.1⟩
    refine zr_icmp_gt hB dX8_figure_46 (tgt := 54) rfl (fun c77 => ?_) (fun c77 => ?_)
    · refine zr_bipush hB dX8_figure_54 rfl (fun c78 ec78 => ?_)
      exact zr_iret hG dX8_figure_56 ⟨hO0, hA0, by omega, by omega, (by first | (exfalso; omega) | exact Or.inl ⟨by omega, by omega, by first | rfl | assumption⟩ | exact Or.inr (Or.inl ⟨by omega, by omega, by omega, by first | rfl | assumption⟩) | exact Or.inr (Or.inr (⟨by omega, by omega, by omega, by exact zx_or trivial (by omega)⟩)))⟩
    refine zr_iload hB 0 dX8_figure_49 rfl ?_
    refine zr_if_ne hB dX8_figure_51 (tgt := 57) rfl (fun c79 => ?_) (fun c79 => ?_)
    · exfalso; omega
    refine zr_bipush hB dX8_figure_54 rfl (fun c80 ec80 => ?_)
    exact zr_iret hG dX8_figure_56 ⟨hO0, hA0, by omega, by omega, (by first | (exfalso; omega) | exact Or.inl ⟨by omega, by omega, by first | rfl | assumption⟩ | exact Or.inr (Or.inl ⟨by omega, by omega, by omega, by first | rfl | assumption⟩) | exact Or.inr (Or.inr (⟨by omega, by omega, by omega, by exact zx_or trivial (by omega)⟩)))⟩
  refine zr_iconst hB dX8_figure_17 rfl (fun c81 ec81 => ?_)
  refine zr_goto hB dX8_figure_18 (tgt := 22) rfl ?_
  refine zr_istore hB dX8_figure_22 (by decide) (lv' := [(4, .int c81), (0, .ref (zk K 0)), (1, .int p1), (2, .int p2), (3, .int p3)]) rfl ?_
  refine zr_iload_n hB 2 dX8_figure_24 rfl ?_
  refine zr_callsi hG (rest := []) dX8_figure_25 wm_X8_70 (c_X8_isShop K hG.2.2.2.2.2.1 σ0 p1 hO0 ) rfl rfl (Nat.le_of_ble_eq_true rfl) ⟨Nat.le_of_ble_eq_true rfl, Nat.le_of_ble_eq_true rfl, rfl, rfl⟩ (fun r82 σ83 h84 => ?_)
  obtain ⟨rfl, r82q⟩ := h84
  have r82z := r82q.b
  refine zr_if_eq hB dX8_figure_28 (tgt := 54) rfl (fun c85 => ?_) (fun c85 => ?_)
  · have q86 := r82q.f c85
    refine zr_bipush hB dX8_figure_54 rfl (fun c87 ec87 => ?_)
    exact zr_iret hG dX8_figure_56 ⟨hO0, hA0, by omega, by omega, (by first | (exfalso; omega) | exact Or.inl ⟨by omega, by omega, by first | rfl | assumption⟩ | exact Or.inr (Or.inl ⟨by omega, by omega, by omega, by first | rfl | assumption⟩) | exact Or.inr (Or.inr (⟨by omega, by omega, by omega, by exact zx_or trivial (by omega)⟩)))⟩
  have q88 := r82q.t c85
  refine zr_iload_n hB 3 dX8_figure_31 rfl ?_
  refine zr_callsi hG (rest := []) dX8_figure_32 wm_X8_62 (c_X8_isDay K hG.2.2.2.2.2.1 σ0 p2 hO0 ) rfl rfl (Nat.le_of_ble_eq_true rfl) ⟨Nat.le_of_ble_eq_true rfl, Nat.le_of_ble_eq_true rfl, rfl, rfl⟩ (fun r89 σ90 h91 => ?_)
  obtain ⟨rfl, r89q⟩ := h91
  have r89z := r89q.b
  refine zr_if_eq hB dX8_figure_35 (tgt := 54) rfl (fun c92 => ?_) (fun c92 => ?_)
  · have q93 := r89q.f c92
    refine zr_bipush hB dX8_figure_54 rfl (fun c94 ec94 => ?_)
    exact zr_iret hG dX8_figure_56 ⟨hO0, hA0, by omega, by omega, (by first | (exfalso; omega) | exact Or.inl ⟨by omega, by omega, by first | rfl | assumption⟩ | exact Or.inr (Or.inl ⟨by omega, by omega, by omega, by first | rfl | assumption⟩) | exact Or.inr (Or.inr (⟨by omega, by omega, by omega, by exact zx_or trivial (by omega)⟩)))⟩
  have q95 := r89q.t c92
  refine zr_iload_n hB 3 dX8_figure_38 rfl ?_
  refine zr_aload_n hB 1 dX8_figure_39 rfl ?_
  refine zr_getr hG 0 0 dX8_figure_40 rfl wf_X8_15 rfl ?_
  refine zr_geti' hG 1 0 (σ0.1 1 0) dX8_figure_43 rfl wf_X8_66 rfl rfl ?_
  have b96 : 0 ≤ (σ0.1 1 0).toInt ∧ (σ0.1 1 0).toInt ≤ 63 := ⟨(hO0 1 0).1, (hO0 1 0).2.1⟩
  refine zr_icmp_gt hB dX8_figure_46 (tgt := 54) rfl (fun c97 => ?_) (fun c97 => ?_)
  · refine zr_bipush hB dX8_figure_54 rfl (fun c98 ec98 => ?_)
    exact zr_iret hG dX8_figure_56 ⟨hO0, hA0, by omega, by omega, (by first | (exfalso; omega) | exact Or.inl ⟨by omega, by omega, by first | rfl | assumption⟩ | exact Or.inr (Or.inl ⟨by omega, by omega, by omega, by first | rfl | assumption⟩) | exact Or.inr (Or.inr (⟨by omega, by omega, by omega, by exact zx_or trivial (by omega)⟩)))⟩
  refine zr_iload hB 0 dX8_figure_49 rfl ?_
  refine zr_if_ne hB dX8_figure_51 (tgt := 57) rfl (fun c99 => ?_) (fun c99 => ?_)
  · refine zr_aload_n hB 1 dX8_figure_57 rfl ?_
    refine zr_getr hG 0 0 dX8_figure_58 rfl wf_X8_15 rfl ?_
    refine zr_geti' hG 1 1 (σ0.1 1 1) dX8_figure_61 rfl wf_X8_73 rfl rfl ?_
    have b100 : 0 ≤ (σ0.1 1 1).toInt ∧ (σ0.1 1 1).toInt ≤ 200 := ⟨(hO0 1 1).1, (hO0 1 1).2.1⟩
    refine zr_sipush hB dX8_figure_64 rfl (fun c101 ec101 => ?_)
    refine zr_icmp_lt hB dX8_figure_67 (tgt := 73) rfl (fun c102 => ?_) (fun c102 => ?_)
    · refine zr_aload_n hB 1 dX8_figure_73 rfl ?_
      refine zr_getr hG 0 0 dX8_figure_74 rfl wf_X8_15 rfl ?_
      refine zr_iload_n hB 2 dX8_figure_77 rfl ?_
      refine zr_iload_n hB 3 dX8_figure_78 rfl ?_
      refine zr_aload_n hB 1 dX8_figure_79 rfl ?_
      refine zr_getr hG 0 0 dX8_figure_80 rfl wf_X8_15 rfl ?_
      refine zr_geti' hG 1 0 (σ0.1 1 0) dX8_figure_83 rfl wf_X8_66 rfl rfl ?_
      refine zr_callvi hG (rest := []) 1 dX8_figure_86 wm_X8_76 rfl rfl (c_X4_valueOn_1 K hG.2.2.2.2.2.1 σ0 p1 p2 (σ0.1 1 0) hO0 ) rfl rfl (Nat.le_of_ble_eq_true rfl) ⟨Nat.le_of_ble_eq_true rfl, Nat.le_of_ble_eq_true rfl, rfl, rfl⟩ (fun r103 σ104 h105 => ?_)
      obtain ⟨rfl, r103a, r103b, r103h, g106⟩ := h105
      refine zr_istore hB dX8_figure_89 (by decide) (lv' := [(5, .int r103), (4, .int c81), (0, .ref (zk K 0)), (1, .int p1), (2, .int p2), (3, .int p3)]) rfl ?_
      refine zr_aload_n hB 2 dX8_figure_91 rfl ?_
      refine zr_getr hG 0 0 dX8_figure_92 rfl wf_X8_15 rfl ?_
      refine zr_iload_n hB 3 dX8_figure_95 rfl ?_
      refine zr_iload_n hB 4 dX8_figure_96 rfl ?_
      refine zr_iload_n hB 5 dX8_figure_97 rfl ?_
      refine zr_callvn hG (rest := []) 1 dX8_figure_98 wm_X8_80 rfl rfl (c_X4_tell_1 K hG.2.2.2.2.2.1 σ0 p1 p2 p3 hO0 (by omega) (by omega) (by omega)) rfl rfl (Nat.le_of_ble_eq_true rfl) ⟨Nat.le_of_ble_eq_true rfl, Nat.le_of_ble_eq_true rfl, rfl, rfl⟩ (fun σ108 h109 => ?_)
      obtain ⟨hO110, hAc111, g112⟩ := h109
      have hA113 := zc_Ag.tr hA0 hAc111 rfl
      have q114 : (σ108.1 1 0).toInt = (σ0.1 1 0).toInt := congrArg Int32.toInt (hAc111 1 0 rfl).1
      refine zr_iload hB 0 dX8_figure_101 rfl ?_
      exact zr_iret hG dX8_figure_103 ⟨hO110, hA113, by omega, by omega, (by first | (exfalso; omega) | exact Or.inl ⟨by omega, by omega, by first | rfl | assumption⟩ | exact Or.inr (Or.inl ⟨by omega, by omega, by omega, by first | rfl | assumption⟩) | exact Or.inr (Or.inr (⟨by omega, by omega, by omega, by exact zx_or g112 (by omega)⟩)))⟩
    refine zr_bipush hB dX8_figure_70 rfl (fun c115 ec115 => ?_)
    exact zr_iret hG dX8_figure_72 ⟨hO0, hA0, by omega, by omega, (by first | (exfalso; omega) | exact Or.inl ⟨by omega, by omega, by first | rfl | assumption⟩ | exact Or.inr (Or.inl ⟨by omega, by omega, by omega, by first | rfl | assumption⟩) | exact Or.inr (Or.inr (⟨by omega, by omega, by omega, by exact zx_or trivial (by omega)⟩)))⟩
  exfalso; omega

set_option maxHeartbeats 1000000 in
set_option maxRecDepth 100000 in
theorem c_X8_known_0 (K : zc_K) (hi : zc_inj shX K.2.2.2.1) (σ0 : zc_S) (p1 : Int32) (p2 : Int32) (p3 : Int32) (hO0 : zc_O okX σ0)  : zc_M shX K yX8_known cX8_known 4 (some .int) (zrm 2 45) σ0 [.ref (zk K 0), .int p1, .int p2, .int p3] (zc_I (fun r9 σ9 => σ0 = σ9 ∧ (-4) ≤ r9.toInt ∧ r9.toInt ≤ 999 ∧ ((¬ (0 ≤ p1.toInt ∧ p1.toInt ≤ 3 ∧ 0 ≤ p2.toInt ∧ p2.toInt ≤ 63 ∧ 0 ≤ p3.toInt ∧ p3.toInt ≤ 63) ∧ r9.toInt = -1) ∨ ((0 ≤ p1.toInt ∧ p1.toInt ≤ 3 ∧ 0 ≤ p2.toInt ∧ p2.toInt ≤ 63 ∧ 0 ≤ p3.toInt ∧ p3.toInt ≤ 63) ∧ r9.toInt = zx_A σ0 (p1.toInt * 64 + p2.toInt).toNat p3.toInt)))) := by
  refine zc_start RX8 hi pfX8_known rfl (Nat.le_of_ble_eq_true rfl) ?_
  intro G hG
  have hB := hG.1
  show zc_V 4 K G (zc_D shX K G σ0) [(0, .ref (zk K 0)), (1, .int p1), (2, .int p2), (3, .int p3)] 0 []
  refine zr_iload_n hB 1 dX8_known_0 rfl ?_
  refine zr_callsi hG (rest := []) dX8_known_1 wm_X8_70 (c_X8_isShop K hG.2.2.2.2.2.1 σ0 p1 hO0 ) rfl rfl (Nat.le_of_ble_eq_true rfl) ⟨Nat.le_of_ble_eq_true rfl, Nat.le_of_ble_eq_true rfl, rfl, rfl⟩ (fun r1 σ2 h3 => ?_)
  obtain ⟨rfl, r1q⟩ := h3
  have r1z := r1q.b
  refine zr_if_eq hB dX8_known_4 (tgt := 21) rfl (fun c4 => ?_) (fun c4 => ?_)
  · have q5 := r1q.f c4
    refine zr_iconst hB dX8_known_21 rfl (fun c6 ec6 => ?_)
    exact zr_iret hG dX8_known_22 ⟨rfl, by omega, by omega, by omega⟩
  have q7 := r1q.t c4
  refine zr_iload_n hB 2 dX8_known_7 rfl ?_
  refine zr_callsi hG (rest := []) dX8_known_8 wm_X8_62 (c_X8_isDay K hG.2.2.2.2.2.1 σ0 p2 hO0 ) rfl rfl (Nat.le_of_ble_eq_true rfl) ⟨Nat.le_of_ble_eq_true rfl, Nat.le_of_ble_eq_true rfl, rfl, rfl⟩ (fun r8 σ9 h10 => ?_)
  obtain ⟨rfl, r8q⟩ := h10
  have r8z := r8q.b
  refine zr_if_eq hB dX8_known_11 (tgt := 21) rfl (fun c11 => ?_) (fun c11 => ?_)
  · have q12 := r8q.f c11
    refine zr_iconst hB dX8_known_21 rfl (fun c13 ec13 => ?_)
    exact zr_iret hG dX8_known_22 ⟨rfl, by omega, by omega, by omega⟩
  have q14 := r8q.t c11
  refine zr_iload_n hB 3 dX8_known_14 rfl ?_
  refine zr_callsi hG (rest := []) dX8_known_15 wm_X8_62 (c_X8_isDay K hG.2.2.2.2.2.1 σ0 p3 hO0 ) rfl rfl (Nat.le_of_ble_eq_true rfl) ⟨Nat.le_of_ble_eq_true rfl, Nat.le_of_ble_eq_true rfl, rfl, rfl⟩ (fun r15 σ16 h17 => ?_)
  obtain ⟨rfl, r15q⟩ := h17
  have r15z := r15q.b
  refine zr_if_ne hB dX8_known_18 (tgt := 23) rfl (fun c18 => ?_) (fun c18 => ?_)
  · have q19 := r15q.t c18
    refine zr_aload_n hB 0 dX8_known_23 rfl ?_
    refine zr_getr hG 0 0 dX8_known_24 rfl wf_X8_15 rfl ?_
    refine zr_iload_n hB 1 dX8_known_27 rfl ?_
    refine zr_iload_n hB 2 dX8_known_28 rfl ?_
    refine zr_iload_n hB 3 dX8_known_29 rfl ?_
    refine zr_callvi hG (rest := []) 1 dX8_known_30 wm_X8_76 rfl rfl (c_X4_valueOn_1 K hG.2.2.2.2.2.1 σ0 p1 p2 p3 hO0 ) rfl rfl (Nat.le_of_ble_eq_true rfl) ⟨Nat.le_of_ble_eq_true rfl, Nat.le_of_ble_eq_true rfl, rfl, rfl⟩ (fun r20 σ21 h22 => ?_)
    obtain ⟨rfl, r20a, r20b, r20h, g23⟩ := h22
    exact zr_iret hG dX8_known_33 ⟨rfl, by omega, by omega, by omega⟩
  have q24 := r15q.f c18
  refine zr_iconst hB dX8_known_21 rfl (fun c25 ec25 => ?_)
  exact zr_iret hG dX8_known_22 ⟨rfl, by omega, by omega, by omega⟩

def m_X8_mark_0 : zc_ms := [(15, none), (16, none)]
set_option maxHeartbeats 1000000 in
set_option maxRecDepth 100000 in
theorem c_X8_mark_0 (K : zc_K) (hi : zc_inj shX K.2.2.2.1) (σ0 : zc_S) (p1 : Int32) (p2 : Int32) (p3 : Int32) (hO0 : zc_O okX σ0) (h3a : 0 ≤ p3.toInt) (h3b : p3.toInt ≤ 1) : zc_M shX K yX8_mark cX8_mark 6 (some .int) (zrm 1 20) σ0 [.ref (zk K 0), .int p1, .int p2, .int p3] (zc_I (fun r9 σ9 => zc_O okX σ9 ∧ zc_Ag m_X8_mark_0 σ0 σ9 ∧ (-1) ≤ r9.toInt ∧ r9.toInt ≤ 1 ∧ ((¬ (0 ≤ p1.toInt ∧ p1.toInt ≤ 1 ∧ 0 ≤ p2.toInt ∧ p2.toInt ≤ 63) ∧ r9.toInt = -1 ∧ σ9 = σ0) ∨ (p1.toInt = 0 ∧ 0 ≤ p2.toInt ∧ p2.toInt ≤ 63 ∧ r9.toInt = (σ0.1 15 p2.toInt.toNat).toInt ∧ σ9 = zc_u σ0 15 p2.toInt.toNat p3) ∨ (p1.toInt = 1 ∧ 0 ≤ p2.toInt ∧ p2.toInt ≤ 63 ∧ r9.toInt = (σ0.1 16 p2.toInt.toNat).toInt ∧ σ9 = zc_u σ0 16 p2.toInt.toNat p3)))) := by
  refine zc_start RX8 hi pfX8_mark rfl (Nat.le_of_ble_eq_true rfl) ?_
  intro G hG
  have hB := hG.1
  have hA0 : zc_Ag m_X8_mark_0 σ0 σ0 := zc_Ag.rf
  show zc_V 6 K G (zc_D shX K G σ0) [(0, .ref (zk K 0)), (1, .int p1), (2, .int p2), (3, .int p3)] 0 []
  refine zr_iload_n hB 1 dX8_mark_0 rfl ?_
  refine zr_if_lt hB dX8_mark_1 (tgt := 16) rfl (fun c1 => ?_) (fun c1 => ?_)
  · refine zr_iconst hB dX8_mark_16 rfl (fun c2 ec2 => ?_)
    exact zr_iret hG dX8_mark_17 ⟨hO0, hA0, by omega, by omega, (by first | (exfalso; omega) | exact Or.inl ⟨by omega, by omega, by first | rfl | assumption⟩ | exact Or.inr (Or.inl ⟨by omega, by omega, by omega, by omega, by first | rfl | assumption⟩) | exact Or.inr (Or.inr (⟨by omega, by omega, by omega, by omega, by first | rfl | assumption⟩)))⟩
  refine zr_iload_n hB 1 dX8_mark_4 rfl ?_
  refine zr_iconst hB dX8_mark_5 rfl (fun c3 ec3 => ?_)
  refine zr_icmp_gt hB dX8_mark_6 (tgt := 16) rfl (fun c4 => ?_) (fun c4 => ?_)
  · refine zr_iconst hB dX8_mark_16 rfl (fun c5 ec5 => ?_)
    exact zr_iret hG dX8_mark_17 ⟨hO0, hA0, by omega, by omega, (by first | (exfalso; omega) | exact Or.inl ⟨by omega, by omega, by first | rfl | assumption⟩ | exact Or.inr (Or.inl ⟨by omega, by omega, by omega, by omega, by first | rfl | assumption⟩) | exact Or.inr (Or.inr (⟨by omega, by omega, by omega, by omega, by first | rfl | assumption⟩)))⟩
  refine zr_iload_n hB 2 dX8_mark_9 rfl ?_
  refine zr_callsi hG (rest := []) dX8_mark_10 wm_X8_62 (c_X8_isDay K hG.2.2.2.2.2.1 σ0 p2 hO0 ) rfl rfl (Nat.le_of_ble_eq_true rfl) ⟨Nat.le_of_ble_eq_true rfl, Nat.le_of_ble_eq_true rfl, rfl, rfl⟩ (fun r6 σ7 h8 => ?_)
  obtain ⟨rfl, r6q⟩ := h8
  have r6z := r6q.b
  refine zr_if_ne hB dX8_mark_13 (tgt := 18) rfl (fun c9 => ?_) (fun c9 => ?_)
  · have q10 := r6q.t c9
    refine zr_iload_n hB 1 dX8_mark_18 rfl ?_
    refine zr_if_ne hB dX8_mark_19 (tgt := 32) rfl (fun c11 => ?_) (fun c11 => ?_)
    · refine zr_aload_n hB 0 dX8_mark_32 rfl ?_
      refine zr_getr hG 0 0 dX8_mark_33 rfl wf_X8_15 rfl ?_
      refine zr_getr hG 1 7 dX8_mark_36 rfl wf_X8_88 rfl ?_
      refine zr_astore hB dX8_mark_39 (by decide) (lv' := [(4, .ref (zk K 16)), (0, .ref (zk K 0)), (1, .int p1), (2, .int p2), (3, .int p3)]) rfl ?_
      refine zr_aload hB 0 dX8_mark_41 rfl ?_
      refine zr_iload_n hB 3 dX8_mark_43 rfl ?_
      refine zr_zald hG 16 dX8_mark_44 rfl (by omega) (by omega) (fun x12 ex12 => ?_)
      have bx12 : 0 ≤ x12.toInt ∧ x12.toInt ≤ 1 := by rw [ex12]; exact ⟨(hO0 16 _).1, (hO0 16 _).2.1⟩
      refine zr_if_eq hB dX8_mark_45 (tgt := 52) rfl (fun c13 => ?_) (fun c13 => ?_)
      · refine zr_iconst hB dX8_mark_52 rfl (fun c14 ec14 => ?_)
        refine zr_istore hB dX8_mark_53 (by decide) (lv' := [(5, .int c14), (4, .ref (zk K 16)), (0, .ref (zk K 0)), (1, .int p1), (2, .int p2), (3, .int p3)]) rfl ?_
        refine zr_aload hB 1 dX8_mark_55 rfl ?_
        refine zr_iload_n hB 4 dX8_mark_57 rfl ?_
        refine zr_iload_n hB 5 dX8_mark_58 rfl ?_
        refine zr_zast hG 16 dX8_mark_59 rfl (by omega) (by omega) (by omega) (by omega) ?_
        have hOw15 := zc_O.u hO0 16 p2.toInt.toNat (v := p3) (show 0 ≤ p3.toInt by omega) (show p3.toInt ≤ 1 by omega) (Or.inr (show 0 ≤ p3.toInt by omega))
        have hAw15 := zc_Ag.u hA0 16 p2.toInt.toNat p3 rfl
        refine zr_iload hB 0 dX8_mark_60 rfl ?_
        exact zr_iret hG dX8_mark_62 ⟨hOw15, hAw15, by omega, by omega, (by have hqx12 := congrArg Int32.toInt ex12; first | (exfalso; omega) | exact Or.inl ⟨by omega, by omega, by first | rfl | assumption⟩ | exact Or.inr (Or.inl ⟨by omega, by omega, by omega, by omega, by first | rfl | assumption⟩) | exact Or.inr (Or.inr (⟨by omega, by omega, by omega, by omega, by first | rfl | assumption⟩)))⟩
      refine zr_iconst hB dX8_mark_48 rfl (fun c16 ec16 => ?_)
      refine zr_goto hB dX8_mark_49 (tgt := 53) rfl ?_
      refine zr_istore hB dX8_mark_53 (by decide) (lv' := [(5, .int c16), (4, .ref (zk K 16)), (0, .ref (zk K 0)), (1, .int p1), (2, .int p2), (3, .int p3)]) rfl ?_
      refine zr_aload hB 1 dX8_mark_55 rfl ?_
      refine zr_iload_n hB 4 dX8_mark_57 rfl ?_
      refine zr_iload_n hB 5 dX8_mark_58 rfl ?_
      refine zr_zast hG 16 dX8_mark_59 rfl (by omega) (by omega) (by omega) (by omega) ?_
      have hOw17 := zc_O.u hO0 16 p2.toInt.toNat (v := p3) (show 0 ≤ p3.toInt by omega) (show p3.toInt ≤ 1 by omega) (Or.inr (show 0 ≤ p3.toInt by omega))
      have hAw17 := zc_Ag.u hA0 16 p2.toInt.toNat p3 rfl
      refine zr_iload hB 0 dX8_mark_60 rfl ?_
      exact zr_iret hG dX8_mark_62 ⟨hOw17, hAw17, by omega, by omega, (by have hqx12 := congrArg Int32.toInt ex12; first | (exfalso; omega) | exact Or.inl ⟨by omega, by omega, by first | rfl | assumption⟩ | exact Or.inr (Or.inl ⟨by omega, by omega, by omega, by omega, by first | rfl | assumption⟩) | exact Or.inr (Or.inr (⟨by omega, by omega, by omega, by omega, by first | rfl | assumption⟩)))⟩
    refine zr_aload_n hB 0 dX8_mark_22 rfl ?_
    refine zr_getr hG 0 0 dX8_mark_23 rfl wf_X8_15 rfl ?_
    refine zr_getr hG 1 6 dX8_mark_26 rfl wf_X8_84 rfl ?_
    refine zr_goto hB dX8_mark_29 (tgt := 39) rfl ?_
    refine zr_astore hB dX8_mark_39 (by decide) (lv' := [(4, .ref (zk K 15)), (0, .ref (zk K 0)), (1, .int p1), (2, .int p2), (3, .int p3)]) rfl ?_
    refine zr_aload hB 0 dX8_mark_41 rfl ?_
    refine zr_iload_n hB 3 dX8_mark_43 rfl ?_
    refine zr_zald hG 15 dX8_mark_44 rfl (by omega) (by omega) (fun x18 ex18 => ?_)
    have bx18 : 0 ≤ x18.toInt ∧ x18.toInt ≤ 1 := by rw [ex18]; exact ⟨(hO0 15 _).1, (hO0 15 _).2.1⟩
    refine zr_if_eq hB dX8_mark_45 (tgt := 52) rfl (fun c19 => ?_) (fun c19 => ?_)
    · refine zr_iconst hB dX8_mark_52 rfl (fun c20 ec20 => ?_)
      refine zr_istore hB dX8_mark_53 (by decide) (lv' := [(5, .int c20), (4, .ref (zk K 15)), (0, .ref (zk K 0)), (1, .int p1), (2, .int p2), (3, .int p3)]) rfl ?_
      refine zr_aload hB 1 dX8_mark_55 rfl ?_
      refine zr_iload_n hB 4 dX8_mark_57 rfl ?_
      refine zr_iload_n hB 5 dX8_mark_58 rfl ?_
      refine zr_zast hG 15 dX8_mark_59 rfl (by omega) (by omega) (by omega) (by omega) ?_
      have hOw21 := zc_O.u hO0 15 p2.toInt.toNat (v := p3) (show 0 ≤ p3.toInt by omega) (show p3.toInt ≤ 1 by omega) (Or.inr (show 0 ≤ p3.toInt by omega))
      have hAw21 := zc_Ag.u hA0 15 p2.toInt.toNat p3 rfl
      refine zr_iload hB 0 dX8_mark_60 rfl ?_
      exact zr_iret hG dX8_mark_62 ⟨hOw21, hAw21, by omega, by omega, (by have hqx18 := congrArg Int32.toInt ex18; first | (exfalso; omega) | exact Or.inl ⟨by omega, by omega, by first | rfl | assumption⟩ | exact Or.inr (Or.inl ⟨by omega, by omega, by omega, by omega, by first | rfl | assumption⟩) | exact Or.inr (Or.inr (⟨by omega, by omega, by omega, by omega, by first | rfl | assumption⟩)))⟩
    refine zr_iconst hB dX8_mark_48 rfl (fun c22 ec22 => ?_)
    refine zr_goto hB dX8_mark_49 (tgt := 53) rfl ?_
    refine zr_istore hB dX8_mark_53 (by decide) (lv' := [(5, .int c22), (4, .ref (zk K 15)), (0, .ref (zk K 0)), (1, .int p1), (2, .int p2), (3, .int p3)]) rfl ?_
    refine zr_aload hB 1 dX8_mark_55 rfl ?_
    refine zr_iload_n hB 4 dX8_mark_57 rfl ?_
    refine zr_iload_n hB 5 dX8_mark_58 rfl ?_
    refine zr_zast hG 15 dX8_mark_59 rfl (by omega) (by omega) (by omega) (by omega) ?_
    have hOw23 := zc_O.u hO0 15 p2.toInt.toNat (v := p3) (show 0 ≤ p3.toInt by omega) (show p3.toInt ≤ 1 by omega) (Or.inr (show 0 ≤ p3.toInt by omega))
    have hAw23 := zc_Ag.u hA0 15 p2.toInt.toNat p3 rfl
    refine zr_iload hB 0 dX8_mark_60 rfl ?_
    exact zr_iret hG dX8_mark_62 ⟨hOw23, hAw23, by omega, by omega, (by have hqx18 := congrArg Int32.toInt ex18; first | (exfalso; omega) | exact Or.inl ⟨by omega, by omega, by first | rfl | assumption⟩ | exact Or.inr (Or.inl ⟨by omega, by omega, by omega, by omega, by first | rfl | assumption⟩) | exact Or.inr (Or.inr (⟨by omega, by omega, by omega, by omega, by first | rfl | assumption⟩)))⟩
  have q24 := r6q.f c9
  refine zr_iconst hB dX8_mark_16 rfl (fun c25 ec25 => ?_)
  exact zr_iret hG dX8_mark_17 ⟨hO0, hA0, by omega, by omega, (by first | (exfalso; omega) | exact Or.inl ⟨by omega, by omega, by first | rfl | assumption⟩ | exact Or.inr (Or.inl ⟨by omega, by omega, by omega, by omega, by first | rfl | assumption⟩) | exact Or.inr (Or.inr (⟨by omega, by omega, by omega, by omega, by first | rfl | assumption⟩)))⟩

def m_X8_feed_0 : zc_ms := [(2, some 1), (17, none)]
set_option maxHeartbeats 1000000 in
set_option maxRecDepth 100000 in
theorem c_X8_feed_0 (K : zc_K) (hi : zc_inj shX K.2.2.2.1) (σ0 : zc_S) (p1 : Int64) (hO0 : zc_O okX σ0)  : zc_M shX K yX8_feed cX8_feed 3 (some .int) (zrm 1 23) σ0 [.ref (zk K 0), .long p1] (zc_I (fun r9 σ9 => zc_O okX σ9 ∧ zc_Ag m_X8_feed_0 σ0 σ9 ∧ (-3) ≤ r9.toInt ∧ r9.toInt ≤ 120 ∧ ((112 < (σ0.1 2 1).toInt ∧ r9.toInt = -3 ∧ (σ9.1 2 1).toInt = (σ0.1 2 1).toInt) ∨ ((σ0.1 2 1).toInt ≤ 112 ∧ r9.toInt = (σ0.1 2 1).toInt + 8 ∧ (σ9.1 2 1).toInt = (σ0.1 2 1).toInt + 8)) ∧ ((112 < (σ0.1 2 1).toInt ∧ σ9 = σ0) ∨ ((σ0.1 2 1).toInt ≤ 112 ∧ zw_I 17 σ0 σ9 (σ0.1 2 1).toInt ((σ0.1 2 1).toInt + 8) p1)))) := by
  refine zc_start RX8 hi pfX8_feed rfl (Nat.le_of_ble_eq_true rfl) ?_
  intro G hG
  have hB := hG.1
  have hA0 : zc_Ag m_X8_feed_0 σ0 σ0 := zc_Ag.rf
  show zc_V 3 K G (zc_D shX K G σ0) [(0, .ref (zk K 0)), (1, .long p1)] 0 []
  refine zr_aload_n hB 0 dX8_feed_0 rfl ?_
  refine zr_getr hG 0 1 dX8_feed_1 rfl wf_X8_22 rfl ?_
  refine zr_lload_n hB 1 dX8_feed_4 rfl ?_
  refine zr_callvi hG (rest := []) 2 dX8_feed_5 wm_X8_91 rfl rfl (c_X6_push_2 K hG.2.2.2.2.2.1 σ0 p1 hO0 ) rfl rfl (Nat.le_of_ble_eq_true rfl) ⟨Nat.le_of_ble_eq_true rfl, Nat.le_of_ble_eq_true rfl, rfl, rfl⟩ (fun r1 σ2 h3 => ?_)
  obtain ⟨hO4, hAc5, r1a, r1b, g6, g7⟩ := h3
  have hA8 := zc_Ag.tr hA0 hAc5 rfl
  exact zr_iret hG dX8_feed_8 ⟨hO4, hA8, by omega, by omega, (show ((112 < (σ0.1 2 1).toInt ∧ r1.toInt = -3 ∧ (σ2.1 2 1).toInt = (σ0.1 2 1).toInt) ∨ ((σ0.1 2 1).toInt ≤ 112 ∧ r1.toInt = (σ0.1 2 1).toInt + 8 ∧ (σ2.1 2 1).toInt = (σ0.1 2 1).toInt + 8)) by omega), g7⟩

def m_X8_end_0 : zc_ms := [(2, some 1)]
set_option maxHeartbeats 1000000 in
set_option maxRecDepth 100000 in
theorem c_X8_end_0 (K : zc_K) (hi : zc_inj shX K.2.2.2.1) (σ0 : zc_S) (p1 : Int32) (hO0 : zc_O okX σ0)  : zc_M shX K yX8_end cX8_end 3 (some .int) (zrm 0 0) σ0 [.ref (zk K 0), .int p1] (zc_I (fun r9 σ9 => zc_O okX σ9 ∧ zc_Ag m_X8_end_0 σ0 σ9 ∧ (-1) ≤ r9.toInt ∧ r9.toInt ≤ 120 ∧ (((p1.toInt < 0 ∨ (σ0.1 2 1).toInt < p1.toInt) ∧ r9.toInt = -1 ∧ (σ9.1 2 1).toInt = (σ0.1 2 1).toInt) ∨ (0 ≤ p1.toInt ∧ p1.toInt ≤ (σ0.1 2 1).toInt ∧ r9.toInt = (σ0.1 2 1).toInt ∧ (σ9.1 2 1).toInt = p1.toInt)))) := by
  refine zc_start RX8 hi pfX8_end rfl (Nat.le_of_ble_eq_true rfl) ?_
  intro G hG
  have hB := hG.1
  have hA0 : zc_Ag m_X8_end_0 σ0 σ0 := zc_Ag.rf
  show zc_V 3 K G (zc_D shX K G σ0) [(0, .ref (zk K 0)), (1, .int p1)] 0 []
  refine zr_iload_n hB 1 dX8_end_0 rfl ?_
  refine zr_if_lt hB dX8_end_1 (tgt := 15) rfl (fun c1 => ?_) (fun c1 => ?_)
  · refine zr_iconst hB dX8_end_15 rfl (fun c2 ec2 => ?_)
    exact zr_iret hG dX8_end_16 ⟨hO0, hA0, by omega, by omega, (show (((p1.toInt < 0 ∨ (σ0.1 2 1).toInt < p1.toInt) ∧ c2.toInt = -1 ∧ (σ0.1 2 1).toInt = (σ0.1 2 1).toInt) ∨ (0 ≤ p1.toInt ∧ p1.toInt ≤ (σ0.1 2 1).toInt ∧ c2.toInt = (σ0.1 2 1).toInt ∧ (σ0.1 2 1).toInt = p1.toInt)) by omega)⟩
  refine zr_iload_n hB 1 dX8_end_4 rfl ?_
  refine zr_aload_n hB 0 dX8_end_5 rfl ?_
  refine zr_getr hG 0 1 dX8_end_6 rfl wf_X8_22 rfl ?_
  refine zr_geti' hG 2 1 (σ0.1 2 1) dX8_end_9 rfl wf_X8_95 rfl rfl ?_
  have b3 : 0 ≤ (σ0.1 2 1).toInt ∧ (σ0.1 2 1).toInt ≤ 120 := ⟨(hO0 2 1).1, (hO0 2 1).2.1⟩
  refine zr_icmp_le hB dX8_end_12 (tgt := 17) rfl (fun c4 => ?_) (fun c4 => ?_)
  · refine zr_aload_n hB 0 dX8_end_17 rfl ?_
    refine zr_getr hG 0 1 dX8_end_18 rfl wf_X8_22 rfl ?_
    refine zr_geti' hG 2 1 (σ0.1 2 1) dX8_end_21 rfl wf_X8_95 rfl rfl ?_
    refine zr_istore_n hB dX8_end_24 rfl (by decide) (lv' := [(2, .int (σ0.1 2 1)), (0, .ref (zk K 0)), (1, .int p1)]) rfl ?_
    refine zr_aload_n hB 1 dX8_end_25 rfl ?_
    refine zr_getr hG 0 1 dX8_end_26 rfl wf_X8_22 rfl ?_
    refine zr_iload_n hB 2 dX8_end_29 rfl ?_
    refine zr_puti hG 2 1 dX8_end_30 rfl wp_X8_95 rfl ?_
    have hOw5 := zc_O.u hO0 2 1 (v := p1) (show 0 ≤ p1.toInt by omega) (show p1.toInt ≤ 120 by omega) (Or.inr (show 0 ≤ p1.toInt by omega))
    have hAw5 := zc_Ag.u hA0 2 1 p1 rfl
    refine zr_iload_n hB 0 dX8_end_33 rfl ?_
    exact zr_iret hG dX8_end_34 ⟨hOw5, hAw5, by omega, by omega, (show (((p1.toInt < 0 ∨ (σ0.1 2 1).toInt < p1.toInt) ∧ (σ0.1 2 1).toInt = -1 ∧ p1.toInt = (σ0.1 2 1).toInt) ∨ (0 ≤ p1.toInt ∧ p1.toInt ≤ (σ0.1 2 1).toInt ∧ (σ0.1 2 1).toInt = (σ0.1 2 1).toInt ∧ p1.toInt = p1.toInt)) by omega)⟩
  refine zr_iconst hB dX8_end_15 rfl (fun c6 ec6 => ?_)
  exact zr_iret hG dX8_end_16 ⟨hO0, hA0, by omega, by omega, (show (((p1.toInt < 0 ∨ (σ0.1 2 1).toInt < p1.toInt) ∧ c6.toInt = -1 ∧ (σ0.1 2 1).toInt = (σ0.1 2 1).toInt) ∨ (0 ≤ p1.toInt ∧ p1.toInt ≤ (σ0.1 2 1).toInt ∧ c6.toInt = (σ0.1 2 1).toInt ∧ (σ0.1 2 1).toInt = p1.toInt)) by omega)⟩

def m_X8_text_0 : zc_ms := [(2, some 1), (2, some 3), (2, some 4), (2, some 5), (2, some 6), (8, some 0), (40, none), (41, none), (42, none), (3, some 0), (18, none), (19, none), (20, none)]
set_option maxHeartbeats 1000000 in
set_option maxRecDepth 100000 in
theorem c_X8_text_0 (K : zc_K) (hi : zc_inj shX K.2.2.2.1) (σ0 : zc_S)  (hO0 : zc_O okX σ0)  : zc_M shX K yX8_text cX8_text 1 (some .int) (zrm 8 171) σ0 [.ref (zk K 0)] (zc_I (fun r9 σ9 => zc_O okX σ9 ∧ zc_Ag m_X8_text_0 σ0 σ9 ∧ (-130) ≤ r9.toInt ∧ r9.toInt ≤ 6 ∧ (σ9.1 2 1).toInt = 0 ∧ (σ9.1 2 3).toInt = (zw_rX σ0).1.1 ∧ ((¬ (zw_rX σ0).1.1 = 0 ∧ r9.toInt = -10 - (((zw_rX σ0).1.2.1 : Nat) : Int) ∧ zw_TX σ9 = zw_TX σ0) ∨ ((zw_rX σ0).1.1 = 0 ∧ r9.toInt = (zw_rX σ0).2.1 ∧ zw_Lq (zw_TX σ9) (zw_rX σ0).2)))) := by
  refine zc_start RX8 hi pfX8_text rfl (Nat.le_of_ble_eq_true rfl) ?_
  intro G hG
  have hB := hG.1
  have hA0 : zc_Ag m_X8_text_0 σ0 σ0 := zc_Ag.rf
  show zc_V 1 K G (zc_D shX K G σ0) [(0, .ref (zk K 0))] 0 []
  have bw2_3 : 0 ≤ (σ0.1 2 3).toInt ∧ (σ0.1 2 3).toInt ≤ 5 := ⟨(hO0 2 3).1, (hO0 2 3).2.1⟩
  have bw2_5 : 0 ≤ (σ0.1 2 5).toInt ∧ (σ0.1 2 5).toInt ≤ 120 := ⟨(hO0 2 5).1, (hO0 2 5).2.1⟩
  have bw8_0 : 0 ≤ (σ0.1 8 0).toInt ∧ (σ0.1 8 0).toInt ≤ 6 := ⟨(hO0 8 0).1, (hO0 8 0).2.1⟩
  refine zr_aload_n hB 0 dX8_text_0 rfl ?_
  refine zr_getr hG 0 1 dX8_text_1 rfl wf_X8_22 rfl ?_
  refine zr_callvn hG (rest := []) 2 dX8_text_4 wm_X8_98 rfl rfl (c_X6_readAll_2 K hG.2.2.2.2.2.1 σ0  hO0 ) rfl rfl (Nat.le_of_ble_eq_true rfl) ⟨Nat.le_of_ble_eq_true rfl, Nat.le_of_ble_eq_true rfl, rfl, rfl⟩ (fun σ2 h3 => ?_)
  obtain ⟨hO4, hAc5, g6, g7⟩ := h3
  have hA8 := zc_Ag.tr hA0 hAc5 rfl
  have hx1 : (σ2.1 2 3).toInt = (zw_rX σ0).1.1 := congrArg Prod.fst g6
  have hx2 : (σ2.1 2 5).toInt = (((zw_rX σ0).1.2.1 : Nat) : Int) := zw_X_s g6 (hO4 2 5).1
  have hx3 : (σ2.1 8 0).toInt = (zw_rX σ0).2.1 := congrArg Prod.fst g7
  have hx4 := g7
  have hT1 : zw_TX σ2 = zw_TX σ0 := zw_TX_ag hAc5 rfl (fun _ => rfl) (fun _ => rfl) (fun _ => rfl)
  refine zr_aload_n hB 0 dX8_text_7 rfl ?_
  refine zr_getr hG 0 1 dX8_text_8 rfl wf_X8_22 rfl ?_
  refine zr_iconst hB dX8_text_11 rfl (fun c9 ec9 => ?_)
  refine zr_puti hG 2 1 dX8_text_12 rfl wp_X8_95 rfl ?_
  have hOw10 := zc_O.u hO4 2 1 (v := c9) (show 0 ≤ c9.toInt by omega) (show c9.toInt ≤ 120 by omega) (Or.inr (show 0 ≤ c9.toInt by omega))
  have hAw10 := zc_Ag.u hA8 2 1 c9 rfl
  refine zr_aload_n hB 0 dX8_text_15 rfl ?_
  refine zr_getr hG 0 1 dX8_text_16 rfl wf_X8_22 rfl ?_
  refine zr_geti' hG 2 3 (σ2.1 2 3) dX8_text_19 rfl wf_X8_101 rfl rfl ?_
  have b11 : 0 ≤ (σ2.1 2 3).toInt ∧ (σ2.1 2 3).toInt ≤ 5 := ⟨(hOw10 2 3).1, (hOw10 2 3).2.1⟩
  refine zr_if_eq hB dX8_text_22 (tgt := 36) rfl (fun c12 => ?_) (fun c12 => ?_)
  · refine zr_aload_n hB 0 dX8_text_36 rfl ?_
    refine zr_getr hG 0 2 dX8_text_37 rfl wf_X8_26 rfl ?_
    refine zr_aload_n hB 0 dX8_text_40 rfl ?_
    refine zr_getr hG 0 1 dX8_text_41 rfl wf_X8_22 rfl ?_
    refine zr_getr hG 2 2 dX8_text_44 rfl wf_X8_107 rfl ?_
    refine zr_callvn hG (rest := []) 3 dX8_text_47 wm_X8_110 rfl rfl (c_X1_copy_3_8 K hG.2.2.2.2.2.1 (zc_u σ2 2 1 c9)  hOw10 ) rfl rfl (Nat.le_of_ble_eq_true rfl) ⟨Nat.le_of_ble_eq_true rfl, Nat.le_of_ble_eq_true rfl, rfl, rfl⟩ (fun σ14 h15 => ?_)
    obtain ⟨hO16, hAc17, g18, g19⟩ := h15
    have hA20 := zc_Ag.tr hAw10 hAc17 rfl
    have q21 : (σ14.1 2 1).toInt = c9.toInt := congrArg Int32.toInt (hAc17 2 1 rfl).1
    have q22 : (σ14.1 2 3).toInt = (σ2.1 2 3).toInt := congrArg Int32.toInt (hAc17 2 3 rfl).1
    have g18' : (σ14.1 3 0).toInt = (σ2.1 8 0).toInt := g18
    refine zr_aload_n hB 0 dX8_text_50 rfl ?_
    refine zr_getr hG 0 2 dX8_text_51 rfl wf_X8_26 rfl ?_
    refine zr_geti' hG 3 0 (σ14.1 3 0) dX8_text_54 rfl wf_X8_114 rfl rfl ?_
    have b23 : 0 ≤ (σ14.1 3 0).toInt ∧ (σ14.1 3 0).toInt ≤ 6 := ⟨(hO16 3 0).1, (hO16 3 0).2.1⟩
    exact zr_iret hG dX8_text_57 ⟨hO16, hA20, by omega, by omega, (show (σ14.1 2 1).toInt = 0 by omega), (show (σ14.1 2 3).toInt = (zw_rX σ0).1.1 by omega), (Or.inr ⟨by omega, by omega, zw_cq (b := (zc_u σ2 2 1 c9)) hx4 g18 g19⟩)⟩
  refine zr_bipush hB dX8_text_25 rfl (fun c24 ec24 => ?_)
  refine zr_aload_n hB 0 dX8_text_27 rfl ?_
  refine zr_getr hG 0 1 dX8_text_28 rfl wf_X8_22 rfl ?_
  refine zr_geti' hG 2 5 (σ2.1 2 5) dX8_text_31 rfl wf_X8_104 rfl rfl ?_
  have b25 : 0 ≤ (σ2.1 2 5).toInt ∧ (σ2.1 2 5).toInt ≤ 120 := ⟨(hOw10 2 5).1, (hOw10 2 5).2.1⟩
  refine zr_isub hB dX8_text_34 (by omega) (by omega) (fun x26 ex26 => ?_)
  exact zr_iret hG dX8_text_35 ⟨hOw10, hAw10, by omega, by omega, (show c9.toInt = 0 by omega), (show (σ2.1 2 3).toInt = (zw_rX σ0).1.1 by omega), (Or.inl ⟨by omega, by omega, hT1⟩)⟩

set_option maxHeartbeats 1000000 in
set_option maxRecDepth 100000 in
theorem c_X8_fault_0 (K : zc_K) (hi : zc_inj shX K.2.2.2.1) (σ0 : zc_S)  (hO0 : zc_O okX σ0)  : zc_M shX K yX8_fault cX8_fault 1 (some .int) (zrm 0 0) σ0 [.ref (zk K 0)] (zc_I (fun r9 σ9 => σ0 = σ9 ∧ 0 ≤ r9.toInt ∧ r9.toInt ≤ 5 ∧ r9.toInt = (σ0.1 2 3).toInt)) := by
  refine zc_start RX8 hi pfX8_fault rfl (Nat.le_of_ble_eq_true rfl) ?_
  intro G hG
  have hB := hG.1
  show zc_V 1 K G (zc_D shX K G σ0) [(0, .ref (zk K 0))] 0 []
  refine zr_aload_n hB 0 dX8_fault_0 rfl ?_
  refine zr_getr hG 0 1 dX8_fault_1 rfl wf_X8_22 rfl ?_
  refine zr_geti' hG 2 3 (σ0.1 2 3) dX8_fault_4 rfl wf_X8_101 rfl rfl ?_
  have b1 : 0 ≤ (σ0.1 2 3).toInt ∧ (σ0.1 2 3).toInt ≤ 5 := ⟨(hO0 2 3).1, (hO0 2 3).2.1⟩
  exact zr_iret hG dX8_fault_7 ⟨rfl, by omega, by omega, by omega⟩

set_option maxHeartbeats 1000000 in
set_option maxRecDepth 100000 in
theorem c_X8_teller_0 (K : zc_K) (hi : zc_inj shX K.2.2.2.1) (σ0 : zc_S) (p1 : Int32) (p2 : Int32) (hO0 : zc_O okX σ0)  : zc_M shX K yX8_teller cX8_teller 3 (some .int) (zrm 1 21) σ0 [.ref (zk K 0), .int p1, .int p2] (zc_I (fun r9 σ9 => σ0 = σ9 ∧ ((¬ (0 ≤ p1.toInt ∧ p1.toInt < (σ0.1 3 0).toInt ∧ 0 ≤ p2.toInt ∧ p2.toInt ≤ 2) ∧ r9.toInt = -1) ∨ ((0 ≤ p1.toInt ∧ p1.toInt < (σ0.1 3 0).toInt ∧ 0 ≤ p2.toInt ∧ p2.toInt ≤ 2) ∧ p2.toInt = 0 ∧ r9.toInt = (σ0.1 18 p1.toInt.toNat).toInt) ∨ ((0 ≤ p1.toInt ∧ p1.toInt < (σ0.1 3 0).toInt ∧ 0 ≤ p2.toInt ∧ p2.toInt ≤ 2) ∧ p2.toInt = 1 ∧ r9.toInt = (σ0.1 19 p1.toInt.toNat).toInt) ∨ ((0 ≤ p1.toInt ∧ p1.toInt < (σ0.1 3 0).toInt ∧ 0 ≤ p2.toInt ∧ p2.toInt ≤ 2) ∧ p2.toInt = 2 ∧ r9.toInt = (σ0.1 20 p1.toInt.toNat).toInt)))) := by
  refine zc_start RX8 hi pfX8_teller rfl (Nat.le_of_ble_eq_true rfl) ?_
  intro G hG
  have hB := hG.1
  show zc_V 3 K G (zc_D shX K G σ0) [(0, .ref (zk K 0)), (1, .int p1), (2, .int p2)] 0 []
  have bw3_0 : 0 ≤ (σ0.1 3 0).toInt ∧ (σ0.1 3 0).toInt ≤ 6 := ⟨(hO0 3 0).1, (hO0 3 0).2.1⟩
  refine zr_aload_n hB 0 dX8_teller_0 rfl ?_
  refine zr_iload_n hB 1 dX8_teller_1 rfl ?_
  refine zr_callvi hG (rest := []) 0 dX8_teller_2 wm_X8_117 rfl rfl (c_X8_isTeller_0 K hG.2.2.2.2.2.1 σ0 p1 hO0 ) rfl rfl (Nat.le_of_ble_eq_true rfl) ⟨Nat.le_of_ble_eq_true rfl, Nat.le_of_ble_eq_true rfl, rfl, rfl⟩ (fun r1 σ2 h3 => ?_)
  obtain ⟨rfl, r1q⟩ := h3
  have r1z := r1q.b
  refine zr_if_eq hB dX8_teller_5 (tgt := 17) rfl (fun c4 => ?_) (fun c4 => ?_)
  · have q5 := r1q.f c4
    refine zr_iconst hB dX8_teller_17 rfl (fun c6 ec6 => ?_)
    exact zr_iret hG dX8_teller_18 ⟨rfl, (by first | (exfalso; omega) | exact Or.inl ⟨by omega, by omega⟩ | exact Or.inr (Or.inl ⟨by omega, by omega, by omega⟩) | exact Or.inr (Or.inr (Or.inl ⟨by omega, by omega, by omega⟩)) | exact Or.inr (Or.inr (Or.inr (⟨by omega, by omega, by omega⟩))))⟩
  have q7 := r1q.t c4
  refine zr_iload_n hB 2 dX8_teller_8 rfl ?_
  refine zr_if_lt hB dX8_teller_9 (tgt := 17) rfl (fun c8 => ?_) (fun c8 => ?_)
  · refine zr_iconst hB dX8_teller_17 rfl (fun c9 ec9 => ?_)
    exact zr_iret hG dX8_teller_18 ⟨rfl, (by first | (exfalso; omega) | exact Or.inl ⟨by omega, by omega⟩ | exact Or.inr (Or.inl ⟨by omega, by omega, by omega⟩) | exact Or.inr (Or.inr (Or.inl ⟨by omega, by omega, by omega⟩)) | exact Or.inr (Or.inr (Or.inr (⟨by omega, by omega, by omega⟩))))⟩
  refine zr_iload_n hB 2 dX8_teller_12 rfl ?_
  refine zr_iconst hB dX8_teller_13 rfl (fun c10 ec10 => ?_)
  refine zr_icmp_le hB dX8_teller_14 (tgt := 19) rfl (fun c11 => ?_) (fun c11 => ?_)
  · refine zr_iload_n hB 2 dX8_teller_19 rfl ?_
    refine zr_if_ne hB dX8_teller_20 (tgt := 35) rfl (fun c12 => ?_) (fun c12 => ?_)
    · refine zr_iload_n hB 2 dX8_teller_35 rfl ?_
      refine zr_iconst hB dX8_teller_36 rfl (fun c13 ec13 => ?_)
      refine zr_icmp_ne hB dX8_teller_37 (tgt := 52) rfl (fun c14 => ?_) (fun c14 => ?_)
      · refine zr_aload_n hB 0 dX8_teller_52 rfl ?_
        refine zr_getr hG 0 2 dX8_teller_53 rfl wf_X8_26 rfl ?_
        refine zr_getr hG 3 3 dX8_teller_56 rfl wf_X8_127 rfl ?_
        refine zr_iload_n hB 1 dX8_teller_59 rfl ?_
        refine zr_iald hG 20 dX8_teller_60 rfl (by omega) (by omega) (fun x15 ex15 => ?_)
        exact zr_iret hG dX8_teller_61 ⟨rfl, (by have hqx15 := congrArg Int32.toInt ex15; first | (exfalso; omega) | exact Or.inl ⟨by omega, by omega⟩ | exact Or.inr (Or.inl ⟨by omega, by omega, by omega⟩) | exact Or.inr (Or.inr (Or.inl ⟨by omega, by omega, by omega⟩)) | exact Or.inr (Or.inr (Or.inr (⟨by omega, by omega, by omega⟩))))⟩
      refine zr_aload_n hB 0 dX8_teller_40 rfl ?_
      refine zr_getr hG 0 2 dX8_teller_41 rfl wf_X8_26 rfl ?_
      refine zr_getr hG 3 2 dX8_teller_44 rfl wf_X8_124 rfl ?_
      refine zr_iload_n hB 1 dX8_teller_47 rfl ?_
      refine zr_iald hG 19 dX8_teller_48 rfl (by omega) (by omega) (fun x16 ex16 => ?_)
      refine zr_goto hB dX8_teller_49 (tgt := 61) rfl ?_
      exact zr_iret hG dX8_teller_61 ⟨rfl, (by have hqx16 := congrArg Int32.toInt ex16; first | (exfalso; omega) | exact Or.inl ⟨by omega, by omega⟩ | exact Or.inr (Or.inl ⟨by omega, by omega, by omega⟩) | exact Or.inr (Or.inr (Or.inl ⟨by omega, by omega, by omega⟩)) | exact Or.inr (Or.inr (Or.inr (⟨by omega, by omega, by omega⟩))))⟩
    refine zr_aload_n hB 0 dX8_teller_23 rfl ?_
    refine zr_getr hG 0 2 dX8_teller_24 rfl wf_X8_26 rfl ?_
    refine zr_getr hG 3 1 dX8_teller_27 rfl wf_X8_120 rfl ?_
    refine zr_iload_n hB 1 dX8_teller_30 rfl ?_
    refine zr_iald hG 18 dX8_teller_31 rfl (by omega) (by omega) (fun x17 ex17 => ?_)
    have bx17 : 0 ≤ x17.toInt ∧ x17.toInt ≤ 4 := by rw [ex17]; exact ⟨(hO0 18 _).1, (hO0 18 _).2.1⟩
    refine zr_goto hB dX8_teller_32 (tgt := 61) rfl ?_
    exact zr_iret hG dX8_teller_61 ⟨rfl, (by have hqx17 := congrArg Int32.toInt ex17; first | (exfalso; omega) | exact Or.inl ⟨by omega, by omega⟩ | exact Or.inr (Or.inl ⟨by omega, by omega, by omega⟩) | exact Or.inr (Or.inr (Or.inl ⟨by omega, by omega, by omega⟩)) | exact Or.inr (Or.inr (Or.inr (⟨by omega, by omega, by omega⟩))))⟩
  refine zr_iconst hB dX8_teller_17 rfl (fun c18 ec18 => ?_)
  exact zr_iret hG dX8_teller_18 ⟨rfl, (by first | (exfalso; omega) | exact Or.inl ⟨by omega, by omega⟩ | exact Or.inr (Or.inl ⟨by omega, by omega, by omega⟩) | exact Or.inr (Or.inr (Or.inl ⟨by omega, by omega, by omega⟩)) | exact Or.inr (Or.inr (Or.inr (⟨by omega, by omega, by omega⟩))))⟩

def m_X8_tells_0 : zc_ms := [(4, some 3), (4, some 4), (21, none), (9, some 2), (43, none)]
set_option maxHeartbeats 1000000 in
set_option maxRecDepth 100000 in
theorem c_X8_tells_0 (K : zc_K) (hi : zc_inj shX K.2.2.2.1) (σ0 : zc_S) (p1 : Int32) (p2 : Int32) (p3 : Int32) (p4 : Int32) (hO0 : zc_O okX σ0)  : zc_M shX K yX8_tells cX8_tells 5 (some .int) (zrm 6 162) σ0 [.ref (zk K 0), .int p1, .int p2, .int p3, .int p4] (zc_I (fun r9 σ9 => zc_O okX σ9 ∧ zc_Ag m_X8_tells_0 σ0 σ9)) := by
  refine zc_start RX8 hi pfX8_tells rfl (Nat.le_of_ble_eq_true rfl) ?_
  intro G hG
  have hB := hG.1
  have hA0 : zc_Ag m_X8_tells_0 σ0 σ0 := zc_Ag.rf
  show zc_V 5 K G (zc_D shX K G σ0) [(0, .ref (zk K 0)), (1, .int p1), (2, .int p2), (3, .int p3), (4, .int p4)] 0 []
  refine zr_aload_n hB 0 dX8_tells_0 rfl ?_
  refine zr_iload_n hB 1 dX8_tells_1 rfl ?_
  refine zr_iload_n hB 2 dX8_tells_2 rfl ?_
  refine zr_iload hB 4 dX8_tells_3 rfl ?_
  refine zr_callvi hG (rest := []) 0 dX8_tells_5 wm_X8_130 rfl rfl (c_X8_isAsked_0 K hG.2.2.2.2.2.1 σ0 p1 p2 p4 hO0 ) rfl rfl (Nat.le_of_ble_eq_true rfl) ⟨Nat.le_of_ble_eq_true rfl, Nat.le_of_ble_eq_true rfl, rfl, rfl⟩ (fun r1 σ2 h3 => ?_)
  obtain ⟨rfl, r1q⟩ := h3
  have r1z := r1q.b
  refine zr_if_eq hB dX8_tells_8 (tgt := 26) rfl (fun c4 => ?_) (fun c4 => ?_)
  · have q5 := r1q.f c4
    refine zr_iconst hB dX8_tells_26 rfl (fun c6 ec6 => ?_)
    exact zr_iret hG dX8_tells_27 ⟨hO0, hA0⟩
  have q7 := r1q.t c4
  refine zr_iload_n hB 3 dX8_tells_11 rfl ?_
  refine zr_if_lt hB dX8_tells_12 (tgt := 26) rfl (fun c8 => ?_) (fun c8 => ?_)
  · refine zr_iconst hB dX8_tells_26 rfl (fun c9 ec9 => ?_)
    exact zr_iret hG dX8_tells_27 ⟨hO0, hA0⟩
  refine zr_iload_n hB 3 dX8_tells_15 rfl ?_
  refine zr_aload_n hB 0 dX8_tells_16 rfl ?_
  refine zr_getr hG 0 0 dX8_tells_17 rfl wf_X8_15 rfl ?_
  refine zr_geti' hG 1 0 (σ0.1 1 0) dX8_tells_20 rfl wf_X8_66 rfl rfl ?_
  have b10 : 0 ≤ (σ0.1 1 0).toInt ∧ (σ0.1 1 0).toInt ≤ 63 := ⟨(hO0 1 0).1, (hO0 1 0).2.1⟩
  refine zr_icmp_le hB dX8_tells_23 (tgt := 28) rfl (fun c11 => ?_) (fun c11 => ?_)
  · refine zr_aload_n hB 0 dX8_tells_28 rfl ?_
    refine zr_getr hG 0 3 dX8_tells_29 rfl wf_X8_35 rfl ?_
    refine zr_iload_n hB 1 dX8_tells_32 rfl ?_
    refine zr_iload_n hB 2 dX8_tells_33 rfl ?_
    refine zr_iload hB 4 dX8_tells_34 rfl ?_
    refine zr_iload_n hB 3 dX8_tells_36 rfl ?_
    refine zr_iload_n hB 3 dX8_tells_37 rfl ?_
    refine zr_callvn hG (rest := []) 4 dX8_tells_38 wm_X8_134 rfl rfl (c_X3_run_4 K hG.2.2.2.2.2.1 σ0 p1 p2 p4 p3 p3 hO0 (by omega) (by omega) (by omega) (by omega)) rfl rfl (Nat.le_of_ble_eq_true rfl) ⟨Nat.le_of_ble_eq_true rfl, Nat.le_of_ble_eq_true rfl, rfl, rfl⟩ (fun σ13 h14 => ?_)
    obtain ⟨hO15, hAc16, g17⟩ := h14
    have hA18 := zc_Ag.tr hA0 hAc16 rfl
    have q19 : (σ13.1 1 0).toInt = (σ0.1 1 0).toInt := congrArg Int32.toInt (hAc16 1 0 rfl).1
    refine zr_aload_n hB 0 dX8_tells_41 rfl ?_
    refine zr_getr hG 0 3 dX8_tells_42 rfl wf_X8_35 rfl ?_
    refine zr_iload_n hB 2 dX8_tells_45 rfl ?_
    refine zr_iload_n hB 3 dX8_tells_46 rfl ?_
    refine zr_callvi hG (rest := []) 4 dX8_tells_47 wm_X8_138 rfl rfl (c_X3_toldBy_4 K hG.2.2.2.2.2.1 σ13 p2 p3 hO15 ) rfl rfl (Nat.le_of_ble_eq_true rfl) ⟨Nat.le_of_ble_eq_true rfl, Nat.le_of_ble_eq_true rfl, rfl, rfl⟩ (fun r20 σ21 h22 => ?_)
    obtain ⟨rfl, r20a, r20b, r20h, g23⟩ := h22
    exact zr_iret hG dX8_tells_50 ⟨hO15, hA18⟩
  refine zr_iconst hB dX8_tells_26 rfl (fun c24 ec24 => ?_)
  exact zr_iret hG dX8_tells_27 ⟨hO0, hA0⟩

def m_X8_weight_0 : zc_ms := [(4, some 3), (4, some 4), (21, none), (9, some 2), (43, none)]
set_option maxHeartbeats 1000000 in
set_option maxRecDepth 100000 in
theorem c_X8_weight_0 (K : zc_K) (hi : zc_inj shX K.2.2.2.1) (σ0 : zc_S) (p1 : Int32) (p2 : Int32) (p3 : Int32) (p4 : Int32) (p5 : Int32) (hO0 : zc_O okX σ0)  : zc_M shX K yX8_weight cX8_weight 6 (some .int) (zrm 6 162) σ0 [.ref (zk K 0), .int p1, .int p2, .int p3, .int p4, .int p5] (zc_I (fun r9 σ9 => zc_O okX σ9 ∧ zc_Ag m_X8_weight_0 σ0 σ9)) := by
  refine zc_start RX8 hi pfX8_weight rfl (Nat.le_of_ble_eq_true rfl) ?_
  intro G hG
  have hB := hG.1
  have hA0 : zc_Ag m_X8_weight_0 σ0 σ0 := zc_Ag.rf
  show zc_V 6 K G (zc_D shX K G σ0) [(0, .ref (zk K 0)), (1, .int p1), (2, .int p2), (3, .int p3), (4, .int p4), (5, .int p5)] 0 []
  refine zr_aload_n hB 0 dX8_weight_0 rfl ?_
  refine zr_iload_n hB 1 dX8_weight_1 rfl ?_
  refine zr_iload_n hB 2 dX8_weight_2 rfl ?_
  refine zr_iload hB 5 dX8_weight_3 rfl ?_
  refine zr_callvi hG (rest := []) 0 dX8_weight_5 wm_X8_130 rfl rfl (c_X8_isAsked_0 K hG.2.2.2.2.2.1 σ0 p1 p2 p5 hO0 ) rfl rfl (Nat.le_of_ble_eq_true rfl) ⟨Nat.le_of_ble_eq_true rfl, Nat.le_of_ble_eq_true rfl, rfl, rfl⟩ (fun r1 σ2 h3 => ?_)
  obtain ⟨rfl, r1q⟩ := h3
  have r1z := r1q.b
  refine zr_if_eq hB dX8_weight_8 (tgt := 37) rfl (fun c4 => ?_) (fun c4 => ?_)
  · have q5 := r1q.f c4
    refine zr_iconst hB dX8_weight_37 rfl (fun c6 ec6 => ?_)
    exact zr_iret hG dX8_weight_38 ⟨hO0, hA0⟩
  have q7 := r1q.t c4
  refine zr_iload hB 4 dX8_weight_11 rfl ?_
  refine zr_if_lt hB dX8_weight_13 (tgt := 37) rfl (fun c8 => ?_) (fun c8 => ?_)
  · refine zr_iconst hB dX8_weight_37 rfl (fun c9 ec9 => ?_)
    exact zr_iret hG dX8_weight_38 ⟨hO0, hA0⟩
  refine zr_iload hB 4 dX8_weight_16 rfl ?_
  refine zr_aload_n hB 0 dX8_weight_18 rfl ?_
  refine zr_getr hG 0 0 dX8_weight_19 rfl wf_X8_15 rfl ?_
  refine zr_geti' hG 1 0 (σ0.1 1 0) dX8_weight_22 rfl wf_X8_66 rfl rfl ?_
  have b10 : 0 ≤ (σ0.1 1 0).toInt ∧ (σ0.1 1 0).toInt ≤ 63 := ⟨(hO0 1 0).1, (hO0 1 0).2.1⟩
  refine zr_icmp_gt hB dX8_weight_25 (tgt := 37) rfl (fun c11 => ?_) (fun c11 => ?_)
  · refine zr_iconst hB dX8_weight_37 rfl (fun c12 ec12 => ?_)
    exact zr_iret hG dX8_weight_38 ⟨hO0, hA0⟩
  refine zr_aload_n hB 0 dX8_weight_28 rfl ?_
  refine zr_iload_n hB 2 dX8_weight_29 rfl ?_
  refine zr_iload_n hB 3 dX8_weight_30 rfl ?_
  refine zr_callvi hG (rest := []) 0 dX8_weight_31 wm_X8_142 rfl rfl (c_X8_isJoinedTo_0 K hG.2.2.2.2.2.1 σ0 p2 p3 hO0 ) rfl rfl (Nat.le_of_ble_eq_true rfl) ⟨Nat.le_of_ble_eq_true rfl, Nat.le_of_ble_eq_true rfl, rfl, rfl⟩ (fun r13 σ14 h15 => ?_)
  obtain ⟨rfl, r13a, r13b, g16⟩ := h15
  refine zr_if_ne hB dX8_weight_34 (tgt := 39) rfl (fun c17 => ?_) (fun c17 => ?_)
  · refine zr_aload_n hB 0 dX8_weight_39 rfl ?_
    refine zr_getr hG 0 3 dX8_weight_40 rfl wf_X8_35 rfl ?_
    refine zr_iload_n hB 1 dX8_weight_43 rfl ?_
    refine zr_iload_n hB 3 dX8_weight_44 rfl ?_
    refine zr_iload hB 5 dX8_weight_45 rfl ?_
    refine zr_iconst hB dX8_weight_47 rfl (fun c18 ec18 => ?_)
    refine zr_iload hB 4 dX8_weight_48 rfl ?_
    refine zr_callvn hG (rest := []) 4 dX8_weight_50 wm_X8_134 rfl rfl (c_X3_run_4 K hG.2.2.2.2.2.1 σ0 p1 p3 p5 c18 p4 hO0 (by omega) (by omega) (by omega) (by omega)) rfl rfl (Nat.le_of_ble_eq_true rfl) ⟨Nat.le_of_ble_eq_true rfl, Nat.le_of_ble_eq_true rfl, rfl, rfl⟩ (fun σ20 h21 => ?_)
    obtain ⟨hO22, hAc23, g24⟩ := h21
    have hA25 := zc_Ag.tr hA0 hAc23 rfl
    have q26 : (σ20.1 1 0).toInt = (σ0.1 1 0).toInt := congrArg Int32.toInt (hAc23 1 0 rfl).1
    refine zr_aload_n hB 0 dX8_weight_53 rfl ?_
    refine zr_getr hG 0 3 dX8_weight_54 rfl wf_X8_35 rfl ?_
    refine zr_iload_n hB 3 dX8_weight_57 rfl ?_
    refine zr_iload hB 4 dX8_weight_58 rfl ?_
    refine zr_callvi hG (rest := []) 4 dX8_weight_60 wm_X8_138 rfl rfl (c_X3_toldBy_4 K hG.2.2.2.2.2.1 σ20 p3 p4 hO22 ) rfl rfl (Nat.le_of_ble_eq_true rfl) ⟨Nat.le_of_ble_eq_true rfl, Nat.le_of_ble_eq_true rfl, rfl, rfl⟩ (fun r27 σ28 h29 => ?_)
    obtain ⟨rfl, r27a, r27b, r27h, g30⟩ := h29
    refine zr_bipush hB dX8_weight_63 rfl (fun c31 ec31 => ?_)
    refine zr_icmp_ne hB dX8_weight_65 (tgt := 73) rfl (fun c32 => ?_) (fun c32 => ?_)
    · refine zr_aload_n hB 0 dX8_weight_73 rfl ?_
      refine zr_getr hG 0 3 dX8_weight_74 rfl wf_X8_35 rfl ?_
      refine zr_iload_n hB 3 dX8_weight_77 rfl ?_
      refine zr_aload_n hB 0 dX8_weight_78 rfl ?_
      refine zr_getr hG 0 2 dX8_weight_79 rfl wf_X8_26 rfl ?_
      refine zr_getr hG 3 2 dX8_weight_82 rfl wf_X8_124 rfl ?_
      refine zr_iload_n hB 2 dX8_weight_85 rfl ?_
      refine zr_iald hG 19 dX8_weight_86 rfl (by omega) (by omega) (fun x33 ex33 => ?_)
      refine zr_iload hB 4 dX8_weight_87 rfl ?_
      refine zr_callvi hG (rest := []) 4 dX8_weight_89 wm_X8_146 rfl rfl (c_X3_weightOf_4 K hG.2.2.2.2.2.1 σ20 p3 x33 p4 hO22 (by omega) (by omega)) rfl rfl (Nat.le_of_ble_eq_true rfl) ⟨Nat.le_of_ble_eq_true rfl, Nat.le_of_ble_eq_true rfl, rfl, rfl⟩ (fun r34 σ35 h36 => ?_)
      obtain ⟨rfl, r34a, r34b, g37⟩ := h36
      exact zr_iret hG dX8_weight_92 ⟨hO22, hA25⟩
    refine zr_bipush hB dX8_weight_68 rfl (fun c38 ec38 => ?_)
    refine zr_goto hB dX8_weight_70 (tgt := 92) rfl ?_
    exact zr_iret hG dX8_weight_92 ⟨hO22, hA25⟩
  refine zr_iconst hB dX8_weight_37 rfl (fun c39 ec39 => ?_)
  exact zr_iret hG dX8_weight_38 ⟨hO0, hA0⟩

def m_X8_miss_0 : zc_ms := [(4, some 3), (4, some 4), (21, none), (9, some 2), (43, none), (22, none), (4, some 7), (4, some 8)]
set_option maxHeartbeats 1000000 in
set_option maxRecDepth 100000 in
theorem c_X8_miss_0 (K : zc_K) (hi : zc_inj shX K.2.2.2.1) (σ0 : zc_S) (p1 : Int32) (p2 : Int32) (p3 : Int32) (p4 : Int32) (hO0 : zc_O okX σ0)  : zc_M shX K yX8_miss cX8_miss 5 (some .int) (zrm 7 190) σ0 [.ref (zk K 0), .int p1, .int p2, .int p3, .int p4] (zc_I (fun r9 σ9 => zc_O okX σ9 ∧ zc_Ag m_X8_miss_0 σ0 σ9)) := by
  refine zc_start RX8 hi pfX8_miss rfl (Nat.le_of_ble_eq_true rfl) ?_
  intro G hG
  have hB := hG.1
  have hA0 : zc_Ag m_X8_miss_0 σ0 σ0 := zc_Ag.rf
  show zc_V 5 K G (zc_D shX K G σ0) [(0, .ref (zk K 0)), (1, .int p1), (2, .int p2), (3, .int p3), (4, .int p4)] 0 []
  refine zr_aload_n hB 0 dX8_miss_0 rfl ?_
  refine zr_iload_n hB 1 dX8_miss_1 rfl ?_
  refine zr_iload_n hB 2 dX8_miss_2 rfl ?_
  refine zr_iload_n hB 3 dX8_miss_3 rfl ?_
  refine zr_callvi hG (rest := []) 0 dX8_miss_4 wm_X8_130 rfl rfl (c_X8_isAsked_0 K hG.2.2.2.2.2.1 σ0 p1 p2 p3 hO0 ) rfl rfl (Nat.le_of_ble_eq_true rfl) ⟨Nat.le_of_ble_eq_true rfl, Nat.le_of_ble_eq_true rfl, rfl, rfl⟩ (fun r1 σ2 h3 => ?_)
  obtain ⟨rfl, r1q⟩ := h3
  have r1z := r1q.b
  refine zr_if_eq hB dX8_miss_7 (tgt := 18) rfl (fun c4 => ?_) (fun c4 => ?_)
  · have q5 := r1q.f c4
    refine zr_iconst hB dX8_miss_18 rfl (fun c6 ec6 => ?_)
    exact zr_iret hG dX8_miss_19 ⟨hO0, hA0⟩
  have q7 := r1q.t c4
  refine zr_iload hB 4 dX8_miss_10 rfl ?_
  refine zr_callsi hG (rest := []) dX8_miss_12 wm_X8_62 (c_X8_isDay K hG.2.2.2.2.2.1 σ0 p4 hO0 ) rfl rfl (Nat.le_of_ble_eq_true rfl) ⟨Nat.le_of_ble_eq_true rfl, Nat.le_of_ble_eq_true rfl, rfl, rfl⟩ (fun r8 σ9 h10 => ?_)
  obtain ⟨rfl, r8q⟩ := h10
  have r8z := r8q.b
  refine zr_if_ne hB dX8_miss_15 (tgt := 20) rfl (fun c11 => ?_) (fun c11 => ?_)
  · have q12 := r8q.t c11
    refine zr_aload_n hB 0 dX8_miss_20 rfl ?_
    refine zr_getr hG 0 3 dX8_miss_21 rfl wf_X8_35 rfl ?_
    refine zr_iload_n hB 1 dX8_miss_24 rfl ?_
    refine zr_iload_n hB 2 dX8_miss_25 rfl ?_
    refine zr_iload_n hB 3 dX8_miss_26 rfl ?_
    refine zr_iload hB 4 dX8_miss_27 rfl ?_
    refine zr_iload hB 4 dX8_miss_29 rfl ?_
    refine zr_callvn hG (rest := []) 4 dX8_miss_31 wm_X8_149 rfl rfl (c_X3_compare_4 K hG.2.2.2.2.2.1 σ0 p1 p2 p3 p4 p4 hO0 (by omega) (by omega) (by omega) (by omega) (by omega) (by omega) (by omega) (by omega)) rfl rfl (Nat.le_of_ble_eq_true rfl) ⟨Nat.le_of_ble_eq_true rfl, Nat.le_of_ble_eq_true rfl, rfl, rfl⟩ (fun σ14 h15 => ?_)
    obtain ⟨hO16, hAc17⟩ := h15
    have hA18 := zc_Ag.tr hA0 hAc17 rfl
    refine zr_aload_n hB 0 dX8_miss_34 rfl ?_
    refine zr_getr hG 0 3 dX8_miss_35 rfl wf_X8_35 rfl ?_
    refine zr_iload hB 4 dX8_miss_38 rfl ?_
    refine zr_callvi hG (rest := []) 4 dX8_miss_40 wm_X8_152 rfl rfl (c_X3_missOf_4 K hG.2.2.2.2.2.1 σ14 p4 hO16 ) rfl rfl (Nat.le_of_ble_eq_true rfl) ⟨Nat.le_of_ble_eq_true rfl, Nat.le_of_ble_eq_true rfl, rfl, rfl⟩ (fun r19 σ20 h21 => ?_)
    obtain ⟨rfl, r19a, r19b⟩ := h21
    exact zr_iret hG dX8_miss_43 ⟨hO16, hA18⟩
  have q22 := r8q.f c11
  refine zr_iconst hB dX8_miss_18 rfl (fun c23 ec23 => ?_)
  exact zr_iret hG dX8_miss_19 ⟨hO0, hA0⟩

def m_X8_misses_0 : zc_ms := [(4, some 3), (4, some 4), (21, none), (9, some 2), (43, none), (22, none), (4, some 7), (4, some 8)]
set_option maxHeartbeats 1000000 in
set_option maxRecDepth 100000 in
theorem c_X8_misses_0 (K : zc_K) (hi : zc_inj shX K.2.2.2.1) (σ0 : zc_S) (p1 : Int32) (p2 : Int32) (p3 : Int32) (p4 : Int32) (p5 : Int32) (p6 : Int32) (hO0 : zc_O okX σ0)  : zc_M shX K yX8_misses cX8_misses 8 (some .int) (zrm 7 190) σ0 [.ref (zk K 0), .int p1, .int p2, .int p3, .int p4, .int p5, .int p6] (zc_I (fun r9 σ9 => zc_O okX σ9 ∧ zc_Ag m_X8_misses_0 σ0 σ9)) := by
  refine zc_start RX8 hi pfX8_misses rfl (Nat.le_of_ble_eq_true rfl) ?_
  intro G hG
  have hB := hG.1
  have hA0 : zc_Ag m_X8_misses_0 σ0 σ0 := zc_Ag.rf
  show zc_V 8 K G (zc_D shX K G σ0) [(0, .ref (zk K 0)), (1, .int p1), (2, .int p2), (3, .int p3), (4, .int p4), (5, .int p5), (6, .int p6)] 0 []
  refine zr_aload_n hB 0 dX8_misses_0 rfl ?_
  refine zr_iload_n hB 1 dX8_misses_1 rfl ?_
  refine zr_iload_n hB 2 dX8_misses_2 rfl ?_
  refine zr_iload_n hB 3 dX8_misses_3 rfl ?_
  refine zr_callvi hG (rest := []) 0 dX8_misses_4 wm_X8_130 rfl rfl (c_X8_isAsked_0 K hG.2.2.2.2.2.1 σ0 p1 p2 p3 hO0 ) rfl rfl (Nat.le_of_ble_eq_true rfl) ⟨Nat.le_of_ble_eq_true rfl, Nat.le_of_ble_eq_true rfl, rfl, rfl⟩ (fun r1 σ2 h3 => ?_)
  obtain ⟨rfl, r1q⟩ := h3
  have r1z := r1q.b
  refine zr_if_eq hB dX8_misses_7 (tgt := 31) rfl (fun c4 => ?_) (fun c4 => ?_)
  · have q5 := r1q.f c4
    refine zr_iconst hB dX8_misses_31 rfl (fun c6 ec6 => ?_)
    exact zr_iret hG dX8_misses_32 ⟨hO0, hA0⟩
  have q7 := r1q.t c4
  refine zr_iload hB 4 dX8_misses_10 rfl ?_
  refine zr_iload hB 5 dX8_misses_12 rfl ?_
  refine zr_callsi hG (rest := []) dX8_misses_14 wm_X8_156 (c_X8_areDays K hG.2.2.2.2.2.1 σ0 p4 p5 hO0 ) rfl rfl (Nat.le_of_ble_eq_true rfl) ⟨Nat.le_of_ble_eq_true rfl, Nat.le_of_ble_eq_true rfl, rfl, rfl⟩ (fun r8 σ9 h10 => ?_)
  obtain ⟨rfl, r8q⟩ := h10
  have r8z := r8q.b
  refine zr_if_eq hB dX8_misses_17 (tgt := 31) rfl (fun c11 => ?_) (fun c11 => ?_)
  · have q12 := r8q.f c11
    refine zr_iconst hB dX8_misses_31 rfl (fun c13 ec13 => ?_)
    exact zr_iret hG dX8_misses_32 ⟨hO0, hA0⟩
  have q14 := r8q.t c11
  refine zr_iload hB 6 dX8_misses_20 rfl ?_
  refine zr_if_lt hB dX8_misses_22 (tgt := 31) rfl (fun c15 => ?_) (fun c15 => ?_)
  · refine zr_iconst hB dX8_misses_31 rfl (fun c16 ec16 => ?_)
    exact zr_iret hG dX8_misses_32 ⟨hO0, hA0⟩
  refine zr_iload hB 6 dX8_misses_25 rfl ?_
  refine zr_iconst hB dX8_misses_27 rfl (fun c17 ec17 => ?_)
  refine zr_icmp_le hB dX8_misses_28 (tgt := 33) rfl (fun c18 => ?_) (fun c18 => ?_)
  · refine zr_aload_n hB 0 dX8_misses_33 rfl ?_
    refine zr_getr hG 0 3 dX8_misses_34 rfl wf_X8_35 rfl ?_
    refine zr_iload_n hB 1 dX8_misses_37 rfl ?_
    refine zr_iload_n hB 2 dX8_misses_38 rfl ?_
    refine zr_iload_n hB 3 dX8_misses_39 rfl ?_
    refine zr_iload hB 4 dX8_misses_40 rfl ?_
    refine zr_iload hB 5 dX8_misses_42 rfl ?_
    refine zr_callvn hG (rest := []) 4 dX8_misses_44 wm_X8_149 rfl rfl (c_X3_compare_4 K hG.2.2.2.2.2.1 σ0 p1 p2 p3 p4 p5 hO0 (by omega) (by omega) (by omega) (by omega) (by omega) (by omega) (by omega) (by omega)) rfl rfl (Nat.le_of_ble_eq_true rfl) ⟨Nat.le_of_ble_eq_true rfl, Nat.le_of_ble_eq_true rfl, rfl, rfl⟩ (fun σ20 h21 => ?_)
    obtain ⟨hO22, hAc23⟩ := h21
    have hA24 := zc_Ag.tr hA0 hAc23 rfl
    refine zr_iload hB 6 dX8_misses_47 rfl ?_
    refine zr_iconst hB dX8_misses_49 rfl (fun c25 ec25 => ?_)
    refine zr_icmp_ge hB dX8_misses_50 (tgt := 76) rfl (fun c26 => ?_) (fun c26 => ?_)
    · refine zr_aload_n hB 0 dX8_misses_76 rfl ?_
      refine zr_getr hG 0 3 dX8_misses_77 rfl wf_X8_35 rfl ?_
      refine zr_iload hB 4 dX8_misses_80 rfl ?_
      refine zr_iload hB 5 dX8_misses_82 rfl ?_
      refine zr_callvi hG (rest := []) 4 dX8_misses_84 wm_X8_165 rfl rfl (c_X3_worstDay_4 K hG.2.2.2.2.2.1 σ20 p4 p5 hO22 (by omega) (by omega) (by omega) (by omega)) rfl rfl (Nat.le_of_ble_eq_true rfl) ⟨Nat.le_of_ble_eq_true rfl, Nat.le_of_ble_eq_true rfl, rfl, rfl⟩ (fun r27 σ28 h29 => ?_)
      obtain ⟨rfl, r27a, r27b⟩ := h29
      refine zr_istore hB dX8_misses_87 (by decide) (lv' := [(7, .int r27), (0, .ref (zk K 0)), (1, .int p1), (2, .int p2), (3, .int p3), (4, .int p4), (5, .int p5), (6, .int p6)]) rfl ?_
      refine zr_iload hB 0 dX8_misses_89 rfl ?_
      refine zr_if_ge hB dX8_misses_91 (tgt := 99) rfl (fun c30 => ?_) (fun c30 => ?_)
      · refine zr_iload hB 7 dX8_misses_99 rfl ?_
        refine zr_iconst hB dX8_misses_101 rfl (fun c31 ec31 => ?_)
        refine zr_icmp_ne hB dX8_misses_102 (tgt := 117) rfl (fun c32 => ?_) (fun c32 => ?_)
        · refine zr_iload hB 0 dX8_misses_117 rfl ?_
          exact zr_iret hG dX8_misses_119 ⟨hO22, hA24⟩
        refine zr_aload_n hB 1 dX8_misses_105 rfl ?_
        refine zr_getr hG 0 3 dX8_misses_106 rfl wf_X8_35 rfl ?_
        refine zr_iload hB 0 dX8_misses_109 rfl ?_
        refine zr_callvi hG (rest := []) 4 dX8_misses_111 wm_X8_152 rfl rfl (c_X3_missOf_4 K hG.2.2.2.2.2.1 σ20 r27 hO22 ) rfl rfl (Nat.le_of_ble_eq_true rfl) ⟨Nat.le_of_ble_eq_true rfl, Nat.le_of_ble_eq_true rfl, rfl, rfl⟩ (fun r33 σ34 h35 => ?_)
        obtain ⟨rfl, r33a, r33b⟩ := h35
        refine zr_goto hB dX8_misses_114 (tgt := 119) rfl ?_
        exact zr_iret hG dX8_misses_119 ⟨hO22, hA24⟩
      refine zr_bipush hB dX8_misses_94 rfl (fun c36 ec36 => ?_)
      refine zr_goto hB dX8_misses_96 (tgt := 119) rfl ?_
      exact zr_iret hG dX8_misses_119 ⟨hO22, hA24⟩
    refine zr_iload hB 6 dX8_misses_53 rfl ?_
    refine zr_if_ne hB dX8_misses_55 (tgt := 68) rfl (fun c37 => ?_) (fun c37 => ?_)
    · refine zr_aload_n hB 0 dX8_misses_68 rfl ?_
      refine zr_getr hG 0 3 dX8_misses_69 rfl wf_X8_35 rfl ?_
      refine zr_geti' hG 4 8 (σ20.1 4 8) dX8_misses_72 rfl wf_X8_162 rfl rfl ?_
      exact zr_iret hG dX8_misses_75 ⟨hO22, hA24⟩
    refine zr_aload_n hB 0 dX8_misses_58 rfl ?_
    refine zr_getr hG 0 3 dX8_misses_59 rfl wf_X8_35 rfl ?_
    refine zr_geti' hG 4 7 (σ20.1 4 7) dX8_misses_62 rfl wf_X8_159 rfl rfl ?_
    have b38 : 0 ≤ (σ20.1 4 7).toInt ∧ (σ20.1 4 7).toInt ≤ 64 := ⟨(hO22 4 7).1, (hO22 4 7).2.1⟩
    refine zr_goto hB dX8_misses_65 (tgt := 75) rfl ?_
    exact zr_iret hG dX8_misses_75 ⟨hO22, hA24⟩
  refine zr_iconst hB dX8_misses_31 rfl (fun c39 ec39 => ?_)
  exact zr_iret hG dX8_misses_32 ⟨hO0, hA0⟩

def m_X8_best_0 : zc_ms := [(4, some 3), (4, some 4), (21, none), (9, some 2), (43, none), (22, none), (4, some 7), (4, some 8)]
set_option maxHeartbeats 1000000 in
set_option maxRecDepth 100000 in
theorem c_X8_best_0 (K : zc_K) (hi : zc_inj shX K.2.2.2.1) (σ0 : zc_S) (p1 : Int32) (p2 : Int32) (p3 : Int32) (p4 : Int32) (hO0 : zc_O okX σ0)  : zc_M shX K yX8_best cX8_best 10 (some .int) (zrm 7 190) σ0 [.ref (zk K 0), .int p1, .int p2, .int p3, .int p4] (zc_I (fun r9 σ9 => zc_O okX σ9 ∧ zc_Ag m_X8_best_0 σ0 σ9)) := by
  refine zc_start RX8 hi pfX8_best rfl (Nat.le_of_ble_eq_true rfl) ?_
  intro G hG
  have hB := hG.1
  have hA0 : zc_Ag m_X8_best_0 σ0 σ0 := zc_Ag.rf
  show zc_V 10 K G (zc_D shX K G σ0) [(0, .ref (zk K 0)), (1, .int p1), (2, .int p2), (3, .int p3), (4, .int p4)] 0 []
  refine zr_iload_n hB 1 dX8_best_0 rfl ?_
  refine zr_callsi hG (rest := []) dX8_best_1 wm_X8_70 (c_X8_isShop K hG.2.2.2.2.2.1 σ0 p1 hO0 ) rfl rfl (Nat.le_of_ble_eq_true rfl) ⟨Nat.le_of_ble_eq_true rfl, Nat.le_of_ble_eq_true rfl, rfl, rfl⟩ (fun r1 σ2 h3 => ?_)
  obtain ⟨rfl, r1q⟩ := h3
  have r1z := r1q.b
  refine zr_if_eq hB dX8_best_4 (tgt := 23) rfl (fun c4 => ?_) (fun c4 => ?_)
  · have q5 := r1q.f c4
    refine zr_iconst hB dX8_best_23 rfl (fun c6 ec6 => ?_)
    exact zr_iret hG dX8_best_24 ⟨hO0, hA0⟩
  have q7 := r1q.t c4
  refine zr_iload_n hB 2 dX8_best_7 rfl ?_
  refine zr_callsi hG (rest := []) dX8_best_8 wm_X8_168 (c_X8_isAhead K hG.2.2.2.2.2.1 σ0 p2 hO0 ) rfl rfl (Nat.le_of_ble_eq_true rfl) ⟨Nat.le_of_ble_eq_true rfl, Nat.le_of_ble_eq_true rfl, rfl, rfl⟩ (fun r8 σ9 h10 => ?_)
  obtain ⟨rfl, r8q⟩ := h10
  have r8z := r8q.b
  refine zr_if_eq hB dX8_best_11 (tgt := 23) rfl (fun c11 => ?_) (fun c11 => ?_)
  · have q12 := r8q.f c11
    refine zr_iconst hB dX8_best_23 rfl (fun c13 ec13 => ?_)
    exact zr_iret hG dX8_best_24 ⟨hO0, hA0⟩
  have q14 := r8q.t c11
  refine zr_iload_n hB 3 dX8_best_14 rfl ?_
  refine zr_iload hB 4 dX8_best_15 rfl ?_
  refine zr_callsi hG (rest := []) dX8_best_17 wm_X8_156 (c_X8_areDays K hG.2.2.2.2.2.1 σ0 p3 p4 hO0 ) rfl rfl (Nat.le_of_ble_eq_true rfl) ⟨Nat.le_of_ble_eq_true rfl, Nat.le_of_ble_eq_true rfl, rfl, rfl⟩ (fun r15 σ16 h17 => ?_)
  obtain ⟨rfl, r15q⟩ := h17
  have r15z := r15q.b
  refine zr_if_ne hB dX8_best_20 (tgt := 25) rfl (fun c18 => ?_) (fun c18 => ?_)
  · have q19 := r15q.t c18
    refine zr_bipush hB dX8_best_25 rfl (fun c20 ec20 => ?_)
    refine zr_istore hB dX8_best_27 (by decide) (lv' := [(5, .int c20), (0, .ref (zk K 0)), (1, .int p1), (2, .int p2), (3, .int p3), (4, .int p4)]) rfl ?_
    refine zr_iconst hB dX8_best_29 rfl (fun c21 ec21 => ?_)
    refine zr_istore hB dX8_best_30 (by decide) (lv' := [(6, .int c21), (5, .int c20), (0, .ref (zk K 0)), (1, .int p1), (2, .int p2), (3, .int p3), (4, .int p4)]) rfl ?_
    refine zr_iconst hB dX8_best_32 rfl (fun c22 ec22 => ?_)
    refine zr_istore hB dX8_best_33 (by decide) (lv' := [(7, .int c22), (6, .int c21), (5, .int c20), (0, .ref (zk K 0)), (1, .int p1), (2, .int p2), (3, .int p3), (4, .int p4)]) rfl ?_
    refine zr_iconst hB dX8_best_35 rfl (fun c23 ec23 => ?_)
    refine zr_istore hB dX8_best_36 (by decide) (lv' := [(8, .int c23), (7, .int c22), (6, .int c21), (5, .int c20), (0, .ref (zk K 0)), (1, .int p1), (2, .int p2), (3, .int p3), (4, .int p4)]) rfl ?_
    have L38_29 : ∀ (n38 : Nat) (σ28 : zc_S) (y5_24 : Int32) (y6_25 : Int32) (y7_26 : Int32) (y8_27 : Int32), zc_O okX σ28 → zc_Ag m_X8_best_0 σ0 σ28 → (-4) ≤ y5_24.toInt → y5_24.toInt ≤ 5 → 0 ≤ y6_25.toInt → y6_25.toInt ≤ 64 → 0 ≤ y8_27.toInt → y8_27.toInt ≤ 6 → 6 - y8_27.toInt < (n38 : Int) → zc_V 10 K G (zc_D shX K G σ28) [(0, .ref (zk K 0)), (1, .int p1), (2, .int p2), (3, .int p3), (4, .int p4), (5, .int y5_24), (6, .int y6_25), (7, .int y7_26), (8, .int y8_27)] 38 [] := by
      intro n38
      induction n38 with
      | zero => intro σ28 y5_24 y6_25 y7_26 y8_27 hO28 hA28 y5_24a y5_24b y6_25a y6_25b y8_27a y8_27b hn38; have vy7_26 := And.intro (zn_lo y7_26) (zn_hi y7_26); exfalso; omega
      | succ n38 ih38 =>
        intro σ28 y5_24 y6_25 y7_26 y8_27 hO28 hA28 y5_24a y5_24b y6_25a y6_25b y8_27a y8_27b hn38
        have vy7_26 := And.intro (zn_lo y7_26) (zn_hi y7_26)
        refine zr_iload hB 8 dX8_best_38 rfl ?_
        refine zr_aload_n hB 0 dX8_best_40 rfl ?_
        refine zr_getr hG 0 2 dX8_best_41 rfl wf_X8_26 rfl ?_
        refine zr_geti' hG 3 0 (σ28.1 3 0) dX8_best_44 rfl wf_X8_114 rfl rfl ?_
        have b30 : 0 ≤ (σ28.1 3 0).toInt ∧ (σ28.1 3 0).toInt ≤ 6 := ⟨(hO28 3 0).1, (hO28 3 0).2.1⟩
        refine zr_icmp_ge hB dX8_best_47 (tgt := 147) rfl (fun c31 => ?_) (fun c31 => ?_)
        · refine zr_iload hB 5 dX8_best_147 rfl ?_
          exact zr_iret hG dX8_best_149 ⟨hO28, hA28⟩
        refine zr_aload_n hB 0 dX8_best_50 rfl ?_
        refine zr_getr hG 0 3 dX8_best_51 rfl wf_X8_35 rfl ?_
        refine zr_iload_n hB 1 dX8_best_54 rfl ?_
        refine zr_iload hB 8 dX8_best_55 rfl ?_
        refine zr_iload_n hB 2 dX8_best_57 rfl ?_
        refine zr_iload_n hB 3 dX8_best_58 rfl ?_
        refine zr_iload hB 4 dX8_best_59 rfl ?_
        refine zr_callvn hG (rest := []) 4 dX8_best_61 wm_X8_149 rfl rfl (c_X3_compare_4 K hG.2.2.2.2.2.1 σ28 p1 y8_27 p2 p3 p4 hO28 (by omega) (by omega) (by omega) (by omega) (by omega) (by omega) (by omega) (by omega)) rfl rfl (Nat.le_of_ble_eq_true rfl) ⟨Nat.le_of_ble_eq_true rfl, Nat.le_of_ble_eq_true rfl, rfl, rfl⟩ (fun σ33 h34 => ?_)
        obtain ⟨hO35, hAc36⟩ := h34
        have hA37 := zc_Ag.tr hA28 hAc36 rfl
        have q38 : (σ33.1 3 0).toInt = (σ28.1 3 0).toInt := congrArg Int32.toInt (hAc36 3 0 rfl).1
        refine zr_aload_n hB 0 dX8_best_64 rfl ?_
        refine zr_getr hG 0 3 dX8_best_65 rfl wf_X8_35 rfl ?_
        refine zr_geti' hG 4 8 (σ33.1 4 8) dX8_best_68 rfl wf_X8_162 rfl rfl ?_
        have v40 := And.intro (zn_lo (σ33.1 4 8)) (zn_hi (σ33.1 4 8))
        refine zr_i2l hB dX8_best_71 (fun l39 el39 => ?_)
        refine zr_iload hB 6 dX8_best_72 rfl ?_
        refine zr_i2l hB dX8_best_74 (fun l41 el41 => ?_)
        refine zr_lmulw hB dX8_best_75 (fun l42 el42 => ?_)
        refine zr_iload hB 7 dX8_best_76 rfl ?_
        have v44 := And.intro (zn_lo y7_26) (zn_hi y7_26)
        refine zr_i2l hB dX8_best_78 (fun l43 el43 => ?_)
        refine zr_aload_n hB 0 dX8_best_79 rfl ?_
        refine zr_getr hG 0 3 dX8_best_80 rfl wf_X8_35 rfl ?_
        refine zr_geti' hG 4 7 (σ33.1 4 7) dX8_best_83 rfl wf_X8_159 rfl rfl ?_
        have b45 : 0 ≤ (σ33.1 4 7).toInt ∧ (σ33.1 4 7).toInt ≤ 64 := ⟨(hO35 4 7).1, (hO35 4 7).2.1⟩
        refine zr_i2l hB dX8_best_86 (fun l46 el46 => ?_)
        refine zr_lmulw hB dX8_best_87 (fun l47 el47 => ?_)
        refine zr_lcmp_ge hB dX8_best_88 dX8_best_89 (tgt := 96) rfl (fun c48 => ?_) (fun c48 => ?_)
        · refine zr_iconst hB dX8_best_96 rfl (fun c49 ec49 => ?_)
          refine zr_istore hB dX8_best_97 (by decide) (lv' := [(9, .int c49), (0, .ref (zk K 0)), (1, .int p1), (2, .int p2), (3, .int p3), (4, .int p4), (5, .int y5_24), (6, .int y6_25), (7, .int y7_26), (8, .int y8_27)]) rfl ?_
          refine zr_aload_n hB 1 dX8_best_99 rfl ?_
          refine zr_getr hG 0 3 dX8_best_100 rfl wf_X8_35 rfl ?_
          refine zr_geti' hG 4 7 (σ33.1 4 7) dX8_best_103 rfl wf_X8_159 rfl rfl ?_
          refine zr_if_le hB dX8_best_106 (tgt := 141) rfl (fun c50 => ?_) (fun c50 => ?_)
          · refine zr_iinc hB 9 dX8_best_141 rfl (by decide) rfl (by omega) (by omega) (fun x51 ex51 lv' hlv => ?_)
            obtain rfl : [(8, .int x51), (9, .int c49), (0, .ref (zk K 0)), (1, .int p1), (2, .int p2), (3, .int p3), (4, .int p4), (5, .int y5_24), (6, .int y6_25), (7, .int y7_26)] = lv' := hlv
            refine zr_goto hB dX8_best_144 (tgt := 38) rfl ?_
            exact zc_sub [2, 3, 4, 5, 6, 7, 8, 9, 0] rfl (ih38 σ33 y5_24 y6_25 y7_26 x51 hO35 hA37 (by omega) (by omega) (by omega) (by omega) (by omega) (by omega) (by omega))
          refine zr_iload hB 6 dX8_best_109 rfl ?_
          have L119_52 : zc_V 10 K G (zc_D shX K G σ33) [(0, .ref (zk K 0)), (1, .int p1), (2, .int p2), (3, .int p3), (4, .int p4), (5, .int y5_24), (6, .int y6_25), (7, .int y7_26), (8, .int y8_27), (9, .int c49)] 119 [] := by
            refine zr_iload hB 8 dX8_best_119 rfl ?_
            refine zr_istore hB dX8_best_121 (by decide) (lv' := [(5, .int y8_27), (0, .ref (zk K 0)), (1, .int p1), (2, .int p2), (3, .int p3), (4, .int p4), (6, .int y6_25), (7, .int y7_26), (8, .int y8_27), (9, .int c49)]) rfl ?_
            refine zr_aload_n hB 1 dX8_best_123 rfl ?_
            refine zr_getr hG 0 3 dX8_best_124 rfl wf_X8_35 rfl ?_
            refine zr_geti' hG 4 7 (σ33.1 4 7) dX8_best_127 rfl wf_X8_159 rfl rfl ?_
            refine zr_istore hB dX8_best_130 (by decide) (lv' := [(6, .int (σ33.1 4 7)), (5, .int y8_27), (0, .ref (zk K 0)), (1, .int p1), (2, .int p2), (3, .int p3), (4, .int p4), (7, .int y7_26), (8, .int y8_27), (9, .int c49)]) rfl ?_
            refine zr_aload_n hB 2 dX8_best_132 rfl ?_
            refine zr_getr hG 0 3 dX8_best_133 rfl wf_X8_35 rfl ?_
            refine zr_geti' hG 4 8 (σ33.1 4 8) dX8_best_136 rfl wf_X8_162 rfl rfl ?_
            refine zr_istore hB dX8_best_139 (by decide) (lv' := [(7, .int (σ33.1 4 8)), (6, .int (σ33.1 4 7)), (5, .int y8_27), (0, .ref (zk K 0)), (1, .int p1), (2, .int p2), (3, .int p3), (4, .int p4), (8, .int y8_27), (9, .int c49)]) rfl ?_
            refine zr_iinc hB 8 dX8_best_141 rfl (by decide) rfl (by omega) (by omega) (fun x53 ex53 lv' hlv => ?_)
            obtain rfl : [(8, .int x53), (7, .int (σ33.1 4 8)), (6, .int (σ33.1 4 7)), (5, .int y8_27), (0, .ref (zk K 0)), (1, .int p1), (2, .int p2), (3, .int p3), (4, .int p4), (9, .int c49)] = lv' := hlv
            refine zr_goto hB dX8_best_144 (tgt := 38) rfl ?_
            exact zc_sub [4, 5, 6, 7, 8, 3, 2, 1, 0] rfl (ih38 σ33 y8_27 (σ33.1 4 7) (σ33.1 4 8) x53 hO35 hA37 (by omega) (by omega) (by omega) (by omega) (by omega) (by omega) (by omega))
          refine zr_if_lt hB dX8_best_111 (tgt := 119) rfl (fun c54 => ?_) (fun c54 => ?_)
          · exact zc_sub [1, 2, 3, 4, 5, 6, 7, 8, 9, 0] rfl (L119_52)
          refine zr_iload hB 0 dX8_best_114 rfl ?_
          refine zr_if_eq hB dX8_best_116 (tgt := 141) rfl (fun c55 => ?_) (fun c55 => ?_)
          · refine zr_iinc hB 9 dX8_best_141 rfl (by decide) rfl (by omega) (by omega) (fun x56 ex56 lv' hlv => ?_)
            obtain rfl : [(8, .int x56), (9, .int c49), (0, .ref (zk K 0)), (1, .int p1), (2, .int p2), (3, .int p3), (4, .int p4), (5, .int y5_24), (6, .int y6_25), (7, .int y7_26)] = lv' := hlv
            refine zr_goto hB dX8_best_144 (tgt := 38) rfl ?_
            exact zc_sub [2, 3, 4, 5, 6, 7, 8, 9, 0] rfl (ih38 σ33 y5_24 y6_25 y7_26 x56 hO35 hA37 (by omega) (by omega) (by omega) (by omega) (by omega) (by omega) (by omega))
          exfalso; omega
        refine zr_iconst hB dX8_best_92 rfl (fun c57 ec57 => ?_)
        refine zr_goto hB dX8_best_93 (tgt := 97) rfl ?_
        refine zr_istore hB dX8_best_97 (by decide) (lv' := [(9, .int c57), (0, .ref (zk K 0)), (1, .int p1), (2, .int p2), (3, .int p3), (4, .int p4), (5, .int y5_24), (6, .int y6_25), (7, .int y7_26), (8, .int y8_27)]) rfl ?_
        refine zr_aload_n hB 1 dX8_best_99 rfl ?_
        refine zr_getr hG 0 3 dX8_best_100 rfl wf_X8_35 rfl ?_
        refine zr_geti' hG 4 7 (σ33.1 4 7) dX8_best_103 rfl wf_X8_159 rfl rfl ?_
        refine zr_if_le hB dX8_best_106 (tgt := 141) rfl (fun c58 => ?_) (fun c58 => ?_)
        · refine zr_iinc hB 9 dX8_best_141 rfl (by decide) rfl (by omega) (by omega) (fun x59 ex59 lv' hlv => ?_)
          obtain rfl : [(8, .int x59), (9, .int c57), (0, .ref (zk K 0)), (1, .int p1), (2, .int p2), (3, .int p3), (4, .int p4), (5, .int y5_24), (6, .int y6_25), (7, .int y7_26)] = lv' := hlv
          refine zr_goto hB dX8_best_144 (tgt := 38) rfl ?_
          exact zc_sub [2, 3, 4, 5, 6, 7, 8, 9, 0] rfl (ih38 σ33 y5_24 y6_25 y7_26 x59 hO35 hA37 (by omega) (by omega) (by omega) (by omega) (by omega) (by omega) (by omega))
        refine zr_iload hB 6 dX8_best_109 rfl ?_
        have L119_60 : zc_V 10 K G (zc_D shX K G σ33) [(0, .ref (zk K 0)), (1, .int p1), (2, .int p2), (3, .int p3), (4, .int p4), (5, .int y5_24), (6, .int y6_25), (7, .int y7_26), (8, .int y8_27), (9, .int c57)] 119 [] := by
          refine zr_iload hB 8 dX8_best_119 rfl ?_
          refine zr_istore hB dX8_best_121 (by decide) (lv' := [(5, .int y8_27), (0, .ref (zk K 0)), (1, .int p1), (2, .int p2), (3, .int p3), (4, .int p4), (6, .int y6_25), (7, .int y7_26), (8, .int y8_27), (9, .int c57)]) rfl ?_
          refine zr_aload_n hB 1 dX8_best_123 rfl ?_
          refine zr_getr hG 0 3 dX8_best_124 rfl wf_X8_35 rfl ?_
          refine zr_geti' hG 4 7 (σ33.1 4 7) dX8_best_127 rfl wf_X8_159 rfl rfl ?_
          refine zr_istore hB dX8_best_130 (by decide) (lv' := [(6, .int (σ33.1 4 7)), (5, .int y8_27), (0, .ref (zk K 0)), (1, .int p1), (2, .int p2), (3, .int p3), (4, .int p4), (7, .int y7_26), (8, .int y8_27), (9, .int c57)]) rfl ?_
          refine zr_aload_n hB 2 dX8_best_132 rfl ?_
          refine zr_getr hG 0 3 dX8_best_133 rfl wf_X8_35 rfl ?_
          refine zr_geti' hG 4 8 (σ33.1 4 8) dX8_best_136 rfl wf_X8_162 rfl rfl ?_
          refine zr_istore hB dX8_best_139 (by decide) (lv' := [(7, .int (σ33.1 4 8)), (6, .int (σ33.1 4 7)), (5, .int y8_27), (0, .ref (zk K 0)), (1, .int p1), (2, .int p2), (3, .int p3), (4, .int p4), (8, .int y8_27), (9, .int c57)]) rfl ?_
          refine zr_iinc hB 8 dX8_best_141 rfl (by decide) rfl (by omega) (by omega) (fun x61 ex61 lv' hlv => ?_)
          obtain rfl : [(8, .int x61), (7, .int (σ33.1 4 8)), (6, .int (σ33.1 4 7)), (5, .int y8_27), (0, .ref (zk K 0)), (1, .int p1), (2, .int p2), (3, .int p3), (4, .int p4), (9, .int c57)] = lv' := hlv
          refine zr_goto hB dX8_best_144 (tgt := 38) rfl ?_
          exact zc_sub [4, 5, 6, 7, 8, 3, 2, 1, 0] rfl (ih38 σ33 y8_27 (σ33.1 4 7) (σ33.1 4 8) x61 hO35 hA37 (by omega) (by omega) (by omega) (by omega) (by omega) (by omega) (by omega))
        refine zr_if_lt hB dX8_best_111 (tgt := 119) rfl (fun c62 => ?_) (fun c62 => ?_)
        · exact zc_sub [1, 2, 3, 4, 5, 6, 7, 8, 9, 0] rfl (L119_60)
        refine zr_iload hB 0 dX8_best_114 rfl ?_
        refine zr_if_eq hB dX8_best_116 (tgt := 141) rfl (fun c63 => ?_) (fun c63 => ?_)
        · exfalso; omega
        exact zc_sub [1, 2, 3, 4, 5, 6, 7, 8, 9, 0] rfl (L119_60)
    exact zc_sub [4, 5, 6, 7, 8, 3, 2, 1, 0] rfl (L38_29 8 σ0 c20 c21 c22 c23 hO0 hA0 (by omega) (by omega) (by omega) (by omega) (by omega) (by omega) (by omega))
  have q64 := r15q.f c18
  refine zr_iconst hB dX8_best_23 rfl (fun c65 ec65 => ?_)
  exact zr_iret hG dX8_best_24 ⟨hO0, hA0⟩

def m_X8_fit_0 : zc_ms := [(5, some 6), (5, some 7), (28, none), (29, none), (27, none), (25, none), (26, none), (5, some 2), (10, some 2), (44, none)]
set_option maxHeartbeats 1000000 in
set_option maxRecDepth 100000 in
theorem c_X8_fit_0 (K : zc_K) (hi : zc_inj shX K.2.2.2.1) (σ0 : zc_S) (p1 : Int32) (p2 : Int32) (p3 : Int32) (p4 : Int32) (p5 : Int32) (p6 : Int32) (hO0 : zc_O okX σ0)  : zc_M shX K yX8_fit cX8_fit 9 (some .int) (zrm 6 159) σ0 [.ref (zk K 0), .int p1, .int p2, .int p3, .int p4, .int p5, .int p6] (zc_I (fun r9 σ9 => zc_O okX σ9 ∧ zc_Ag m_X8_fit_0 σ0 σ9)) := by
  refine zc_start RX8 hi pfX8_fit rfl (Nat.le_of_ble_eq_true rfl) ?_
  intro G hG
  have hB := hG.1
  have hA0 : zc_Ag m_X8_fit_0 σ0 σ0 := zc_Ag.rf
  show zc_V 9 K G (zc_D shX K G σ0) [(0, .ref (zk K 0)), (1, .int p1), (2, .int p2), (3, .int p3), (4, .int p4), (5, .int p5), (6, .int p6)] 0 []
  refine zr_iload_n hB 2 dX8_fit_0 rfl ?_
  refine zr_if_lt hB dX8_fit_1 (tgt := 13) rfl (fun c1 => ?_) (fun c1 => ?_)
  · refine zr_iconst hB dX8_fit_13 rfl (fun c2 ec2 => ?_)
    refine zr_istore hB dX8_fit_14 (by decide) (lv' := [(7, .int c2), (0, .ref (zk K 0)), (1, .int p1), (2, .int p2), (3, .int p3), (4, .int p4), (5, .int p5), (6, .int p6)]) rfl ?_
    refine zr_iload_n hB 2 dX8_fit_16 rfl ?_
    refine zr_callsi hG (rest := []) dX8_fit_17 wm_X8_70 (c_X8_isShop K hG.2.2.2.2.2.1 σ0 p1 hO0 ) rfl rfl (Nat.le_of_ble_eq_true rfl) ⟨Nat.le_of_ble_eq_true rfl, Nat.le_of_ble_eq_true rfl, rfl, rfl⟩ (fun r3 σ4 h5 => ?_)
    obtain ⟨rfl, r3q⟩ := h5
    have r3z := r3q.b
    refine zr_if_eq hB dX8_fit_20 (tgt := 56) rfl (fun c6 => ?_) (fun c6 => ?_)
    · have q7 := r3q.f c6
      refine zr_iconst hB dX8_fit_56 rfl (fun c8 ec8 => ?_)
      exact zr_iret hG dX8_fit_57 ⟨hO0, hA0⟩
    have q9 := r3q.t c6
    refine zr_iload hB 0 dX8_fit_23 rfl ?_
    refine zr_if_eq hB dX8_fit_25 (tgt := 56) rfl (fun c10 => ?_) (fun c10 => ?_)
    · refine zr_iconst hB dX8_fit_56 rfl (fun c11 ec11 => ?_)
      exact zr_iret hG dX8_fit_57 ⟨hO0, hA0⟩
    exfalso; omega
  refine zr_iload_n hB 2 dX8_fit_4 rfl ?_
  refine zr_iconst hB dX8_fit_5 rfl (fun c12 ec12 => ?_)
  refine zr_icmp_gt hB dX8_fit_6 (tgt := 13) rfl (fun c13 => ?_) (fun c13 => ?_)
  · refine zr_iconst hB dX8_fit_13 rfl (fun c14 ec14 => ?_)
    refine zr_istore hB dX8_fit_14 (by decide) (lv' := [(7, .int c14), (0, .ref (zk K 0)), (1, .int p1), (2, .int p2), (3, .int p3), (4, .int p4), (5, .int p5), (6, .int p6)]) rfl ?_
    refine zr_iload_n hB 2 dX8_fit_16 rfl ?_
    refine zr_callsi hG (rest := []) dX8_fit_17 wm_X8_70 (c_X8_isShop K hG.2.2.2.2.2.1 σ0 p1 hO0 ) rfl rfl (Nat.le_of_ble_eq_true rfl) ⟨Nat.le_of_ble_eq_true rfl, Nat.le_of_ble_eq_true rfl, rfl, rfl⟩ (fun r15 σ16 h17 => ?_)
    obtain ⟨rfl, r15q⟩ := h17
    have r15z := r15q.b
    refine zr_if_eq hB dX8_fit_20 (tgt := 56) rfl (fun c18 => ?_) (fun c18 => ?_)
    · have q19 := r15q.f c18
      refine zr_iconst hB dX8_fit_56 rfl (fun c20 ec20 => ?_)
      exact zr_iret hG dX8_fit_57 ⟨hO0, hA0⟩
    have q21 := r15q.t c18
    refine zr_iload hB 0 dX8_fit_23 rfl ?_
    refine zr_if_eq hB dX8_fit_25 (tgt := 56) rfl (fun c22 => ?_) (fun c22 => ?_)
    · refine zr_iconst hB dX8_fit_56 rfl (fun c23 ec23 => ?_)
      exact zr_iret hG dX8_fit_57 ⟨hO0, hA0⟩
    exfalso; omega
  refine zr_iconst hB dX8_fit_9 rfl (fun c24 ec24 => ?_)
  refine zr_goto hB dX8_fit_10 (tgt := 14) rfl ?_
  refine zr_istore hB dX8_fit_14 (by decide) (lv' := [(7, .int c24), (0, .ref (zk K 0)), (1, .int p1), (2, .int p2), (3, .int p3), (4, .int p4), (5, .int p5), (6, .int p6)]) rfl ?_
  refine zr_iload_n hB 2 dX8_fit_16 rfl ?_
  refine zr_callsi hG (rest := []) dX8_fit_17 wm_X8_70 (c_X8_isShop K hG.2.2.2.2.2.1 σ0 p1 hO0 ) rfl rfl (Nat.le_of_ble_eq_true rfl) ⟨Nat.le_of_ble_eq_true rfl, Nat.le_of_ble_eq_true rfl, rfl, rfl⟩ (fun r25 σ26 h27 => ?_)
  obtain ⟨rfl, r25q⟩ := h27
  have r25z := r25q.b
  refine zr_if_eq hB dX8_fit_20 (tgt := 56) rfl (fun c28 => ?_) (fun c28 => ?_)
  · have q29 := r25q.f c28
    refine zr_iconst hB dX8_fit_56 rfl (fun c30 ec30 => ?_)
    exact zr_iret hG dX8_fit_57 ⟨hO0, hA0⟩
  have q31 := r25q.t c28
  refine zr_iload hB 0 dX8_fit_23 rfl ?_
  refine zr_if_eq hB dX8_fit_25 (tgt := 56) rfl (fun c32 => ?_) (fun c32 => ?_)
  · exfalso; omega
  refine zr_iload_n hB 4 dX8_fit_28 rfl ?_
  refine zr_callsi hG (rest := []) dX8_fit_29 wm_X8_168 (c_X8_isAhead K hG.2.2.2.2.2.1 σ0 p3 hO0 ) rfl rfl (Nat.le_of_ble_eq_true rfl) ⟨Nat.le_of_ble_eq_true rfl, Nat.le_of_ble_eq_true rfl, rfl, rfl⟩ (fun r33 σ34 h35 => ?_)
  obtain ⟨rfl, r33q⟩ := h35
  have r33z := r33q.b
  refine zr_if_eq hB dX8_fit_32 (tgt := 56) rfl (fun c36 => ?_) (fun c36 => ?_)
  · have q37 := r33q.f c36
    refine zr_iconst hB dX8_fit_56 rfl (fun c38 ec38 => ?_)
    exact zr_iret hG dX8_fit_57 ⟨hO0, hA0⟩
  have q39 := r33q.t c36
  refine zr_iload hB 5 dX8_fit_35 rfl ?_
  refine zr_iload hB 6 dX8_fit_37 rfl ?_
  refine zr_callsi hG (rest := []) dX8_fit_39 wm_X8_156 (c_X8_areDays K hG.2.2.2.2.2.1 σ0 p4 p5 hO0 ) rfl rfl (Nat.le_of_ble_eq_true rfl) ⟨Nat.le_of_ble_eq_true rfl, Nat.le_of_ble_eq_true rfl, rfl, rfl⟩ (fun r40 σ41 h42 => ?_)
  obtain ⟨rfl, r40q⟩ := h42
  have r40z := r40q.b
  refine zr_if_eq hB dX8_fit_42 (tgt := 56) rfl (fun c43 => ?_) (fun c43 => ?_)
  · have q44 := r40q.f c43
    refine zr_iconst hB dX8_fit_56 rfl (fun c45 ec45 => ?_)
    exact zr_iret hG dX8_fit_57 ⟨hO0, hA0⟩
  have q46 := r40q.t c43
  refine zr_iload hB 7 dX8_fit_45 rfl ?_
  refine zr_if_lt hB dX8_fit_47 (tgt := 56) rfl (fun c47 => ?_) (fun c47 => ?_)
  · refine zr_iconst hB dX8_fit_56 rfl (fun c48 ec48 => ?_)
    exact zr_iret hG dX8_fit_57 ⟨hO0, hA0⟩
  refine zr_iload hB 7 dX8_fit_50 rfl ?_
  refine zr_iconst hB dX8_fit_52 rfl (fun c49 ec49 => ?_)
  refine zr_icmp_le hB dX8_fit_53 (tgt := 58) rfl (fun c50 => ?_) (fun c50 => ?_)
  · refine zr_aload_n hB 1 dX8_fit_58 rfl ?_
    refine zr_getr hG 0 4 dX8_fit_59 rfl wf_X8_44 rfl ?_
    refine zr_iload_n hB 2 dX8_fit_62 rfl ?_
    refine zr_iload_n hB 3 dX8_fit_63 rfl ?_
    refine zr_iload_n hB 4 dX8_fit_64 rfl ?_
    refine zr_iload hB 5 dX8_fit_65 rfl ?_
    refine zr_iload hB 6 dX8_fit_67 rfl ?_
    refine zr_callvn hG (rest := []) 5 dX8_fit_69 wm_X8_171 rfl rfl (c_X0_run_5 K hG.2.2.2.2.2.1 σ0 p1 p2 p3 p4 p5 hO0 (by omega) (by omega) (by omega) (by omega) (by omega) (by omega) (by omega) (by omega) (by omega) (by omega)) rfl rfl (Nat.le_of_ble_eq_true rfl) ⟨Nat.le_of_ble_eq_true rfl, Nat.le_of_ble_eq_true rfl, rfl, rfl⟩ (fun σ52 h53 => ?_)
    obtain ⟨hO54, hAc55⟩ := h53
    have hA56 := zc_Ag.tr hA0 hAc55 rfl
    refine zr_aload_n hB 1 dX8_fit_72 rfl ?_
    refine zr_getr hG 0 4 dX8_fit_73 rfl wf_X8_44 rfl ?_
    refine zr_callvi hG (rest := []) 5 dX8_fit_76 wm_X8_172 rfl rfl (c_X0_bestPoint_5 K hG.2.2.2.2.2.1 σ52  hO54 ) rfl rfl (Nat.le_of_ble_eq_true rfl) ⟨Nat.le_of_ble_eq_true rfl, Nat.le_of_ble_eq_true rfl, rfl, rfl⟩ (fun r57 σ58 h59 => ?_)
    obtain ⟨rfl, r57a, r57b⟩ := h59
    refine zr_istore hB dX8_fit_79 (by decide) (lv' := [(8, .int r57), (7, .int c24), (0, .ref (zk K 0)), (1, .int p1), (2, .int p2), (3, .int p3), (4, .int p4), (5, .int p5), (6, .int p6)]) rfl ?_
    refine zr_aload_n hB 2 dX8_fit_81 rfl ?_
    refine zr_getr hG 0 4 dX8_fit_82 rfl wf_X8_44 rfl ?_
    refine zr_getr hG 5 3 dX8_fit_85 rfl wf_X8_176 rfl ?_
    refine zr_iload hB 0 dX8_fit_88 rfl ?_
    refine zr_iald hG 25 dX8_fit_90 rfl (by omega) (by omega) (fun x60 ex60 => ?_)
    refine zr_if_ne hB dX8_fit_91 (tgt := 97) rfl (fun c61 => ?_) (fun c61 => ?_)
    · refine zr_iload hB 8 dX8_fit_97 rfl ?_
      refine zr_if_le hB dX8_fit_99 (tgt := 132) rfl (fun c62 => ?_) (fun c62 => ?_)
      · refine zr_iload_n hB 4 dX8_fit_132 rfl ?_
        refine zr_iconst hB dX8_fit_133 rfl (fun c63 ec63 => ?_)
        refine zr_icmp_ne hB dX8_fit_134 (tgt := 154) rfl (fun c64 => ?_) (fun c64 => ?_)
        · refine zr_iload hB 0 dX8_fit_154 rfl ?_
          refine zr_iconst hB dX8_fit_156 rfl (fun c65 ec65 => ?_)
          refine zr_iadd hB dX8_fit_157 (by omega) (by omega) (fun x66 ex66 => ?_)
          exact zr_iret hG dX8_fit_158 ⟨hO54, hA56⟩
        refine zr_iload hB 0 dX8_fit_137 rfl ?_
        refine zr_bipush hB dX8_fit_139 rfl (fun c67 ec67 => ?_)
        refine zr_idivc hB dX8_fit_141 ec67 (by omega) (by decide) (fun x68 ex68 => ?_)
        refine zr_bipush hB dX8_fit_142 rfl (fun c69 ec69 => ?_)
        refine zr_imulc hB dX8_fit_144 ec69 (by omega) (by omega) (fun x70 ex70 => ?_)
        refine zr_iload hB 0 dX8_fit_145 rfl ?_
        refine zr_bipush hB dX8_fit_147 rfl (fun c71 ec71 => ?_)
        refine zr_iremc hB dX8_fit_149 ec71 (by omega) (by decide) (fun x72 ex72 => ?_)
        refine zr_iadd hB dX8_fit_150 (by omega) (by omega) (fun x73 ex73 => ?_)
        refine zr_goto hB dX8_fit_151 (tgt := 158) rfl ?_
        exact zr_iret hG dX8_fit_158 ⟨hO54, hA56⟩
      refine zr_iload hB 8 dX8_fit_102 rfl ?_
      refine zr_iconst hB dX8_fit_104 rfl (fun c74 ec74 => ?_)
      refine zr_icmp_ne hB dX8_fit_105 (tgt := 121) rfl (fun c75 => ?_) (fun c75 => ?_)
      · refine zr_aload_n hB 2 dX8_fit_121 rfl ?_
        refine zr_getr hG 0 4 dX8_fit_122 rfl wf_X8_44 rfl ?_
        refine zr_getr hG 5 4 dX8_fit_125 rfl wf_X8_179 rfl ?_
        refine zr_iload hB 0 dX8_fit_128 rfl ?_
        refine zr_iald hG 26 dX8_fit_130 rfl (by omega) (by omega) (fun x76 ex76 => ?_)
        exact zr_iret hG dX8_fit_131 ⟨hO54, hA56⟩
      refine zr_aload_n hB 2 dX8_fit_108 rfl ?_
      refine zr_getr hG 0 4 dX8_fit_109 rfl wf_X8_44 rfl ?_
      refine zr_getr hG 5 3 dX8_fit_112 rfl wf_X8_176 rfl ?_
      refine zr_iload hB 0 dX8_fit_115 rfl ?_
      refine zr_iald hG 25 dX8_fit_117 rfl (by omega) (by omega) (fun x77 ex77 => ?_)
      obtain rfl : x60 = x77 := ex60.trans ex77.symm
      refine zr_goto hB dX8_fit_118 (tgt := 131) rfl ?_
      exact zr_iret hG dX8_fit_131 ⟨hO54, hA56⟩
    refine zr_bipush hB dX8_fit_94 rfl (fun c78 ec78 => ?_)
    exact zr_iret hG dX8_fit_96 ⟨hO54, hA56⟩
  refine zr_iconst hB dX8_fit_56 rfl (fun c79 ec79 => ?_)
  exact zr_iret hG dX8_fit_57 ⟨hO0, hA0⟩

def m_X8_span_0 : zc_ms := [(4, some 3), (4, some 4), (21, none), (9, some 2), (43, none), (22, none), (4, some 7), (4, some 8), (23, none), (4, some 10)]
set_option maxHeartbeats 1000000 in
set_option maxRecDepth 100000 in
theorem c_X8_span_0 (K : zc_K) (hi : zc_inj shX K.2.2.2.1) (σ0 : zc_S) (p1 : Int32) (p2 : Int32) (p3 : Int32) (p4 : Int32) (p5 : Int32) (p6 : Int32) (hO0 : zc_O okX σ0)  : zc_M shX K yX8_span cX8_span 8 (some .int) (zrm 7 190) σ0 [.ref (zk K 0), .int p1, .int p2, .int p3, .int p4, .int p5, .int p6] (zc_I (fun r9 σ9 => zc_O okX σ9 ∧ zc_Ag m_X8_span_0 σ0 σ9)) := by
  refine zc_start RX8 hi pfX8_span rfl (Nat.le_of_ble_eq_true rfl) ?_
  intro G hG
  have hB := hG.1
  have hA0 : zc_Ag m_X8_span_0 σ0 σ0 := zc_Ag.rf
  show zc_V 8 K G (zc_D shX K G σ0) [(0, .ref (zk K 0)), (1, .int p1), (2, .int p2), (3, .int p3), (4, .int p4), (5, .int p5), (6, .int p6)] 0 []
  refine zr_aload_n hB 0 dX8_span_0 rfl ?_
  refine zr_iload_n hB 1 dX8_span_1 rfl ?_
  refine zr_iload_n hB 2 dX8_span_2 rfl ?_
  refine zr_iload_n hB 3 dX8_span_3 rfl ?_
  refine zr_callvi hG (rest := []) 0 dX8_span_4 wm_X8_130 rfl rfl (c_X8_isAsked_0 K hG.2.2.2.2.2.1 σ0 p1 p2 p3 hO0 ) rfl rfl (Nat.le_of_ble_eq_true rfl) ⟨Nat.le_of_ble_eq_true rfl, Nat.le_of_ble_eq_true rfl, rfl, rfl⟩ (fun r1 σ2 h3 => ?_)
  obtain ⟨rfl, r1q⟩ := h3
  have r1z := r1q.b
  refine zr_if_eq hB dX8_span_7 (tgt := 28) rfl (fun c4 => ?_) (fun c4 => ?_)
  · have q5 := r1q.f c4
    refine zr_iconst hB dX8_span_28 rfl (fun c6 ec6 => ?_)
    exact zr_iret hG dX8_span_29 ⟨hO0, hA0⟩
  have q7 := r1q.t c4
  refine zr_iload hB 4 dX8_span_10 rfl ?_
  refine zr_iload hB 5 dX8_span_12 rfl ?_
  refine zr_callsi hG (rest := []) dX8_span_14 wm_X8_156 (c_X8_areDays K hG.2.2.2.2.2.1 σ0 p4 p5 hO0 ) rfl rfl (Nat.le_of_ble_eq_true rfl) ⟨Nat.le_of_ble_eq_true rfl, Nat.le_of_ble_eq_true rfl, rfl, rfl⟩ (fun r8 σ9 h10 => ?_)
  obtain ⟨rfl, r8q⟩ := h10
  have r8z := r8q.b
  refine zr_if_eq hB dX8_span_17 (tgt := 28) rfl (fun c11 => ?_) (fun c11 => ?_)
  · have q12 := r8q.f c11
    refine zr_iconst hB dX8_span_28 rfl (fun c13 ec13 => ?_)
    exact zr_iret hG dX8_span_29 ⟨hO0, hA0⟩
  have q14 := r8q.t c11
  refine zr_iload hB 6 dX8_span_20 rfl ?_
  refine zr_callsi hG (rest := []) dX8_span_22 wm_X8_182 (c_X8_isPercent K hG.2.2.2.2.2.1 σ0 p6 hO0 ) rfl rfl (Nat.le_of_ble_eq_true rfl) ⟨Nat.le_of_ble_eq_true rfl, Nat.le_of_ble_eq_true rfl, rfl, rfl⟩ (fun r15 σ16 h17 => ?_)
  obtain ⟨rfl, r15q⟩ := h17
  have r15z := r15q.b
  refine zr_if_ne hB dX8_span_25 (tgt := 30) rfl (fun c18 => ?_) (fun c18 => ?_)
  · have q19 := r15q.t c18
    refine zr_aload_n hB 0 dX8_span_30 rfl ?_
    refine zr_getr hG 0 3 dX8_span_31 rfl wf_X8_35 rfl ?_
    refine zr_iload_n hB 1 dX8_span_34 rfl ?_
    refine zr_iload_n hB 2 dX8_span_35 rfl ?_
    refine zr_iload_n hB 3 dX8_span_36 rfl ?_
    refine zr_iload hB 4 dX8_span_37 rfl ?_
    refine zr_iload hB 5 dX8_span_39 rfl ?_
    refine zr_callvn hG (rest := []) 4 dX8_span_41 wm_X8_149 rfl rfl (c_X3_compare_4 K hG.2.2.2.2.2.1 σ0 p1 p2 p3 p4 p5 hO0 (by omega) (by omega) (by omega) (by omega) (by omega) (by omega) (by omega) (by omega)) rfl rfl (Nat.le_of_ble_eq_true rfl) ⟨Nat.le_of_ble_eq_true rfl, Nat.le_of_ble_eq_true rfl, rfl, rfl⟩ (fun σ21 h22 => ?_)
    obtain ⟨hO23, hAc24⟩ := h22
    have hA25 := zc_Ag.tr hA0 hAc24 rfl
    refine zr_aload_n hB 0 dX8_span_44 rfl ?_
    refine zr_getr hG 0 3 dX8_span_45 rfl wf_X8_35 rfl ?_
    refine zr_iconst hB dX8_span_48 rfl (fun c26 ec26 => ?_)
    refine zr_puti hG 4 10 dX8_span_49 rfl wp_X8_185 rfl ?_
    have hOw27 := zc_O.u hO23 4 10 (v := c26) (show 0 ≤ c26.toInt by omega) (show c26.toInt ≤ 64 by omega) (Or.inr (show 0 ≤ c26.toInt by omega))
    have hAw27 := zc_Ag.u hA25 4 10 c26 rfl
    refine zr_iload hB 4 dX8_span_52 rfl ?_
    refine zr_istore hB dX8_span_54 (by decide) (lv' := [(7, .int p4), (0, .ref (zk K 0)), (1, .int p1), (2, .int p2), (3, .int p3), (4, .int p4), (5, .int p5), (6, .int p6)]) rfl ?_
    have L56_30 : ∀ (n56 : Nat) (σ29 : zc_S) (y7_28 : Int32), zc_O okX σ29 → zc_Ag m_X8_span_0 σ0 σ29 → 0 ≤ y7_28.toInt → y7_28.toInt ≤ 64 → 64 - y7_28.toInt < (n56 : Int) → zc_V 8 K G (zc_D shX K G σ29) [(0, .ref (zk K 0)), (1, .int p1), (2, .int p2), (3, .int p3), (4, .int p4), (5, .int p5), (6, .int p6), (7, .int y7_28)] 56 [] := by
      intro n56
      induction n56 with
      | zero => intro σ29 y7_28 hO29 hA29 y7_28a y7_28b hn56; exfalso; omega
      | succ n56 ih56 =>
        intro σ29 y7_28 hO29 hA29 y7_28a y7_28b hn56
        refine zr_iload hB 7 dX8_span_56 rfl ?_
        refine zr_iload hB 5 dX8_span_58 rfl ?_
        refine zr_icmp_gt hB dX8_span_60 (tgt := 78) rfl (fun c31 => ?_) (fun c31 => ?_)
        · refine zr_aload_n hB 0 dX8_span_78 rfl ?_
          refine zr_getr hG 0 3 dX8_span_79 rfl wf_X8_35 rfl ?_
          refine zr_iload hB 6 dX8_span_82 rfl ?_
          refine zr_callvi hG (rest := []) 4 dX8_span_84 wm_X8_192 rfl rfl (c_X3_spanOf_4 K hG.2.2.2.2.2.1 σ29 p6 hO29 (by omega) (by omega)) rfl rfl (Nat.le_of_ble_eq_true rfl) ⟨Nat.le_of_ble_eq_true rfl, Nat.le_of_ble_eq_true rfl, rfl, rfl⟩ (fun r32 σ33 h34 => ?_)
          obtain ⟨rfl, r32a, r32b⟩ := h34
          exact zr_iret hG dX8_span_87 ⟨hO29, hA29⟩
        refine zr_aload_n hB 0 dX8_span_63 rfl ?_
        refine zr_getr hG 0 3 dX8_span_64 rfl wf_X8_35 rfl ?_
        refine zr_iload hB 7 dX8_span_67 rfl ?_
        refine zr_callvn hG (rest := []) 4 dX8_span_69 wm_X8_188 rfl rfl (c_X3_sortMiss_4 K hG.2.2.2.2.2.1 σ29 y7_28 hO29 ) rfl rfl (Nat.le_of_ble_eq_true rfl) ⟨Nat.le_of_ble_eq_true rfl, Nat.le_of_ble_eq_true rfl, rfl, rfl⟩ (fun σ36 h37 => ?_)
        obtain ⟨hO38, hAc39⟩ := h37
        have hA40 := zc_Ag.tr hA29 hAc39 rfl
        refine zr_iinc hB 7 dX8_span_72 rfl (by decide) rfl (by omega) (by omega) (fun x41 ex41 lv' hlv => ?_)
        obtain rfl : [(7, .int x41), (0, .ref (zk K 0)), (1, .int p1), (2, .int p2), (3, .int p3), (4, .int p4), (5, .int p5), (6, .int p6)] = lv' := hlv
        refine zr_goto hB dX8_span_75 (tgt := 56) rfl ?_
        exact zc_sub [1, 2, 3, 4, 5, 6, 7, 0] rfl (ih56 σ36 x41 hO38 hA40 (by omega) (by omega) (by omega))
    exact zc_sub [1, 2, 3, 4, 5, 6, 7, 0] rfl (L56_30 66 (zc_u σ21 4 10 c26) p4 hOw27 hAw27 (by omega) (by omega) (by omega))
  have q42 := r15q.f c18
  refine zr_iconst hB dX8_span_28 rfl (fun c43 ec43 => ?_)
  exact zr_iret hG dX8_span_29 ⟨hO0, hA0⟩

def m_X8_hold_0 : zc_ms := [(4, some 3), (4, some 4), (21, none), (9, some 2), (43, none), (22, none), (4, some 7), (4, some 8)]
set_option maxHeartbeats 1000000 in
set_option maxRecDepth 100000 in
theorem c_X8_hold_0 (K : zc_K) (hi : zc_inj shX K.2.2.2.1) (σ0 : zc_S) (p1 : Int32) (p2 : Int32) (p3 : Int32) (p4 : Int32) (p5 : Int32) (p6 : Int32) (hO0 : zc_O okX σ0)  : zc_M shX K yX8_hold cX8_hold 10 (some .int) (zrm 7 190) σ0 [.ref (zk K 0), .int p1, .int p2, .int p3, .int p4, .int p5, .int p6] (zc_I (fun r9 σ9 => zc_O okX σ9 ∧ zc_Ag m_X8_hold_0 σ0 σ9)) := by
  refine zc_start RX8 hi pfX8_hold rfl (Nat.le_of_ble_eq_true rfl) ?_
  intro G hG
  have hB := hG.1
  have hA0 : zc_Ag m_X8_hold_0 σ0 σ0 := zc_Ag.rf
  show zc_V 10 K G (zc_D shX K G σ0) [(0, .ref (zk K 0)), (1, .int p1), (2, .int p2), (3, .int p3), (4, .int p4), (5, .int p5), (6, .int p6)] 0 []
  refine zr_aload_n hB 0 dX8_hold_0 rfl ?_
  refine zr_iload_n hB 1 dX8_hold_1 rfl ?_
  refine zr_iload_n hB 2 dX8_hold_2 rfl ?_
  refine zr_iload_n hB 3 dX8_hold_3 rfl ?_
  refine zr_callvi hG (rest := []) 0 dX8_hold_4 wm_X8_130 rfl rfl (c_X8_isAsked_0 K hG.2.2.2.2.2.1 σ0 p1 p2 p3 hO0 ) rfl rfl (Nat.le_of_ble_eq_true rfl) ⟨Nat.le_of_ble_eq_true rfl, Nat.le_of_ble_eq_true rfl, rfl, rfl⟩ (fun r1 σ2 h3 => ?_)
  obtain ⟨rfl, r1q⟩ := h3
  have r1z := r1q.b
  refine zr_if_eq hB dX8_hold_7 (tgt := 33) rfl (fun c4 => ?_) (fun c4 => ?_)
  · have q5 := r1q.f c4
    refine zr_iconst hB dX8_hold_33 rfl (fun c6 ec6 => ?_)
    exact zr_iret hG dX8_hold_34 ⟨hO0, hA0⟩
  have q7 := r1q.t c4
  refine zr_iload hB 4 dX8_hold_10 rfl ?_
  refine zr_iload hB 5 dX8_hold_12 rfl ?_
  refine zr_callsi hG (rest := []) dX8_hold_14 wm_X8_156 (c_X8_areDays K hG.2.2.2.2.2.1 σ0 p4 p5 hO0 ) rfl rfl (Nat.le_of_ble_eq_true rfl) ⟨Nat.le_of_ble_eq_true rfl, Nat.le_of_ble_eq_true rfl, rfl, rfl⟩ (fun r8 σ9 h10 => ?_)
  obtain ⟨rfl, r8q⟩ := h10
  have r8z := r8q.b
  refine zr_if_eq hB dX8_hold_17 (tgt := 33) rfl (fun c11 => ?_) (fun c11 => ?_)
  · have q12 := r8q.f c11
    refine zr_iconst hB dX8_hold_33 rfl (fun c13 ec13 => ?_)
    exact zr_iret hG dX8_hold_34 ⟨hO0, hA0⟩
  have q14 := r8q.t c11
  refine zr_iload hB 6 dX8_hold_20 rfl ?_
  refine zr_if_lt hB dX8_hold_22 (tgt := 33) rfl (fun c15 => ?_) (fun c15 => ?_)
  · refine zr_iconst hB dX8_hold_33 rfl (fun c16 ec16 => ?_)
    exact zr_iret hG dX8_hold_34 ⟨hO0, hA0⟩
  refine zr_iload hB 6 dX8_hold_25 rfl ?_
  refine zr_sipush hB dX8_hold_27 rfl (fun c17 ec17 => ?_)
  refine zr_icmp_le hB dX8_hold_30 (tgt := 35) rfl (fun c18 => ?_) (fun c18 => ?_)
  · refine zr_aload_n hB 0 dX8_hold_35 rfl ?_
    refine zr_getr hG 0 3 dX8_hold_36 rfl wf_X8_35 rfl ?_
    refine zr_iload_n hB 1 dX8_hold_39 rfl ?_
    refine zr_iload_n hB 2 dX8_hold_40 rfl ?_
    refine zr_iload_n hB 3 dX8_hold_41 rfl ?_
    refine zr_iload hB 4 dX8_hold_42 rfl ?_
    refine zr_iload hB 5 dX8_hold_44 rfl ?_
    refine zr_callvn hG (rest := []) 4 dX8_hold_46 wm_X8_149 rfl rfl (c_X3_compare_4 K hG.2.2.2.2.2.1 σ0 p1 p2 p3 p4 p5 hO0 (by omega) (by omega) (by omega) (by omega) (by omega) (by omega) (by omega) (by omega)) rfl rfl (Nat.le_of_ble_eq_true rfl) ⟨Nat.le_of_ble_eq_true rfl, Nat.le_of_ble_eq_true rfl, rfl, rfl⟩ (fun σ20 h21 => ?_)
    obtain ⟨hO22, hAc23⟩ := h21
    have hA24 := zc_Ag.tr hA0 hAc23 rfl
    refine zr_iconst hB dX8_hold_49 rfl (fun c25 ec25 => ?_)
    refine zr_istore hB dX8_hold_50 (by decide) (lv' := [(7, .int c25), (0, .ref (zk K 0)), (1, .int p1), (2, .int p2), (3, .int p3), (4, .int p4), (5, .int p5), (6, .int p6)]) rfl ?_
    refine zr_iload hB 5 dX8_hold_52 rfl ?_
    refine zr_istore hB dX8_hold_54 (by decide) (lv' := [(8, .int p4), (7, .int c25), (0, .ref (zk K 0)), (1, .int p1), (2, .int p2), (3, .int p3), (4, .int p4), (5, .int p5), (6, .int p6)]) rfl ?_
    have L56_28 : ∀ (n56 : Nat) (y7_26 : Int32) (y8_27 : Int32), 0 ≤ y8_27.toInt → y8_27.toInt ≤ 64 → 64 - y8_27.toInt < (n56 : Int) → zc_V 10 K G (zc_D shX K G σ20) [(0, .ref (zk K 0)), (1, .int p1), (2, .int p2), (3, .int p3), (4, .int p4), (5, .int p5), (6, .int p6), (7, .int y7_26), (8, .int y8_27)] 56 [] := by
      intro n56
      induction n56 with
      | zero => intro y7_26 y8_27 y8_27a y8_27b hn56; have vy7_26 := And.intro (zn_lo y7_26) (zn_hi y7_26); exfalso; omega
      | succ n56 ih56 =>
        intro y7_26 y8_27 y8_27a y8_27b hn56
        have vy7_26 := And.intro (zn_lo y7_26) (zn_hi y7_26)
        refine zr_iload hB 8 dX8_hold_56 rfl ?_
        refine zr_iload hB 5 dX8_hold_58 rfl ?_
        refine zr_icmp_gt hB dX8_hold_60 (tgt := 97) rfl (fun c29 => ?_) (fun c29 => ?_)
        · refine zr_iload hB 7 dX8_hold_97 rfl ?_
          exact zr_iret hG dX8_hold_99 ⟨hO22, hA24⟩
        refine zr_aload_n hB 0 dX8_hold_63 rfl ?_
        refine zr_getr hG 0 3 dX8_hold_64 rfl wf_X8_35 rfl ?_
        refine zr_iload hB 8 dX8_hold_67 rfl ?_
        refine zr_callvi hG (rest := []) 4 dX8_hold_69 wm_X8_152 rfl rfl (c_X3_missOf_4 K hG.2.2.2.2.2.1 σ20 y8_27 hO22 ) rfl rfl (Nat.le_of_ble_eq_true rfl) ⟨Nat.le_of_ble_eq_true rfl, Nat.le_of_ble_eq_true rfl, rfl, rfl⟩ (fun r30 σ31 h32 => ?_)
        obtain ⟨rfl, r30a, r30b⟩ := h32
        refine zr_istore hB dX8_hold_72 (by decide) (lv' := [(9, .int r30), (0, .ref (zk K 0)), (1, .int p1), (2, .int p2), (3, .int p3), (4, .int p4), (5, .int p5), (6, .int p6), (7, .int y7_26), (8, .int y8_27)]) rfl ?_
        refine zr_iload hB 0 dX8_hold_74 rfl ?_
        refine zr_bipush hB dX8_hold_76 rfl (fun c33 ec33 => ?_)
        refine zr_icmp_eq hB dX8_hold_78 (tgt := 91) rfl (fun c34 => ?_) (fun c34 => ?_)
        · refine zr_iinc hB 9 dX8_hold_91 rfl (by decide) rfl (by omega) (by omega) (fun x35 ex35 lv' hlv => ?_)
          obtain rfl : [(8, .int x35), (9, .int r30), (0, .ref (zk K 0)), (1, .int p1), (2, .int p2), (3, .int p3), (4, .int p4), (5, .int p5), (6, .int p6), (7, .int y7_26)] = lv' := hlv
          refine zr_goto hB dX8_hold_94 (tgt := 56) rfl ?_
          exact zc_sub [2, 3, 4, 5, 6, 7, 8, 9, 0] rfl (ih56 y7_26 x35 (by omega) (by omega) (by omega))
        refine zr_iload hB 0 dX8_hold_81 rfl ?_
        refine zr_iload hB 7 dX8_hold_83 rfl ?_
        refine zr_icmp_gt hB dX8_hold_85 (tgt := 91) rfl (fun c36 => ?_) (fun c36 => ?_)
        · refine zr_iinc hB 9 dX8_hold_91 rfl (by decide) rfl (by omega) (by omega) (fun x37 ex37 lv' hlv => ?_)
          obtain rfl : [(8, .int x37), (9, .int r30), (0, .ref (zk K 0)), (1, .int p1), (2, .int p2), (3, .int p3), (4, .int p4), (5, .int p5), (6, .int p6), (7, .int y7_26)] = lv' := hlv
          refine zr_goto hB dX8_hold_94 (tgt := 56) rfl ?_
          exact zc_sub [2, 3, 4, 5, 6, 7, 8, 9, 0] rfl (ih56 y7_26 x37 (by omega) (by omega) (by omega))
        refine zr_iincw hB 8 dX8_hold_88 rfl (by decide) (fun x38 ex38 lv' hlv => ?_)
        obtain rfl : [(7, .int x38), (9, .int r30), (0, .ref (zk K 0)), (1, .int p1), (2, .int p2), (3, .int p3), (4, .int p4), (5, .int p5), (6, .int p6), (8, .int y8_27)] = lv' := hlv
        refine zr_iinc hB 9 dX8_hold_91 rfl (by decide) rfl (by omega) (by omega) (fun x39 ex39 lv' hlv => ?_)
        obtain rfl : [(8, .int x39), (7, .int x38), (9, .int r30), (0, .ref (zk K 0)), (1, .int p1), (2, .int p2), (3, .int p3), (4, .int p4), (5, .int p5), (6, .int p6)] = lv' := hlv
        refine zr_goto hB dX8_hold_94 (tgt := 56) rfl ?_
        exact zc_sub [3, 4, 5, 6, 7, 8, 9, 1, 0] rfl (ih56 x38 x39 (by omega) (by omega) (by omega))
    exact zc_sub [2, 3, 4, 5, 6, 7, 8, 1, 0] rfl (L56_28 66 c25 p4 (by omega) (by omega) (by omega))
  refine zr_iconst hB dX8_hold_33 rfl (fun c40 ec40 => ?_)
  exact zr_iret hG dX8_hold_34 ⟨hO0, hA0⟩

def m_X8_going_0 : zc_ms := [(4, some 3), (4, some 4), (21, none), (9, some 2), (43, none), (22, none), (4, some 7), (4, some 8), (23, none), (4, some 10)]
set_option maxHeartbeats 1000000 in
set_option maxRecDepth 100000 in
theorem c_X8_going_0 (K : zc_K) (hi : zc_inj shX K.2.2.2.1) (σ0 : zc_S) (p1 : Int32) (p2 : Int32) (p3 : Int32) (p4 : Int32) (p5 : Int32) (p6 : Int32) (p7 : Int32) (hO0 : zc_O okX σ0)  : zc_M shX K yX8_going cX8_going 13 (some .int) (zrm 7 190) σ0 [.ref (zk K 0), .int p1, .int p2, .int p3, .int p4, .int p5, .int p6, .int p7] (zc_I (fun r9 σ9 => zc_O okX σ9 ∧ zc_Ag m_X8_going_0 σ0 σ9)) := by
  refine zc_start RX8 hi pfX8_going rfl (Nat.le_of_ble_eq_true rfl) ?_
  intro G hG
  have hB := hG.1
  have hA0 : zc_Ag m_X8_going_0 σ0 σ0 := zc_Ag.rf
  show zc_V 13 K G (zc_D shX K G σ0) [(0, .ref (zk K 0)), (1, .int p1), (2, .int p2), (3, .int p3), (4, .int p4), (5, .int p5), (6, .int p6), (7, .int p7)] 0 []
  refine zr_aload_n hB 0 dX8_going_0 rfl ?_
  refine zr_iload_n hB 1 dX8_going_1 rfl ?_
  refine zr_iload_n hB 2 dX8_going_2 rfl ?_
  refine zr_iload_n hB 3 dX8_going_3 rfl ?_
  refine zr_callvi hG (rest := []) 0 dX8_going_4 wm_X8_130 rfl rfl (c_X8_isAsked_0 K hG.2.2.2.2.2.1 σ0 p1 p2 p3 hO0 ) rfl rfl (Nat.le_of_ble_eq_true rfl) ⟨Nat.le_of_ble_eq_true rfl, Nat.le_of_ble_eq_true rfl, rfl, rfl⟩ (fun r1 σ2 h3 => ?_)
  obtain ⟨rfl, r1q⟩ := h3
  have r1z := r1q.b
  refine zr_if_eq hB dX8_going_7 (tgt := 39) rfl (fun c4 => ?_) (fun c4 => ?_)
  · have q5 := r1q.f c4
    refine zr_iconst hB dX8_going_39 rfl (fun c6 ec6 => ?_)
    exact zr_iret hG dX8_going_40 ⟨hO0, hA0⟩
  have q7 := r1q.t c4
  refine zr_iload hB 4 dX8_going_10 rfl ?_
  refine zr_iload hB 5 dX8_going_12 rfl ?_
  refine zr_callsi hG (rest := []) dX8_going_14 wm_X8_156 (c_X8_areDays K hG.2.2.2.2.2.1 σ0 p4 p5 hO0 ) rfl rfl (Nat.le_of_ble_eq_true rfl) ⟨Nat.le_of_ble_eq_true rfl, Nat.le_of_ble_eq_true rfl, rfl, rfl⟩ (fun r8 σ9 h10 => ?_)
  obtain ⟨rfl, r8q⟩ := h10
  have r8z := r8q.b
  refine zr_if_eq hB dX8_going_17 (tgt := 39) rfl (fun c11 => ?_) (fun c11 => ?_)
  · have q12 := r8q.f c11
    refine zr_iconst hB dX8_going_39 rfl (fun c13 ec13 => ?_)
    exact zr_iret hG dX8_going_40 ⟨hO0, hA0⟩
  have q14 := r8q.t c11
  refine zr_iload hB 6 dX8_going_20 rfl ?_
  refine zr_callsi hG (rest := []) dX8_going_22 wm_X8_182 (c_X8_isPercent K hG.2.2.2.2.2.1 σ0 p6 hO0 ) rfl rfl (Nat.le_of_ble_eq_true rfl) ⟨Nat.le_of_ble_eq_true rfl, Nat.le_of_ble_eq_true rfl, rfl, rfl⟩ (fun r15 σ16 h17 => ?_)
  obtain ⟨rfl, r15q⟩ := h17
  have r15z := r15q.b
  refine zr_if_eq hB dX8_going_25 (tgt := 39) rfl (fun c18 => ?_) (fun c18 => ?_)
  · have q19 := r15q.f c18
    refine zr_iconst hB dX8_going_39 rfl (fun c20 ec20 => ?_)
    exact zr_iret hG dX8_going_40 ⟨hO0, hA0⟩
  have q21 := r15q.t c18
  refine zr_iload hB 7 dX8_going_28 rfl ?_
  refine zr_if_lt hB dX8_going_30 (tgt := 39) rfl (fun c22 => ?_) (fun c22 => ?_)
  · refine zr_iconst hB dX8_going_39 rfl (fun c23 ec23 => ?_)
    exact zr_iret hG dX8_going_40 ⟨hO0, hA0⟩
  refine zr_iload hB 7 dX8_going_33 rfl ?_
  refine zr_iconst hB dX8_going_35 rfl (fun c24 ec24 => ?_)
  refine zr_icmp_le hB dX8_going_36 (tgt := 41) rfl (fun c25 => ?_) (fun c25 => ?_)
  · refine zr_aload_n hB 0 dX8_going_41 rfl ?_
    refine zr_getr hG 0 3 dX8_going_42 rfl wf_X8_35 rfl ?_
    refine zr_iload_n hB 1 dX8_going_45 rfl ?_
    refine zr_iload_n hB 2 dX8_going_46 rfl ?_
    refine zr_iload_n hB 3 dX8_going_47 rfl ?_
    refine zr_iconst hB dX8_going_48 rfl (fun c26 ec26 => ?_)
    refine zr_iload hB 5 dX8_going_49 rfl ?_
    refine zr_callvn hG (rest := []) 4 dX8_going_51 wm_X8_149 rfl rfl (c_X3_compare_4 K hG.2.2.2.2.2.1 σ0 p1 p2 p3 c26 p5 hO0 (by omega) (by omega) (by omega) (by omega) (by omega) (by omega) (by omega) (by omega)) rfl rfl (Nat.le_of_ble_eq_true rfl) ⟨Nat.le_of_ble_eq_true rfl, Nat.le_of_ble_eq_true rfl, rfl, rfl⟩ (fun σ28 h29 => ?_)
    obtain ⟨hO30, hAc31⟩ := h29
    have hA32 := zc_Ag.tr hA0 hAc31 rfl
    refine zr_aload_n hB 0 dX8_going_54 rfl ?_
    refine zr_getr hG 0 3 dX8_going_55 rfl wf_X8_35 rfl ?_
    refine zr_iconst hB dX8_going_58 rfl (fun c33 ec33 => ?_)
    refine zr_puti hG 4 10 dX8_going_59 rfl wp_X8_185 rfl ?_
    have hOw34 := zc_O.u hO30 4 10 (v := c33) (show 0 ≤ c33.toInt by omega) (show c33.toInt ≤ 64 by omega) (Or.inr (show 0 ≤ c33.toInt by omega))
    have hAw34 := zc_Ag.u hA32 4 10 c33 rfl
    refine zr_iconst hB dX8_going_62 rfl (fun c35 ec35 => ?_)
    refine zr_istore hB dX8_going_63 (by decide) (lv' := [(8, .int c35), (0, .ref (zk K 0)), (1, .int p1), (2, .int p2), (3, .int p3), (4, .int p4), (5, .int p5), (6, .int p6), (7, .int p7)]) rfl ?_
    refine zr_iconst hB dX8_going_65 rfl (fun c36 ec36 => ?_)
    refine zr_istore hB dX8_going_66 (by decide) (lv' := [(9, .int c36), (8, .int c35), (0, .ref (zk K 0)), (1, .int p1), (2, .int p2), (3, .int p3), (4, .int p4), (5, .int p5), (6, .int p6), (7, .int p7)]) rfl ?_
    refine zr_iconst hB dX8_going_68 rfl (fun c37 ec37 => ?_)
    refine zr_istore hB dX8_going_69 (by decide) (lv' := [(10, .int c37), (9, .int c36), (8, .int c35), (0, .ref (zk K 0)), (1, .int p1), (2, .int p2), (3, .int p3), (4, .int p4), (5, .int p5), (6, .int p6), (7, .int p7)]) rfl ?_
    refine zr_iload hB 7 dX8_going_71 rfl ?_
    refine zr_istore hB dX8_going_73 (by decide) (lv' := [(11, .int p4), (10, .int c37), (9, .int c36), (8, .int c35), (0, .ref (zk K 0)), (1, .int p1), (2, .int p2), (3, .int p3), (4, .int p4), (5, .int p5), (6, .int p6), (7, .int p7)]) rfl ?_
    have L75_43 : ∀ (n75 : Nat) (σ42 : zc_S) (y8_38 : Int32) (y9_39 : Int32) (y10_40 : Int32) (y11_41 : Int32), zc_O okX σ42 → zc_Ag m_X8_going_0 σ0 σ42 → 0 ≤ y8_38.toInt → y8_38.toInt ≤ 63 → 0 ≤ y11_41.toInt → y11_41.toInt ≤ 64 → 64 - y11_41.toInt < (n75 : Int) → zc_V 13 K G (zc_D shX K G σ42) [(0, .ref (zk K 0)), (1, .int p1), (2, .int p2), (3, .int p3), (4, .int p4), (5, .int p5), (6, .int p6), (7, .int p7), (8, .int y8_38), (9, .int y9_39), (10, .int y10_40), (11, .int y11_41)] 75 [] := by
      intro n75
      induction n75 with
      | zero => intro σ42 y8_38 y9_39 y10_40 y11_41 hO42 hA42 y8_38a y8_38b y11_41a y11_41b hn75; have vy9_39 := And.intro (zn_lo y9_39) (zn_hi y9_39); have vy10_40 := And.intro (zn_lo y10_40) (zn_hi y10_40); exfalso; omega
      | succ n75 ih75 =>
        intro σ42 y8_38 y9_39 y10_40 y11_41 hO42 hA42 y8_38a y8_38b y11_41a y11_41b hn75
        have vy9_39 := And.intro (zn_lo y9_39) (zn_hi y9_39)
        have vy10_40 := And.intro (zn_lo y10_40) (zn_hi y10_40)
        refine zr_iload hB 11 dX8_going_75 rfl ?_
        refine zr_iload hB 5 dX8_going_77 rfl ?_
        refine zr_icmp_gt hB dX8_going_79 (tgt := 168) rfl (fun c44 => ?_) (fun c44 => ?_)
        · refine zr_iload hB 7 dX8_going_168 rfl ?_
          refine zr_if_ne hB dX8_going_170 (tgt := 178) rfl (fun c45 => ?_) (fun c45 => ?_)
          · refine zr_iload hB 10 dX8_going_178 rfl ?_
            exact zr_iret hG dX8_going_180 ⟨hO42, hA42⟩
          refine zr_iload hB 9 dX8_going_173 rfl ?_
          refine zr_goto hB dX8_going_175 (tgt := 180) rfl ?_
          exact zr_iret hG dX8_going_180 ⟨hO42, hA42⟩
        have L82_48 : ∀ (n82 : Nat) (σ47 : zc_S) (y8_46 : Int32), zc_O okX σ47 → zc_Ag m_X8_going_0 σ0 σ47 → 0 ≤ y8_46.toInt → y8_46.toInt ≤ 63 → 63 - y8_46.toInt < (n82 : Int) → zc_V 13 K G (zc_D shX K G σ47) [(0, .ref (zk K 0)), (1, .int p1), (2, .int p2), (3, .int p3), (4, .int p4), (5, .int p5), (6, .int p6), (7, .int p7), (8, .int y8_46), (9, .int y9_39), (10, .int y10_40), (11, .int y11_41)] 82 [] := by
          intro n82
          induction n82 with
          | zero => intro σ47 y8_46 hO47 hA47 y8_46a y8_46b hn82; exfalso; omega
          | succ n82 ih82 =>
            intro σ47 y8_46 hO47 hA47 y8_46a y8_46b hn82
            refine zr_iload hB 8 dX8_going_82 rfl ?_
            refine zr_iload hB 11 dX8_going_84 rfl ?_
            refine zr_iload_n hB 3 dX8_going_86 rfl ?_
            refine zr_isub hB dX8_going_87 (by omega) (by omega) (fun x49 ex49 => ?_)
            refine zr_icmp_gt hB dX8_going_88 (tgt := 106) rfl (fun c50 => ?_) (fun c50 => ?_)
            · refine zr_aload_n hB 0 dX8_going_106 rfl ?_
              refine zr_getr hG 0 3 dX8_going_107 rfl wf_X8_35 rfl ?_
              refine zr_iload hB 11 dX8_going_110 rfl ?_
              refine zr_callvi hG (rest := []) 4 dX8_going_112 wm_X8_152 rfl rfl (c_X3_missOf_4 K hG.2.2.2.2.2.1 σ47 y11_41 hO47 ) rfl rfl (Nat.le_of_ble_eq_true rfl) ⟨Nat.le_of_ble_eq_true rfl, Nat.le_of_ble_eq_true rfl, rfl, rfl⟩ (fun r51 σ52 h53 => ?_)
              obtain ⟨rfl, r51a, r51b⟩ := h53
              refine zr_istore hB dX8_going_115 (by decide) (lv' := [(12, .int r51), (0, .ref (zk K 0)), (1, .int p1), (2, .int p2), (3, .int p3), (4, .int p4), (5, .int p5), (6, .int p6), (7, .int p7), (8, .int y8_46), (9, .int y9_39), (10, .int y10_40), (11, .int y11_41)]) rfl ?_
              refine zr_iload hB 0 dX8_going_117 rfl ?_
              refine zr_bipush hB dX8_going_119 rfl (fun c54 ec54 => ?_)
              refine zr_icmp_eq hB dX8_going_121 (tgt := 162) rfl (fun c55 => ?_) (fun c55 => ?_)
              · refine zr_iinc hB 12 dX8_going_162 rfl (by decide) rfl (by omega) (by omega) (fun x56 ex56 lv' hlv => ?_)
                obtain rfl : [(11, .int x56), (12, .int r51), (0, .ref (zk K 0)), (1, .int p1), (2, .int p2), (3, .int p3), (4, .int p4), (5, .int p5), (6, .int p6), (7, .int p7), (8, .int y8_46), (9, .int y9_39), (10, .int y10_40)] = lv' := hlv
                refine zr_goto hB dX8_going_165 (tgt := 75) rfl ?_
                exact zc_sub [2, 3, 4, 5, 6, 7, 8, 9, 10, 11, 12, 0] rfl (ih75 σ47 y8_46 y9_39 y10_40 x56 hO47 hA47 (by omega) (by omega) (by omega) (by omega) (by omega))
              refine zr_aload_n hB 1 dX8_going_124 rfl ?_
              refine zr_getr hG 0 3 dX8_going_125 rfl wf_X8_35 rfl ?_
              refine zr_geti' hG 4 10 (σ47.1 4 10) dX8_going_128 rfl wf_X8_185 rfl rfl ?_
              have b57 : 0 ≤ (σ47.1 4 10).toInt ∧ (σ47.1 4 10).toInt ≤ 64 := ⟨(hO47 4 10).1, (hO47 4 10).2.1⟩
              refine zr_iconst hB dX8_going_131 rfl (fun c58 ec58 => ?_)
              refine zr_icmp_lt hB dX8_going_132 (tgt := 162) rfl (fun c59 => ?_) (fun c59 => ?_)
              · refine zr_iinc hB 12 dX8_going_162 rfl (by decide) rfl (by omega) (by omega) (fun x60 ex60 lv' hlv => ?_)
                obtain rfl : [(11, .int x60), (12, .int r51), (0, .ref (zk K 0)), (1, .int p1), (2, .int p2), (3, .int p3), (4, .int p4), (5, .int p5), (6, .int p6), (7, .int p7), (8, .int y8_46), (9, .int y9_39), (10, .int y10_40)] = lv' := hlv
                refine zr_goto hB dX8_going_165 (tgt := 75) rfl ?_
                exact zc_sub [2, 3, 4, 5, 6, 7, 8, 9, 10, 11, 12, 0] rfl (ih75 σ47 y8_46 y9_39 y10_40 x60 hO47 hA47 (by omega) (by omega) (by omega) (by omega) (by omega))
              refine zr_iincw hB 10 dX8_going_135 rfl (by decide) (fun x61 ex61 lv' hlv => ?_)
              obtain rfl : [(9, .int x61), (12, .int r51), (0, .ref (zk K 0)), (1, .int p1), (2, .int p2), (3, .int p3), (4, .int p4), (5, .int p5), (6, .int p6), (7, .int p7), (8, .int y8_46), (10, .int y10_40), (11, .int y11_41)] = lv' := hlv
              refine zr_iload hB 11 dX8_going_138 rfl ?_
              refine zr_iload hB 1 dX8_going_140 rfl ?_
              refine zr_aload_n hB 2 dX8_going_142 rfl ?_
              refine zr_getr hG 0 3 dX8_going_143 rfl wf_X8_35 rfl ?_
              refine zr_iload hB 8 dX8_going_146 rfl ?_
              refine zr_callvi hG (rest := [.int r51, .int y10_40]) 4 dX8_going_148 wm_X8_192 rfl rfl (c_X3_spanOf_4 K hG.2.2.2.2.2.1 σ47 p6 hO47 (by omega) (by omega)) rfl rfl (Nat.le_of_ble_eq_true rfl) ⟨Nat.le_of_ble_eq_true rfl, Nat.le_of_ble_eq_true rfl, rfl, rfl⟩ (fun r62 σ63 h64 => ?_)
              obtain ⟨rfl, r62a, r62b⟩ := h64
              refine zr_icmp_gt hB dX8_going_151 (tgt := 158) rfl (fun c65 => ?_) (fun c65 => ?_)
              · refine zr_iconst hB dX8_going_158 rfl (fun c66 ec66 => ?_)
                have v68 := And.intro (zn_lo y10_40) (zn_hi y10_40)
                refine zr_iadd hB dX8_going_159 (by omega) (by omega) (fun x67 ex67 => ?_)
                refine zr_istore hB dX8_going_160 (by decide) (lv' := [(10, .int x67), (9, .int x61), (12, .int r51), (0, .ref (zk K 0)), (1, .int p1), (2, .int p2), (3, .int p3), (4, .int p4), (5, .int p5), (6, .int p6), (7, .int p7), (8, .int y8_46), (11, .int y11_41)]) rfl ?_
                refine zr_iinc hB 12 dX8_going_162 rfl (by decide) rfl (by omega) (by omega) (fun x69 ex69 lv' hlv => ?_)
                obtain rfl : [(11, .int x69), (10, .int x67), (9, .int x61), (12, .int r51), (0, .ref (zk K 0)), (1, .int p1), (2, .int p2), (3, .int p3), (4, .int p4), (5, .int p5), (6, .int p6), (7, .int p7), (8, .int y8_46)] = lv' := hlv
                refine zr_goto hB dX8_going_165 (tgt := 75) rfl ?_
                exact zc_sub [4, 5, 6, 7, 8, 9, 10, 11, 12, 2, 1, 0] rfl (ih75 σ47 y8_46 x61 x67 x69 hO47 hA47 (by omega) (by omega) (by omega) (by omega) (by omega))
              refine zr_iconst hB dX8_going_154 rfl (fun c70 ec70 => ?_)
              refine zr_goto hB dX8_going_155 (tgt := 159) rfl ?_
              refine zr_iaddw hB dX8_going_159 (fun x71 ex71 => ?_)
              refine zr_istore hB dX8_going_160 (by decide) (lv' := [(10, .int x71), (9, .int x61), (12, .int r51), (0, .ref (zk K 0)), (1, .int p1), (2, .int p2), (3, .int p3), (4, .int p4), (5, .int p5), (6, .int p6), (7, .int p7), (8, .int y8_46), (11, .int y11_41)]) rfl ?_
              refine zr_iinc hB 12 dX8_going_162 rfl (by decide) rfl (by omega) (by omega) (fun x72 ex72 lv' hlv => ?_)
              obtain rfl : [(11, .int x72), (10, .int x71), (9, .int x61), (12, .int r51), (0, .ref (zk K 0)), (1, .int p1), (2, .int p2), (3, .int p3), (4, .int p4), (5, .int p5), (6, .int p6), (7, .int p7), (8, .int y8_46)] = lv' := hlv
              refine zr_goto hB dX8_going_165 (tgt := 75) rfl ?_
              exact zc_sub [4, 5, 6, 7, 8, 9, 10, 11, 12, 2, 1, 0] rfl (ih75 σ47 y8_46 x61 x71 x72 hO47 hA47 (by omega) (by omega) (by omega) (by omega) (by omega))
            refine zr_aload_n hB 0 dX8_going_91 rfl ?_
            refine zr_getr hG 0 3 dX8_going_92 rfl wf_X8_35 rfl ?_
            refine zr_iload hB 8 dX8_going_95 rfl ?_
            refine zr_callvn hG (rest := []) 4 dX8_going_97 wm_X8_188 rfl rfl (c_X3_sortMiss_4 K hG.2.2.2.2.2.1 σ47 y8_46 hO47 ) rfl rfl (Nat.le_of_ble_eq_true rfl) ⟨Nat.le_of_ble_eq_true rfl, Nat.le_of_ble_eq_true rfl, rfl, rfl⟩ (fun σ74 h75 => ?_)
            obtain ⟨hO76, hAc77⟩ := h75
            have hA78 := zc_Ag.tr hA47 hAc77 rfl
            refine zr_iinc hB 8 dX8_going_100 rfl (by decide) rfl (by omega) (by omega) (fun x79 ex79 lv' hlv => ?_)
            obtain rfl : [(8, .int x79), (0, .ref (zk K 0)), (1, .int p1), (2, .int p2), (3, .int p3), (4, .int p4), (5, .int p5), (6, .int p6), (7, .int p7), (9, .int y9_39), (10, .int y10_40), (11, .int y11_41)] = lv' := hlv
            refine zr_goto hB dX8_going_103 (tgt := 82) rfl ?_
            exact zc_sub [1, 2, 3, 4, 5, 6, 7, 8, 0, 9, 10, 11] rfl (ih82 σ74 x79 hO76 hA78 (by omega) (by omega) (by omega))
        exact L82_48 65 σ42 y8_38 hO42 hA42 (by omega) (by omega) (by omega)
    exact zc_sub [4, 5, 6, 7, 8, 9, 10, 11, 3, 2, 1, 0] rfl (L75_43 66 (zc_u σ28 4 10 c33) c35 c36 c37 p4 hOw34 hAw34 (by omega) (by omega) (by omega) (by omega) (by omega))
  refine zr_iconst hB dX8_going_39 rfl (fun c80 ec80 => ?_)
  exact zr_iret hG dX8_going_40 ⟨hO0, hA0⟩
