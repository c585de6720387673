def m_M_numberOf : zc_ms := [(14, none), (15, none)]
set_option maxHeartbeats 1000000 in
set_option maxRecDepth 100000 in
theorem c_M_numberOf (K : zc_K) (hi : zc_inj shM K.2.2.2.1) (σ0 : zc_S) (p1 : Int32) (p2 : Int32) (p3 : Int32) (p4 : Int32) (p5 : Int32) (p6 : Int32) (p7 : Int32) (p8 : Int32) (hO0 : zc_O okM σ0) (hT : zm_T σ0) : zc_M shM K yX9_number_ cX9_number_ 16 (some .int) (zrm 9 234) σ0 [.ref (zk K 0), .int p1, .int p2, .int p3, .int p4, .int p5, .int p6, .int p7, .int p8] (zc_I (fun r9 σ9 => zc_O okM σ9 ∧ zc_Ag m_M_numberOf σ0 σ9)) := by
  refine zc_start RX9 hi pfX9_number_ rfl (Nat.le_of_ble_eq_true rfl) ?_
  intro G hG
  have hB := hG.1
  have hA0 : zc_Ag m_M_numberOf σ0 σ0 := zc_Ag.rf
  show zc_V 16 K G (zc_D shM K G σ0) [(0, .ref (zk K 0)), (1, .int p1), (2, .int p2), (3, .int p3), (4, .int p4), (5, .int p5), (6, .int p6), (7, .int p7), (8, .int p8)] 0 []
  have bw0_17 : 0 ≤ (σ0.1 0 17).toInt ∧ (σ0.1 0 17).toInt ≤ 6 := ⟨(hO0 0 17).1, (hO0 0 17).2.1⟩
  refine zr_aload_n hB 0 dX9_number__0 rfl ?_
  refine zr_iload_n hB 1 dX9_number__1 rfl ?_
  refine zr_iload_n hB 2 dX9_number__2 rfl ?_
  refine zr_iload_n hB 3 dX9_number__3 rfl ?_
  refine zr_iload hB 4 dX9_number__4 rfl ?_
  refine zr_iload hB 5 dX9_number__6 rfl ?_
  refine zr_callvi hG (rest := []) 0 dX9_number__8 wm_X9_232 rfl rfl (c_M_isAsked K hG.2.2.2.2.2.1 σ0 p1 p2 p3 p4 p5 hO0 ) rfl rfl (Nat.le_of_ble_eq_true rfl) ⟨Nat.le_of_ble_eq_true rfl, Nat.le_of_ble_eq_true rfl, rfl, rfl⟩ (fun r1 σ2 h3 => ?_)
  obtain ⟨rfl, r1q⟩ := h3
  have r1z := r1q.b
  refine zr_if_eq hB dX9_number__11 (tgt := 51) rfl (fun c4 => ?_) (fun c4 => ?_)
  · have q5 := r1q.f c4
    refine zr_iconst hB dX9_number__51 rfl (fun c6 ec6 => ?_)
    exact zr_iret hG dX9_number__52 ⟨hO0, hA0⟩
  have q7 := r1q.t c4
  refine zr_iload hB 6 dX9_number__14 rfl ?_
  have v9 := And.intro (zn_lo p6) (zn_hi p6)
  refine zr_i2l hB dX9_number__16 (fun l8 el8 => ?_)
  refine zr_lconst hB dX9_number__17 (m := 1) rfl (fun c10 ec10 => ?_)
  refine zr_ldc2 hB dX9_number__18 wc_X9_269 (n := 99) rfl (fun c11 ec11 => ?_)
  refine zr_callsi hG (rest := []) dX9_number__21 wm_X9_91 (c_M_in K hG.2.2.2.2.2.1 σ0 l8 c10 c11 hO0 ) rfl rfl (Nat.le_of_ble_eq_true rfl) ⟨Nat.le_of_ble_eq_true rfl, Nat.le_of_ble_eq_true rfl, rfl, rfl⟩ (fun r12 σ13 h14 => ?_)
  obtain ⟨rfl, r12q⟩ := h14
  have r12z := r12q.b
  refine zr_if_eq hB dX9_number__24 (tgt := 51) rfl (fun c15 => ?_) (fun c15 => ?_)
  · have q16 := r12q.f c15
    refine zr_iconst hB dX9_number__51 rfl (fun c17 ec17 => ?_)
    exact zr_iret hG dX9_number__52 ⟨hO0, hA0⟩
  have q18 := r12q.t c15
  refine zr_iload hB 7 dX9_number__27 rfl ?_
  have v20 := And.intro (zn_lo p7) (zn_hi p7)
  refine zr_i2l hB dX9_number__29 (fun l19 el19 => ?_)
  refine zr_lconst hB dX9_number__30 (m := 1) rfl (fun c21 ec21 => ?_)
  refine zr_ldc2 hB dX9_number__31 wc_X9_269 (n := 99) rfl (fun c22 ec22 => ?_)
  refine zr_callsi hG (rest := []) dX9_number__34 wm_X9_91 (c_M_in K hG.2.2.2.2.2.1 σ0 l19 c21 c22 hO0 ) rfl rfl (Nat.le_of_ble_eq_true rfl) ⟨Nat.le_of_ble_eq_true rfl, Nat.le_of_ble_eq_true rfl, rfl, rfl⟩ (fun r23 σ24 h25 => ?_)
  obtain ⟨rfl, r23q⟩ := h25
  have r23z := r23q.b
  refine zr_if_eq hB dX9_number__37 (tgt := 51) rfl (fun c26 => ?_) (fun c26 => ?_)
  · have q27 := r23q.f c26
    refine zr_iconst hB dX9_number__51 rfl (fun c28 ec28 => ?_)
    exact zr_iret hG dX9_number__52 ⟨hO0, hA0⟩
  have q29 := r23q.t c26
  refine zr_iload hB 8 dX9_number__40 rfl ?_
  have v31 := And.intro (zn_lo p8) (zn_hi p8)
  refine zr_i2l hB dX9_number__42 (fun l30 el30 => ?_)
  refine zr_lconst hB dX9_number__43 (m := 0) rfl (fun c32 ec32 => ?_)
  refine zr_lconst hB dX9_number__44 (m := 1) rfl (fun c33 ec33 => ?_)
  refine zr_callsi hG (rest := []) dX9_number__45 wm_X9_91 (c_M_in K hG.2.2.2.2.2.1 σ0 l30 c32 c33 hO0 ) rfl rfl (Nat.le_of_ble_eq_true rfl) ⟨Nat.le_of_ble_eq_true rfl, Nat.le_of_ble_eq_true rfl, rfl, rfl⟩ (fun r34 σ35 h36 => ?_)
  obtain ⟨rfl, r34q⟩ := h36
  have r34z := r34q.b
  refine zr_if_ne hB dX9_number__48 (tgt := 53) rfl (fun c37 => ?_) (fun c37 => ?_)
  · have q38 := r34q.t c37
    refine zr_aload_n hB 0 dX9_number__53 rfl ?_
    refine zr_iload_n hB 2 dX9_number__54 rfl ?_
    refine zr_iload_n hB 1 dX9_number__55 rfl ?_
    refine zr_aload_n hB 0 dX9_number__56 rfl ?_
    refine zr_geti' hG 0 1 (σ0.1 0 1) dX9_number__57 rfl wf_X9_101 rfl rfl ?_
    have b39 : 0 ≤ (σ0.1 0 1).toInt ∧ (σ0.1 0 1).toInt ≤ 63 := ⟨(hO0 0 1).1, (hO0 0 1).2.1⟩
    refine zr_iload_n hB 3 dX9_number__60 rfl ?_
    refine zr_callvi hG (rest := []) 0 dX9_number__61 wm_X9_222 rfl rfl (c_M_tellBy K hG.2.2.2.2.2.1 σ0 p2 p1 (σ0.1 0 1) p3 hO0 (by omega) (by omega) (by omega) (by omega) (by omega) (by omega) (by omega) (by omega) (by omega) hT) rfl rfl (Nat.le_of_ble_eq_true rfl) ⟨Nat.le_of_ble_eq_true rfl, Nat.le_of_ble_eq_true rfl, rfl, rfl⟩ (fun r40 σ41 h42 => ?_)
    obtain ⟨rfl, r40a, r40b, g43⟩ := h42
    refine zr_istore hB dX9_number__64 (by decide) (lv' := [(9, .int r40), (0, .ref (zk K 0)), (1, .int p1), (2, .int p2), (3, .int p3), (4, .int p4), (5, .int p5), (6, .int p6), (7, .int p7), (8, .int p8)]) rfl ?_
    refine zr_aload_n hB 1 dX9_number__66 rfl ?_
    refine zr_iload_n hB 2 dX9_number__67 rfl ?_
    refine zr_iload_n hB 3 dX9_number__68 rfl ?_
    refine zr_iload_n hB 4 dX9_number__69 rfl ?_
    refine zr_iload hB 5 dX9_number__70 rfl ?_
    refine zr_iload hB 6 dX9_number__72 rfl ?_
    refine zr_callvn hG (rest := []) 0 dX9_number__74 wm_X9_236 rfl rfl (c_M_layMisses K hG.2.2.2.2.2.1 σ0 p1 p2 p3 p4 p5 hO0 (by omega) (by omega) (by omega) (by omega) (by omega) (by omega) (by omega) (by omega) (by omega) (by omega) (by omega) hT) rfl rfl (Nat.le_of_ble_eq_true rfl) ⟨Nat.le_of_ble_eq_true rfl, Nat.le_of_ble_eq_true rfl, rfl, rfl⟩ (fun σ45 h46 => ?_)
    obtain ⟨hO47, hAc48⟩ := h46
    have hA49 := zc_Ag.tr hA0 hAc48 rfl
    have q50 : (σ45.1 0 17).toInt = (σ0.1 0 17).toInt := congrArg Int32.toInt (hAc48 0 17 rfl).1
    have q51 : (σ45.1 0 1).toInt = (σ0.1 0 1).toInt := congrArg Int32.toInt (hAc48 0 1 rfl).1
    refine zr_iload hB 0 dX9_number__77 rfl ?_
    refine zr_if_lt hB dX9_number__79 (tgt := 93) rfl (fun c52 => ?_) (fun c52 => ?_)
    · refine zr_bipush hB dX9_number__93 rfl (fun c53 ec53 => ?_)
      exact zr_iret hG dX9_number__95 ⟨hO47, hA49⟩
    refine zr_aload_n hB 1 dX9_number__82 rfl ?_
    refine zr_iload hB 5 dX9_number__83 rfl ?_
    refine zr_iload hB 6 dX9_number__85 rfl ?_
    refine zr_callvi hG (rest := []) 0 dX9_number__87 wm_X9_243 rfl rfl (c_M_manyIn K hG.2.2.2.2.2.1 σ45 p4 p5 hO47 (by omega) (by omega) (by omega) (by omega)) rfl rfl (Nat.le_of_ble_eq_true rfl) ⟨Nat.le_of_ble_eq_true rfl, Nat.le_of_ble_eq_true rfl, rfl, rfl⟩ (fun r54 σ55 h56 => ?_)
    obtain ⟨rfl, r54a, r54b, g57⟩ := h56
    refine zr_if_ne hB dX9_number__90 (tgt := 96) rfl (fun c58 => ?_) (fun c58 => ?_)
    · refine zr_iconst hB dX9_number__96 rfl (fun c59 ec59 => ?_)
      refine zr_istore hB dX9_number__97 (by decide) (lv' := [(10, .int c59), (9, .int r40), (0, .ref (zk K 0)), (1, .int p1), (2, .int p2), (3, .int p3), (4, .int p4), (5, .int p5), (6, .int p6), (7, .int p7), (8, .int p8)]) rfl ?_
      refine zr_iconst hB dX9_number__99 rfl (fun c60 ec60 => ?_)
      refine zr_istore hB dX9_number__100 (by decide) (lv' := [(11, .int c60), (10, .int c59), (9, .int r40), (0, .ref (zk K 0)), (1, .int p1), (2, .int p2), (3, .int p3), (4, .int p4), (5, .int p5), (6, .int p6), (7, .int p7), (8, .int p8)]) rfl ?_
      refine zr_iconst hB dX9_number__102 rfl (fun c61 ec61 => ?_)
      refine zr_istore hB dX9_number__103 (by decide) (lv' := [(12, .int c61), (11, .int c60), (10, .int c59), (9, .int r40), (0, .ref (zk K 0)), (1, .int p1), (2, .int p2), (3, .int p3), (4, .int p4), (5, .int p5), (6, .int p6), (7, .int p7), (8, .int p8)]) rfl ?_
      have L105_65 : ∀ (n105 : Nat) (y10_62 : Int32) (y11_63 : Int32) (y12_64 : Int32), 0 ≤ y10_62.toInt → 0 ≤ y12_64.toInt → 2147483647 - y12_64.toInt < (n105 : Int) → zc_V 16 K G (zc_D shM K G σ45) [(0, .ref (zk K 0)), (1, .int p1), (2, .int p2), (3, .int p3), (4, .int p4), (5, .int p5), (6, .int p6), (7, .int p7), (8, .int p8), (9, .int r40), (10, .int y10_62), (11, .int y11_63), (12, .int y12_64)] 105 [] := by
        intro n105
        induction n105 with
        | zero => intro y10_62 y11_63 y12_64 y10_62a y12_64a hn105; have vy10_62 := And.intro (zn_lo y10_62) (zn_hi y10_62); have vy11_63 := And.intro (zn_lo y11_63) (zn_hi y11_63); have vy12_64 := And.intro (zn_lo y12_64) (zn_hi y12_64); exfalso; omega
        | succ n105 ih105 =>
          intro y10_62 y11_63 y12_64 y10_62a y12_64a hn105
          have vy10_62 := And.intro (zn_lo y10_62) (zn_hi y10_62)
          have vy11_63 := And.intro (zn_lo y11_63) (zn_hi y11_63)
          have vy12_64 := And.intro (zn_lo y12_64) (zn_hi y12_64)
          refine zr_iload hB 12 dX9_number__105 rfl ?_
          refine zr_sipush hB dX9_number__107 rfl (fun c66 ec66 => ?_)
          refine zr_icmp_ge hB dX9_number__110 (tgt := 216) rfl (fun c67 => ?_) (fun c67 => ?_)
          · refine zr_iload hB 8 dX9_number__216 rfl ?_
            refine zr_if_ne hB dX9_number__218 (tgt := 226) rfl (fun c68 => ?_) (fun c68 => ?_)
            · refine zr_iload hB 11 dX9_number__226 rfl ?_
              exact zr_iret hG dX9_number__228 ⟨hO47, hA49⟩
            refine zr_iload hB 10 dX9_number__221 rfl ?_
            refine zr_goto hB dX9_number__223 (tgt := 228) rfl ?_
            exact zr_iret hG dX9_number__228 ⟨hO47, hA49⟩
          refine zr_iconst hB dX9_number__113 rfl (fun c69 ec69 => ?_)
          refine zr_istore hB dX9_number__114 (by decide) (lv' := [(13, .int c69), (0, .ref (zk K 0)), (1, .int p1), (2, .int p2), (3, .int p3), (4, .int p4), (5, .int p5), (6, .int p6), (7, .int p7), (8, .int p8), (9, .int r40), (10, .int y10_62), (11, .int y11_63), (12, .int y12_64)]) rfl ?_
          refine zr_iload hB 5 dX9_number__116 rfl ?_
          refine zr_istore hB dX9_number__118 (by decide) (lv' := [(14, .int p4), (13, .int c69), (0, .ref (zk K 0)), (1, .int p1), (2, .int p2), (3, .int p3), (4, .int p4), (5, .int p5), (6, .int p6), (7, .int p7), (8, .int p8), (9, .int r40), (10, .int y10_62), (11, .int y11_63), (12, .int y12_64)]) rfl ?_
          have L120_72 : ∀ (n120 : Nat) (y13_70 : Int32) (y14_71 : Int32), 0 ≤ y14_71.toInt → y14_71.toInt ≤ 64 → 64 - y14_71.toInt < (n120 : Int) → zc_V 16 K G (zc_D shM K G σ45) [(0, .ref (zk K 0)), (1, .int p1), (2, .int p2), (3, .int p3), (4, .int p4), (5, .int p5), (6, .int p6), (7, .int p7), (8, .int p8), (9, .int r40), (10, .int y10_62), (11, .int y11_63), (12, .int y12_64), (13, .int y13_70), (14, .int y14_71)] 120 [] := by
            intro n120
            induction n120 with
            | zero => intro y13_70 y14_71 y14_71a y14_71b hn120; have vy13_70 := And.intro (zn_lo y13_70) (zn_hi y13_70); exfalso; omega
            | succ n120 ih120 =>
              intro y13_70 y14_71 y14_71a y14_71b hn120
              have vy13_70 := And.intro (zn_lo y13_70) (zn_hi y13_70)
              refine zr_iload hB 14 dX9_number__120 rfl ?_
              refine zr_iload hB 5 dX9_number__122 rfl ?_
              refine zr_icmp_gt hB dX9_number__124 (tgt := 190) rfl (fun c73 => ?_) (fun c73 => ?_)
              · refine zr_iload hB 11 dX9_number__190 rfl ?_
                refine zr_if_lt hB dX9_number__192 (tgt := 202) rfl (fun c74 => ?_) (fun c74 => ?_)
                · refine zr_iload hB 13 dX9_number__202 rfl ?_
                  refine zr_istore hB dX9_number__204 (by decide) (lv' := [(11, .int y13_70), (0, .ref (zk K 0)), (1, .int p1), (2, .int p2), (3, .int p3), (4, .int p4), (5, .int p5), (6, .int p6), (7, .int p7), (8, .int p8), (9, .int r40), (10, .int y10_62), (12, .int y12_64), (13, .int y13_70), (14, .int y14_71)]) rfl ?_
                  refine zr_iload hB 12 dX9_number__206 rfl ?_
                  refine zr_istore hB dX9_number__208 (by decide) (lv' := [(10, .int y12_64), (11, .int y13_70), (0, .ref (zk K 0)), (1, .int p1), (2, .int p2), (3, .int p3), (4, .int p4), (5, .int p5), (6, .int p6), (7, .int p7), (8, .int p8), (9, .int r40), (12, .int y12_64), (13, .int y13_70), (14, .int y14_71)]) rfl ?_
                  refine zr_iinc hB 12 dX9_number__210 rfl (by decide) rfl (by omega) (by omega) (fun x75 ex75 lv' hlv => ?_)
                  obtain rfl : [(12, .int x75), (10, .int y12_64), (11, .int y13_70), (0, .ref (zk K 0)), (1, .int p1), (2, .int p2), (3, .int p3), (4, .int p4), (5, .int p5), (6, .int p6), (7, .int p7), (8, .int p8), (9, .int r40), (13, .int y13_70), (14, .int y14_71)] = lv' := hlv
                  refine zr_goto hB dX9_number__213 (tgt := 105) rfl ?_
                  exact zc_sub [3, 4, 5, 6, 7, 8, 9, 10, 11, 12, 1, 2, 0] rfl (ih105 y12_64 y13_70 x75 (by omega) (by omega) (by omega))
                refine zr_iload hB 13 dX9_number__195 rfl ?_
                refine zr_iload hB 11 dX9_number__197 rfl ?_
                refine zr_icmp_ge hB dX9_number__199 (tgt := 210) rfl (fun c76 => ?_) (fun c76 => ?_)
                · refine zr_iinc hB 12 dX9_number__210 rfl (by decide) rfl (by omega) (by omega) (fun x77 ex77 lv' hlv => ?_)
                  obtain rfl : [(12, .int x77), (0, .ref (zk K 0)), (1, .int p1), (2, .int p2), (3, .int p3), (4, .int p4), (5, .int p5), (6, .int p6), (7, .int p7), (8, .int p8), (9, .int r40), (10, .int y10_62), (11, .int y11_63), (13, .int y13_70), (14, .int y14_71)] = lv' := hlv
                  refine zr_goto hB dX9_number__213 (tgt := 105) rfl ?_
                  exact zc_sub [1, 2, 3, 4, 5, 6, 7, 8, 9, 10, 11, 12, 0] rfl (ih105 y10_62 y11_63 x77 (by omega) (by omega) (by omega))
                refine zr_iload hB 13 dX9_number__202 rfl ?_
                refine zr_istore hB dX9_number__204 (by decide) (lv' := [(11, .int y13_70), (0, .ref (zk K 0)), (1, .int p1), (2, .int p2), (3, .int p3), (4, .int p4), (5, .int p5), (6, .int p6), (7, .int p7), (8, .int p8), (9, .int r40), (10, .int y10_62), (12, .int y12_64), (13, .int y13_70), (14, .int y14_71)]) rfl ?_
                refine zr_iload hB 12 dX9_number__206 rfl ?_
                refine zr_istore hB dX9_number__208 (by decide) (lv' := [(10, .int y12_64), (11, .int y13_70), (0, .ref (zk K 0)), (1, .int p1), (2, .int p2), (3, .int p3), (4, .int p4), (5, .int p5), (6, .int p6), (7, .int p7), (8, .int p8), (9, .int r40), (12, .int y12_64), (13, .int y13_70), (14, .int y14_71)]) rfl ?_
                refine zr_iinc hB 12 dX9_number__210 rfl (by decide) rfl (by omega) (by omega) (fun x78 ex78 lv' hlv => ?_)
                obtain rfl : [(12, .int x78), (10, .int y12_64), (11, .int y13_70), (0, .ref (zk K 0)), (1, .int p1), (2, .int p2), (3, .int p3), (4, .int p4), (5, .int p5), (6, .int p6), (7, .int p7), (8, .int p8), (9, .int r40), (13, .int y13_70), (14, .int y14_71)] = lv' := hlv
                refine zr_goto hB dX9_number__213 (tgt := 105) rfl ?_
                exact zc_sub [3, 4, 5, 6, 7, 8, 9, 10, 11, 12, 1, 2, 0] rfl (ih105 y12_64 y13_70 x78 (by omega) (by omega) (by omega))
              refine zr_iload hB 9 dX9_number__127 rfl ?_
              refine zr_aload_n hB 0 dX9_number__129 rfl ?_
              refine zr_getr hG 0 25 dX9_number__130 rfl wf_X9_50 rfl ?_
              refine zr_iload hB 14 dX9_number__133 rfl ?_
              refine zr_iald hG 14 dX9_number__135 rfl (by omega) (by omega) (fun x79 ex79 => ?_)
              have bx79 : (-999) ≤ x79.toInt ∧ x79.toInt ≤ 999 := by rw [ex79]; exact ⟨(hO47 14 _).1, (hO47 14 _).2.1⟩
              refine zr_iadd hB dX9_number__136 (by omega) (by omega) (fun x80 ex80 => ?_)
              refine zr_istore hB dX9_number__137 (by decide) (lv' := [(15, .int x80), (0, .ref (zk K 0)), (1, .int p1), (2, .int p2), (3, .int p3), (4, .int p4), (5, .int p5), (6, .int p6), (7, .int p7), (8, .int p8), (9, .int r40), (10, .int y10_62), (11, .int y11_63), (12, .int y12_64), (13, .int y13_70), (14, .int y14_71)]) rfl ?_
              refine zr_iload hB 14 dX9_number__139 rfl ?_
              refine zr_aload_n hB 1 dX9_number__141 rfl ?_
              refine zr_getr hG 0 26 dX9_number__142 rfl wf_X9_53 rfl ?_
              refine zr_iload hB 15 dX9_number__145 rfl ?_
              refine zr_zald hG 15 dX9_number__147 rfl (by omega) (by omega) (fun x81 ex81 => ?_)
              have bx81 : 0 ≤ x81.toInt ∧ x81.toInt ≤ 1 := by rw [ex81]; exact ⟨(hO47 15 _).1, (hO47 15 _).2.1⟩
              refine zr_if_ne hB dX9_number__148 (tgt := 155) rfl (fun c82 => ?_) (fun c82 => ?_)
              · refine zr_iload hB 13 dX9_number__155 rfl ?_
                refine zr_iload hB 0 dX9_number__157 rfl ?_
                refine zr_icmp_le hB dX9_number__159 (tgt := 173) rfl (fun c83 => ?_) (fun c83 => ?_)
                · refine zr_iload hB 8 dX9_number__173 rfl ?_
                  refine zr_iload hB 0 dX9_number__175 rfl ?_
                  refine zr_iload hB 13 dX9_number__177 rfl ?_
                  refine zr_isub hB dX9_number__179 (by omega) (by omega) (fun x84 ex84 => ?_)
                  refine zr_imulw hB dX9_number__180 (fun x85 ex85 => ?_)
                  refine zr_iaddw hB dX9_number__181 (fun x86 ex86 => ?_)
                  refine zr_istore hB dX9_number__182 (by decide) (lv' := [(13, .int x86), (15, .int x80), (0, .ref (zk K 0)), (1, .int p1), (2, .int p2), (3, .int p3), (4, .int p4), (5, .int p5), (6, .int p6), (7, .int p7), (8, .int p8), (9, .int r40), (10, .int y10_62), (11, .int y11_63), (12, .int y12_64), (14, .int y14_71)]) rfl ?_
                  refine zr_iinc hB 15 dX9_number__184 rfl (by decide) rfl (by omega) (by omega) (fun x87 ex87 lv' hlv => ?_)
                  obtain rfl : [(14, .int x87), (13, .int x86), (15, .int x80), (0, .ref (zk K 0)), (1, .int p1), (2, .int p2), (3, .int p3), (4, .int p4), (5, .int p5), (6, .int p6), (7, .int p7), (8, .int p8), (9, .int r40), (10, .int y10_62), (11, .int y11_63), (12, .int y12_64)] = lv' := hlv
                  refine zr_goto hB dX9_number__187 (tgt := 120) rfl ?_
                  exact zc_sub [3, 4, 5, 6, 7, 8, 9, 10, 11, 12, 13, 14, 15, 1, 0] rfl (ih120 x86 x87 (by omega) (by omega) (by omega))
                refine zr_iload hB 7 dX9_number__162 rfl ?_
                refine zr_iload hB 13 dX9_number__164 rfl ?_
                refine zr_iload hB 0 dX9_number__166 rfl ?_
                refine zr_isub hB dX9_number__168 (by omega) (by omega) (fun x88 ex88 => ?_)
                refine zr_imulw hB dX9_number__169 (fun x89 ex89 => ?_)
                refine zr_goto hB dX9_number__170 (tgt := 181) rfl ?_
                refine zr_iaddw hB dX9_number__181 (fun x90 ex90 => ?_)
                refine zr_istore hB dX9_number__182 (by decide) (lv' := [(13, .int x90), (15, .int x80), (0, .ref (zk K 0)), (1, .int p1), (2, .int p2), (3, .int p3), (4, .int p4), (5, .int p5), (6, .int p6), (7, .int p7), (8, .int p8), (9, .int r40), (10, .int y10_62), (11, .int y11_63), (12, .int y12_64), (14, .int y14_71)]) rfl ?_
                refine zr_iinc hB 15 dX9_number__184 rfl (by decide) rfl (by omega) (by omega) (fun x91 ex91 lv' hlv => ?_)
                obtain rfl : [(14, .int x91), (13, .int x90), (15, .int x80), (0, .ref (zk K 0)), (1, .int p1), (2, .int p2), (3, .int p3), (4, .int p4), (5, .int p5), (6, .int p6), (7, .int p7), (8, .int p8), (9, .int r40), (10, .int y10_62), (11, .int y11_63), (12, .int y12_64)] = lv' := hlv
                refine zr_goto hB dX9_number__187 (tgt := 120) rfl ?_
                exact zc_sub [3, 4, 5, 6, 7, 8, 9, 10, 11, 12, 13, 14, 15, 1, 0] rfl (ih120 x90 x91 (by omega) (by omega) (by omega))
              refine zr_iconst hB dX9_number__151 rfl (fun c92 ec92 => ?_)
              refine zr_goto hB dX9_number__152 (tgt := 181) rfl ?_
              have v94 := And.intro (zn_lo y13_70) (zn_hi y13_70)
              refine zr_iadd hB dX9_number__181 (by omega) (by omega) (fun x93 ex93 => ?_)
              refine zr_istore hB dX9_number__182 (by decide) (lv' := [(13, .int x93), (15, .int x80), (0, .ref (zk K 0)), (1, .int p1), (2, .int p2), (3, .int p3), (4, .int p4), (5, .int p5), (6, .int p6), (7, .int p7), (8, .int p8), (9, .int r40), (10, .int y10_62), (11, .int y11_63), (12, .int y12_64), (14, .int y14_71)]) rfl ?_
              refine zr_iinc hB 15 dX9_number__184 rfl (by decide) rfl (by omega) (by omega) (fun x95 ex95 lv' hlv => ?_)
              obtain rfl : [(14, .int x95), (13, .int x93), (15, .int x80), (0, .ref (zk K 0)), (1, .int p1), (2, .int p2), (3, .int p3), (4, .int p4), (5, .int p5), (6, .int p6), (7, .int p7), (8, .int p8), (9, .int r40), (10, .int y10_62), (11, .int y11_63), (12, .int y12_64)] = lv' := hlv
              refine zr_goto hB dX9_number__187 (tgt := 120) rfl ?_
              exact zc_sub [3, 4, 5, 6, 7, 8, 9, 10, 11, 12, 13, 14, 15, 1, 0] rfl (ih120 x93 x95 (by omega) (by omega) (by omega))
          exact zc_sub [2, 3, 4, 5, 6, 7, 8, 9, 10, 11, 12, 13, 14, 1, 0] rfl (L120_72 66 c69 p4 (by omega) (by omega) (by omega))
      exact zc_sub [4, 5, 6, 7, 8, 9, 10, 11, 12, 3, 2, 1, 0] rfl (L105_65 2147483649 c59 c60 c61 (by omega) (by omega) (by omega))
    refine zr_bipush hB dX9_number__93 rfl (fun c96 ec96 => ?_)
    exact zr_iret hG dX9_number__95 ⟨hO47, hA49⟩
  have q97 := r34q.f c37
  refine zr_iconst hB dX9_number__51 rfl (fun c98 ec98 => ?_)
  exact zr_iret hG dX9_number__52 ⟨hO0, hA0⟩

def m_M_worth : zc_ms := [(14, none), (15, none)]
set_option maxHeartbeats 1000000 in
set_option maxRecDepth 100000 in
theorem c_M_worth (K : zc_K) (hi : zc_inj shM K.2.2.2.1) (σ0 : zc_S) (p1 : Int32) (p2 : Int32) (p3 : Int32) (p4 : Int32) (p5 : Int32) (hO0 : zc_O okM σ0) (hT : zm_T σ0) : zc_M shM K yX9_worth cX9_worth 9 (some .int) (zrm 9 234) σ0 [.ref (zk K 0), .int p1, .int p2, .int p3, .int p4, .int p5] (zc_I (fun r9 σ9 => zc_O okM σ9 ∧ zc_Ag m_M_worth σ0 σ9)) := by
  refine zc_start RX9 hi pfX9_worth rfl (Nat.le_of_ble_eq_true rfl) ?_
  intro G hG
  have hB := hG.1
  have hA0 : zc_Ag m_M_worth σ0 σ0 := zc_Ag.rf
  show zc_V 9 K G (zc_D shM K G σ0) [(0, .ref (zk K 0)), (1, .int p1), (2, .int p2), (3, .int p3), (4, .int p4), (5, .int p5)] 0 []
  have bw0_17 : 0 ≤ (σ0.1 0 17).toInt ∧ (σ0.1 0 17).toInt ≤ 6 := ⟨(hO0 0 17).1, (hO0 0 17).2.1⟩
  refine zr_aload_n hB 0 dX9_worth_0 rfl ?_
  refine zr_iload_n hB 1 dX9_worth_1 rfl ?_
  refine zr_iload_n hB 2 dX9_worth_2 rfl ?_
  refine zr_iload_n hB 3 dX9_worth_3 rfl ?_
  refine zr_iload hB 4 dX9_worth_4 rfl ?_
  refine zr_iload hB 5 dX9_worth_6 rfl ?_
  refine zr_callvi hG (rest := []) 0 dX9_worth_8 wm_X9_232 rfl rfl (c_M_isAsked K hG.2.2.2.2.2.1 σ0 p1 p2 p3 p4 p5 hO0 ) rfl rfl (Nat.le_of_ble_eq_true rfl) ⟨Nat.le_of_ble_eq_true rfl, Nat.le_of_ble_eq_true rfl, rfl, rfl⟩ (fun r1 σ2 h3 => ?_)
  obtain ⟨rfl, r1q⟩ := h3
  have r1z := r1q.b
  refine zr_if_ne hB dX9_worth_11 (tgt := 18) rfl (fun c4 => ?_) (fun c4 => ?_)
  · have q5 := r1q.t c4
    refine zr_aload_n hB 0 dX9_worth_18 rfl ?_
    refine zr_iload_n hB 1 dX9_worth_19 rfl ?_
    refine zr_iload_n hB 2 dX9_worth_20 rfl ?_
    refine zr_iload_n hB 3 dX9_worth_21 rfl ?_
    refine zr_iload hB 4 dX9_worth_22 rfl ?_
    refine zr_iload hB 5 dX9_worth_24 rfl ?_
    refine zr_callvn hG (rest := []) 0 dX9_worth_26 wm_X9_236 rfl rfl (c_M_layMisses K hG.2.2.2.2.2.1 σ0 p1 p2 p3 p4 p5 hO0 (by omega) (by omega) (by omega) (by omega) (by omega) (by omega) (by omega) (by omega) (by omega) (by omega) (by omega) hT) rfl rfl (Nat.le_of_ble_eq_true rfl) ⟨Nat.le_of_ble_eq_true rfl, Nat.le_of_ble_eq_true rfl, rfl, rfl⟩ (fun σ7 h8 => ?_)
    obtain ⟨hO9, hAc10⟩ := h8
    have hA11 := zc_Ag.tr hA0 hAc10 rfl
    have q12 : (σ7.1 0 17).toInt = (σ0.1 0 17).toInt := congrArg Int32.toInt (hAc10 0 17 rfl).1
    refine zr_iconst hB dX9_worth_29 rfl (fun c13 ec13 => ?_)
    refine zr_istore hB dX9_worth_30 (by decide) (lv' := [(6, .int c13), (0, .ref (zk K 0)), (1, .int p1), (2, .int p2), (3, .int p3), (4, .int p4), (5, .int p5)]) rfl ?_
    refine zr_iconst hB dX9_worth_32 rfl (fun c14 ec14 => ?_)
    refine zr_istore hB dX9_worth_33 (by decide) (lv' := [(7, .int c14), (6, .int c13), (0, .ref (zk K 0)), (1, .int p1), (2, .int p2), (3, .int p3), (4, .int p4), (5, .int p5)]) rfl ?_
    refine zr_iload hB 6 dX9_worth_35 rfl ?_
    refine zr_istore hB dX9_worth_37 (by decide) (lv' := [(8, .int p4), (7, .int c14), (6, .int c13), (0, .ref (zk K 0)), (1, .int p1), (2, .int p2), (3, .int p3), (4, .int p4), (5, .int p5)]) rfl ?_
    have L39_18 : ∀ (n39 : Nat) (y6_15 : Int32) (y7_16 : Int32) (y8_17 : Int32), 0 ≤ y8_17.toInt → y8_17.toInt ≤ 64 → 64 - y8_17.toInt < (n39 : Int) → zc_V 9 K G (zc_D shM K G σ7) [(0, .ref (zk K 0)), (1, .int p1), (2, .int p2), (3, .int p3), (4, .int p4), (5, .int p5), (6, .int y6_15), (7, .int y7_16), (8, .int y8_17)] 39 [] := by
      intro n39
      induction n39 with
      | zero => intro y6_15 y7_16 y8_17 y8_17a y8_17b hn39; have vy6_15 := And.intro (zn_lo y6_15) (zn_hi y6_15); have vy7_16 := And.intro (zn_lo y7_16) (zn_hi y7_16); exfalso; omega
      | succ n39 ih39 =>
        intro y6_15 y7_16 y8_17 y8_17a y8_17b hn39
        have vy6_15 := And.intro (zn_lo y6_15) (zn_hi y6_15)
        have vy7_16 := And.intro (zn_lo y7_16) (zn_hi y7_16)
        refine zr_iload hB 8 dX9_worth_39 rfl ?_
        refine zr_iload hB 5 dX9_worth_41 rfl ?_
        refine zr_icmp_gt hB dX9_worth_43 (tgt := 108) rfl (fun c19 => ?_) (fun c19 => ?_)
        · refine zr_iload hB 6 dX9_worth_108 rfl ?_
          refine zr_if_ne hB dX9_worth_110 (tgt := 119) rfl (fun c20 => ?_) (fun c20 => ?_)
          · refine zr_iload hB 7 dX9_worth_119 rfl ?_
            exact zr_iret hG dX9_worth_121 ⟨hO9, hA11⟩
          refine zr_ldcw hB dX9_worth_113 wc_X9_268 (n := (-100004)) rfl (fun c21 ec21 => ?_)
          refine zr_goto hB dX9_worth_116 (tgt := 121) rfl ?_
          exact zr_iret hG dX9_worth_121 ⟨hO9, hA11⟩
        refine zr_iload hB 6 dX9_worth_46 rfl ?_
        refine zr_aload_n hB 0 dX9_worth_48 rfl ?_
        refine zr_getr hG 0 26 dX9_worth_49 rfl wf_X9_53 rfl ?_
        refine zr_iload hB 8 dX9_worth_52 rfl ?_
        refine zr_zald hG 15 dX9_worth_54 rfl (by omega) (by omega) (fun x22 ex22 => ?_)
        have bx22 : 0 ≤ x22.toInt ∧ x22.toInt ≤ 1 := by rw [ex22]; exact ⟨(hO9 15 _).1, (hO9 15 _).2.1⟩
        refine zr_if_eq hB dX9_worth_55 (tgt := 72) rfl (fun c23 => ?_) (fun c23 => ?_)
        · refine zr_iconst hB dX9_worth_72 rfl (fun c24 ec24 => ?_)
          have v26 := And.intro (zn_lo y6_15) (zn_hi y6_15)
          refine zr_iadd hB dX9_worth_73 (by omega) (by omega) (fun x25 ex25 => ?_)
          refine zr_istore hB dX9_worth_74 (by decide) (lv' := [(6, .int x25), (0, .ref (zk K 0)), (1, .int p1), (2, .int p2), (3, .int p3), (4, .int p4), (5, .int p5), (7, .int y7_16), (8, .int y8_17)]) rfl ?_
          refine zr_iload hB 7 dX9_worth_76 rfl ?_
          refine zr_aload_n hB 1 dX9_worth_78 rfl ?_
          refine zr_getr hG 0 4 dX9_worth_79 rfl wf_X9_17 rfl ?_
          refine zr_iload hB 8 dX9_worth_82 rfl ?_
          refine zr_zald hG 3 dX9_worth_84 rfl (by omega) (by omega) (fun x27 ex27 => ?_)
          have bx27 : 0 ≤ x27.toInt ∧ x27.toInt ≤ 1 := by rw [ex27]; exact ⟨(hO9 3 _).1, (hO9 3 _).2.1⟩
          refine zr_if_eq hB dX9_worth_85 (tgt := 98) rfl (fun c28 => ?_) (fun c28 => ?_)
          · refine zr_iconst hB dX9_worth_98 rfl (fun c29 ec29 => ?_)
            have v31 := And.intro (zn_lo y7_16) (zn_hi y7_16)
            refine zr_iadd hB dX9_worth_99 (by omega) (by omega) (fun x30 ex30 => ?_)
            refine zr_istore hB dX9_worth_100 (by decide) (lv' := [(7, .int x30), (6, .int x25), (0, .ref (zk K 0)), (1, .int p1), (2, .int p2), (3, .int p3), (4, .int p4), (5, .int p5), (8, .int y8_17)]) rfl ?_
            refine zr_iinc hB 8 dX9_worth_102 rfl (by decide) rfl (by omega) (by omega) (fun x32 ex32 lv' hlv => ?_)
            obtain rfl : [(8, .int x32), (7, .int x30), (6, .int x25), (0, .ref (zk K 0)), (1, .int p1), (2, .int p2), (3, .int p3), (4, .int p4), (5, .int p5)] = lv' := hlv
            refine zr_goto hB dX9_worth_105 (tgt := 39) rfl ?_
            exact zc_sub [3, 4, 5, 6, 7, 8, 2, 1, 0] rfl (ih39 x25 x30 x32 (by omega) (by omega) (by omega))
          refine zr_aload_n hB 1 dX9_worth_88 rfl ?_
          refine zr_getr hG 0 25 dX9_worth_89 rfl wf_X9_50 rfl ?_
          refine zr_iload hB 8 dX9_worth_92 rfl ?_
          refine zr_iald hG 14 dX9_worth_94 rfl (by omega) (by omega) (fun x33 ex33 => ?_)
          have bx33 : (-999) ≤ x33.toInt ∧ x33.toInt ≤ 999 := by rw [ex33]; exact ⟨(hO9 14 _).1, (hO9 14 _).2.1⟩
          refine zr_goto hB dX9_worth_95 (tgt := 99) rfl ?_
          refine zr_iaddw hB dX9_worth_99 (fun x34 ex34 => ?_)
          refine zr_istore hB dX9_worth_100 (by decide) (lv' := [(7, .int x34), (6, .int x25), (0, .ref (zk K 0)), (1, .int p1), (2, .int p2), (3, .int p3), (4, .int p4), (5, .int p5), (8, .int y8_17)]) rfl ?_
          refine zr_iinc hB 8 dX9_worth_102 rfl (by decide) rfl (by omega) (by omega) (fun x35 ex35 lv' hlv => ?_)
          obtain rfl : [(8, .int x35), (7, .int x34), (6, .int x25), (0, .ref (zk K 0)), (1, .int p1), (2, .int p2), (3, .int p3), (4, .int p4), (5, .int p5)] = lv' := hlv
          refine zr_goto hB dX9_worth_105 (tgt := 39) rfl ?_
          exact zc_sub [3, 4, 5, 6, 7, 8, 2, 1, 0] rfl (ih39 x25 x34 x35 (by omega) (by omega) (by omega))
        refine zr_aload_n hB 0 dX9_worth_58 rfl ?_
        refine zr_getr hG 0 4 dX9_worth_59 rfl wf_X9_17 rfl ?_
        refine zr_iload hB 8 dX9_worth_62 rfl ?_
        refine zr_zald hG 3 dX9_worth_64 rfl (by omega) (by omega) (fun x36 ex36 => ?_)
        have bx36 : 0 ≤ x36.toInt ∧ x36.toInt ≤ 1 := by rw [ex36]; exact ⟨(hO9 3 _).1, (hO9 3 _).2.1⟩
        refine zr_if_eq hB dX9_worth_65 (tgt := 72) rfl (fun c37 => ?_) (fun c37 => ?_)
        · refine zr_iconst hB dX9_worth_72 rfl (fun c38 ec38 => ?_)
          have v40 := And.intro (zn_lo y6_15) (zn_hi y6_15)
          refine zr_iadd hB dX9_worth_73 (by omega) (by omega) (fun x39 ex39 => ?_)
          refine zr_istore hB dX9_worth_74 (by decide) (lv' := [(6, .int x39), (0, .ref (zk K 0)), (1, .int p1), (2, .int p2), (3, .int p3), (4, .int p4), (5, .int p5), (7, .int y7_16), (8, .int y8_17)]) rfl ?_
          refine zr_iload hB 7 dX9_worth_76 rfl ?_
          refine zr_aload_n hB 1 dX9_worth_78 rfl ?_
          refine zr_getr hG 0 4 dX9_worth_79 rfl wf_X9_17 rfl ?_
          refine zr_iload hB 8 dX9_worth_82 rfl ?_
          refine zr_zald hG 3 dX9_worth_84 rfl (by omega) (by omega) (fun x41 ex41 => ?_)
          obtain rfl : x36 = x41 := ex36.trans ex41.symm
          refine zr_if_eq hB dX9_worth_85 (tgt := 98) rfl (fun c42 => ?_) (fun c42 => ?_)
          · refine zr_iconst hB dX9_worth_98 rfl (fun c43 ec43 => ?_)
            have v45 := And.intro (zn_lo y7_16) (zn_hi y7_16)
            refine zr_iadd hB dX9_worth_99 (by omega) (by omega) (fun x44 ex44 => ?_)
            refine zr_istore hB dX9_worth_100 (by decide) (lv' := [(7, .int x44), (6, .int x39), (0, .ref (zk K 0)), (1, .int p1), (2, .int p2), (3, .int p3), (4, .int p4), (5, .int p5), (8, .int y8_17)]) rfl ?_
            refine zr_iinc hB 8 dX9_worth_102 rfl (by decide) rfl (by omega) (by omega) (fun x46 ex46 lv' hlv => ?_)
            obtain rfl : [(8, .int x46), (7, .int x44), (6, .int x39), (0, .ref (zk K 0)), (1, .int p1), (2, .int p2), (3, .int p3), (4, .int p4), (5, .int p5)] = lv' := hlv
            refine zr_goto hB dX9_worth_105 (tgt := 39) rfl ?_
            exact zc_sub [3, 4, 5, 6, 7, 8, 2, 1, 0] rfl (ih39 x39 x44 x46 (by omega) (by omega) (by omega))
          exfalso; omega
        refine zr_iconst hB dX9_worth_68 rfl (fun c47 ec47 => ?_)
        refine zr_goto hB dX9_worth_69 (tgt := 73) rfl ?_
        refine zr_iaddw hB dX9_worth_73 (fun x48 ex48 => ?_)
        refine zr_istore hB dX9_worth_74 (by decide) (lv' := [(6, .int x48), (0, .ref (zk K 0)), (1, .int p1), (2, .int p2), (3, .int p3), (4, .int p4), (5, .int p5), (7, .int y7_16), (8, .int y8_17)]) rfl ?_
        refine zr_iload hB 7 dX9_worth_76 rfl ?_
        refine zr_aload_n hB 1 dX9_worth_78 rfl ?_
        refine zr_getr hG 0 4 dX9_worth_79 rfl wf_X9_17 rfl ?_
        refine zr_iload hB 8 dX9_worth_82 rfl ?_
        refine zr_zald hG 3 dX9_worth_84 rfl (by omega) (by omega) (fun x49 ex49 => ?_)
        obtain rfl : x36 = x49 := ex36.trans ex49.symm
        refine zr_if_eq hB dX9_worth_85 (tgt := 98) rfl (fun c50 => ?_) (fun c50 => ?_)
        · exfalso; omega
        refine zr_aload_n hB 1 dX9_worth_88 rfl ?_
        refine zr_getr hG 0 25 dX9_worth_89 rfl wf_X9_50 rfl ?_
        refine zr_iload hB 8 dX9_worth_92 rfl ?_
        refine zr_iald hG 14 dX9_worth_94 rfl (by omega) (by omega) (fun x51 ex51 => ?_)
        have bx51 : (-999) ≤ x51.toInt ∧ x51.toInt ≤ 999 := by rw [ex51]; exact ⟨(hO9 14 _).1, (hO9 14 _).2.1⟩
        refine zr_goto hB dX9_worth_95 (tgt := 99) rfl ?_
        refine zr_iaddw hB dX9_worth_99 (fun x52 ex52 => ?_)
        refine zr_istore hB dX9_worth_100 (by decide) (lv' := [(7, .int x52), (6, .int x48), (0, .ref (zk K 0)), (1, .int p1), (2, .int p2), (3, .int p3), (4, .int p4), (5, .int p5), (8, .int y8_17)]) rfl ?_
        refine zr_iinc hB 8 dX9_worth_102 rfl (by decide) rfl (by omega) (by omega) (fun x53 ex53 lv' hlv => ?_)
        obtain rfl : [(8, .int x53), (7, .int x52), (6, .int x48), (0, .ref (zk K 0)), (1, .int p1), (2, .int p2), (3, .int p3), (4, .int p4), (5, .int p5)] = lv' := hlv
        refine zr_goto hB dX9_worth_105 (tgt := 39) rfl ?_
        exact zc_sub [3, 4, 5, 6, 7, 8, 2, 1, 0] rfl (ih39 x48 x52 x53 (by omega) (by omega) (by omega))
    exact zc_sub [3, 4, 5, 6, 7, 8, 2, 1, 0] rfl (L39_18 66 c13 c14 p4 (by omega) (by omega) (by omega))
  have q54 := r1q.f c4
  refine zr_ldcw hB dX9_worth_14 wc_X9_265 (n := (-100000)) rfl (fun c55 ec55 => ?_)
  exact zr_iret hG dX9_worth_17 ⟨hO0, hA0⟩

def m_M_dealt : zc_ms := [(14, none), (15, none), (16, none)]
set_option maxHeartbeats 1000000 in
set_option maxRecDepth 100000 in
theorem c_M_dealt (K : zc_K) (hi : zc_inj shM K.2.2.2.1) (σ0 : zc_S) (p1 : Int32) (p2 : Int32) (p3 : Int32) (p4 : Int32) (p5 : Int32) (p6 : Int32) (hO0 : zc_O okM σ0) (hT : zm_T σ0) : zc_M shM K yX9_dealt cX9_dealt 16 (some .int) (zrm 9 234) σ0 [.ref (zk K 0), .int p1, .int p2, .int p3, .int p4, .int p5, .int p6] (zc_I (fun r9 σ9 => zc_O okM σ9 ∧ zc_Ag m_M_dealt σ0 σ9)) := by
  refine zc_start RX9 hi pfX9_dealt rfl (Nat.le_of_ble_eq_true rfl) ?_
  intro G hG
  have hB := hG.1
  have hA0 : zc_Ag m_M_dealt σ0 σ0 := zc_Ag.rf
  show zc_V 16 K G (zc_D shM K G σ0) [(0, .ref (zk K 0)), (1, .int p1), (2, .int p2), (3, .int p3), (4, .int p4), (5, .int p5), (6, .int p6)] 0 []
  have bw0_17 : 0 ≤ (σ0.1 0 17).toInt ∧ (σ0.1 0 17).toInt ≤ 6 := ⟨(hO0 0 17).1, (hO0 0 17).2.1⟩
  refine zr_aload_n hB 0 dX9_dealt_0 rfl ?_
  refine zr_iload_n hB 1 dX9_dealt_1 rfl ?_
  refine zr_iload_n hB 2 dX9_dealt_2 rfl ?_
  refine zr_iload_n hB 3 dX9_dealt_3 rfl ?_
  refine zr_iload hB 4 dX9_dealt_4 rfl ?_
  refine zr_iload hB 5 dX9_dealt_6 rfl ?_
  refine zr_callvi hG (rest := []) 0 dX9_dealt_8 wm_X9_232 rfl rfl (c_M_isAsked K hG.2.2.2.2.2.1 σ0 p1 p2 p3 p4 p5 hO0 ) rfl rfl (Nat.le_of_ble_eq_true rfl) ⟨Nat.le_of_ble_eq_true rfl, Nat.le_of_ble_eq_true rfl, rfl, rfl⟩ (fun r1 σ2 h3 => ?_)
  obtain ⟨rfl, r1q⟩ := h3
  have r1z := r1q.b
  refine zr_if_eq hB dX9_dealt_11 (tgt := 27) rfl (fun c4 => ?_) (fun c4 => ?_)
  · have q5 := r1q.f c4
    refine zr_iconst hB dX9_dealt_27 rfl (fun c6 ec6 => ?_)
    exact zr_iret hG dX9_dealt_28 ⟨hO0, hA0⟩
  have q7 := r1q.t c4
  refine zr_iload hB 6 dX9_dealt_14 rfl ?_
  have v9 := And.intro (zn_lo p6) (zn_hi p6)
  refine zr_i2l hB dX9_dealt_16 (fun l8 el8 => ?_)
  refine zr_lconst hB dX9_dealt_17 (m := 0) rfl (fun c10 ec10 => ?_)
  refine zr_ldc2 hB dX9_dealt_18 wc_X9_89 (n := 3) rfl (fun c11 ec11 => ?_)
  refine zr_callsi hG (rest := []) dX9_dealt_21 wm_X9_91 (c_M_in K hG.2.2.2.2.2.1 σ0 l8 c10 c11 hO0 ) rfl rfl (Nat.le_of_ble_eq_true rfl) ⟨Nat.le_of_ble_eq_true rfl, Nat.le_of_ble_eq_true rfl, rfl, rfl⟩ (fun r12 σ13 h14 => ?_)
  obtain ⟨rfl, r12q⟩ := h14
  have r12z := r12q.b
  refine zr_if_ne hB dX9_dealt_24 (tgt := 29) rfl (fun c15 => ?_) (fun c15 => ?_)
  · have q16 := r12q.t c15
    refine zr_aload_n hB 0 dX9_dealt_29 rfl ?_
    refine zr_iload_n hB 1 dX9_dealt_30 rfl ?_
    refine zr_iload_n hB 2 dX9_dealt_31 rfl ?_
    refine zr_iload_n hB 3 dX9_dealt_32 rfl ?_
    refine zr_iload hB 4 dX9_dealt_33 rfl ?_
    refine zr_iload hB 5 dX9_dealt_35 rfl ?_
    refine zr_callvn hG (rest := []) 0 dX9_dealt_37 wm_X9_236 rfl rfl (c_M_layMisses K hG.2.2.2.2.2.1 σ0 p1 p2 p3 p4 p5 hO0 (by omega) (by omega) (by omega) (by omega) (by omega) (by omega) (by omega) (by omega) (by omega) (by omega) (by omega) hT) rfl rfl (Nat.le_of_ble_eq_true rfl) ⟨Nat.le_of_ble_eq_true rfl, Nat.le_of_ble_eq_true rfl, rfl, rfl⟩ (fun σ18 h19 => ?_)
    obtain ⟨hO20, hAc21⟩ := h19
    have hA22 := zc_Ag.tr hA0 hAc21 rfl
    have q23 : (σ18.1 0 17).toInt = (σ0.1 0 17).toInt := congrArg Int32.toInt (hAc21 0 17 rfl).1
    refine zr_iconst hB dX9_dealt_40 rfl (fun c24 ec24 => ?_)
    refine zr_istore hB dX9_dealt_41 (by decide) (lv' := [(7, .int c24), (0, .ref (zk K 0)), (1, .int p1), (2, .int p2), (3, .int p3), (4, .int p4), (5, .int p5), (6, .int p6)]) rfl ?_
    refine zr_iconst hB dX9_dealt_43 rfl (fun c25 ec25 => ?_)
    refine zr_istore hB dX9_dealt_44 (by decide) (lv' := [(8, .int c25), (7, .int c24), (0, .ref (zk K 0)), (1, .int p1), (2, .int p2), (3, .int p3), (4, .int p4), (5, .int p5), (6, .int p6)]) rfl ?_
    refine zr_iconst hB dX9_dealt_46 rfl (fun c26 ec26 => ?_)
    refine zr_istore hB dX9_dealt_47 (by decide) (lv' := [(9, .int c26), (8, .int c25), (7, .int c24), (0, .ref (zk K 0)), (1, .int p1), (2, .int p2), (3, .int p3), (4, .int p4), (5, .int p5), (6, .int p6)]) rfl ?_
    refine zr_iload hB 7 dX9_dealt_49 rfl ?_
    refine zr_istore hB dX9_dealt_51 (by decide) (lv' := [(10, .int p4), (9, .int c26), (8, .int c25), (7, .int c24), (0, .ref (zk K 0)), (1, .int p1), (2, .int p2), (3, .int p3), (4, .int p4), (5, .int p5), (6, .int p6)]) rfl ?_
    have L53_33 : ∀ (n53 : Nat) (σ31 : zc_S) (y7_27 : Int32) (y8_28 : Int32) (y9_29 : Int32) (y10_30 : Int32), zc_O okM σ31 → zc_Ag m_M_dealt σ0 σ31 → 0 ≤ y7_27.toInt → y7_27.toInt ≤ 64 → 0 ≤ y10_30.toInt → y10_30.toInt ≤ 64 → y7_27.toInt + p4.toInt ≤ y10_30.toInt → 64 - y10_30.toInt < (n53 : Int) → zc_V 16 K G (zc_D shM K G σ31) [(0, .ref (zk K 0)), (1, .int p1), (2, .int p2), (3, .int p3), (4, .int p4), (5, .int p5), (6, .int p6), (7, .int y7_27), (8, .int y8_28), (9, .int y9_29), (10, .int y10_30)] 53 [] := by
      intro n53
      induction n53 with
      | zero => intro σ31 y7_27 y8_28 y9_29 y10_30 hO31 hA31 y7_27a y7_27b y10_30a y10_30b e32 hn53; have vy8_28 := And.intro (zn_lo y8_28) (zn_hi y8_28); have vy9_29 := And.intro (zn_lo y9_29) (zn_hi y9_29); exfalso; omega
      | succ n53 ih53 =>
        intro σ31 y7_27 y8_28 y9_29 y10_30 hO31 hA31 y7_27a y7_27b y10_30a y10_30b e32 hn53
        have vy8_28 := And.intro (zn_lo y8_28) (zn_hi y8_28)
        have vy9_29 := And.intro (zn_lo y9_29) (zn_hi y9_29)
        refine zr_iload hB 10 dX9_dealt_53 rfl ?_
        refine zr_iload hB 5 dX9_dealt_55 rfl ?_
        refine zr_icmp_gt hB dX9_dealt_57 (tgt := 139) rfl (fun c34 => ?_) (fun c34 => ?_)
        · refine zr_iload hB 7 dX9_dealt_139 rfl ?_
          refine zr_bipush hB dX9_dealt_141 rfl (fun c35 ec35 => ?_)
          refine zr_icmp_le hB dX9_dealt_143 (tgt := 149) rfl (fun c36 => ?_) (fun c36 => ?_)
          · refine zr_iload hB 6 dX9_dealt_149 rfl ?_
            refine zr_iconst hB dX9_dealt_151 rfl (fun c37 ec37 => ?_)
            refine zr_icmp_le hB dX9_dealt_152 (tgt := 169) rfl (fun c38 => ?_) (fun c38 => ?_)
            · refine zr_iload hB 6 dX9_dealt_169 rfl ?_
              have L182_39 : zc_V 16 K G (zc_D shM K G σ31) [(0, .ref (zk K 0)), (1, .int p1), (2, .int p2), (3, .int p3), (4, .int p4), (5, .int p5), (6, .int p6), (7, .int y7_27), (8, .int y8_28), (9, .int y9_29), (10, .int y10_30)] 182 [] := by
                refine zr_iconst hB dX9_dealt_182 rfl (fun c40 ec40 => ?_)
                refine zr_istore hB dX9_dealt_183 (by decide) (lv' := [(10, .int c40), (0, .ref (zk K 0)), (1, .int p1), (2, .int p2), (3, .int p3), (4, .int p4), (5, .int p5), (6, .int p6), (7, .int y7_27), (8, .int y8_28), (9, .int y9_29)]) rfl ?_
                refine zr_iconst hB dX9_dealt_185 rfl (fun c41 ec41 => ?_)
                refine zr_istore hB dX9_dealt_186 (by decide) (lv' := [(11, .int c41), (10, .int c40), (0, .ref (zk K 0)), (1, .int p1), (2, .int p2), (3, .int p3), (4, .int p4), (5, .int p5), (6, .int p6), (7, .int y7_27), (8, .int y8_28), (9, .int y9_29)]) rfl ?_
                refine zr_iconst hB dX9_dealt_188 rfl (fun c42 ec42 => ?_)
                refine zr_istore hB dX9_dealt_189 (by decide) (lv' := [(12, .int c42), (11, .int c41), (10, .int c40), (0, .ref (zk K 0)), (1, .int p1), (2, .int p2), (3, .int p3), (4, .int p4), (5, .int p5), (6, .int p6), (7, .int y7_27), (8, .int y8_28), (9, .int y9_29)]) rfl ?_
                have L191_46 : ∀ (n191 : Nat) (y10_43 : Int32) (y11_44 : Int32) (y12_45 : Int32), 0 ≤ y12_45.toInt → 2147483647 - y12_45.toInt < (n191 : Int) → zc_V 16 K G (zc_D shM K G σ31) [(0, .ref (zk K 0)), (1, .int p1), (2, .int p2), (3, .int p3), (4, .int p4), (5, .int p5), (6, .int p6), (7, .int y7_27), (8, .int y8_28), (9, .int y9_29), (10, .int y10_43), (11, .int y11_44), (12, .int y12_45)] 191 [] := by
                  intro n191
                  induction n191 with
                  | zero => intro y10_43 y11_44 y12_45 y12_45a hn191; have vy10_43 := And.intro (zn_lo y10_43) (zn_hi y10_43); have vy11_44 := And.intro (zn_lo y11_44) (zn_hi y11_44); have vy12_45 := And.intro (zn_lo y12_45) (zn_hi y12_45); exfalso; omega
                  | succ n191 ih191 =>
                    intro y10_43 y11_44 y12_45 y12_45a hn191
                    have vy10_43 := And.intro (zn_lo y10_43) (zn_hi y10_43)
                    have vy11_44 := And.intro (zn_lo y11_44) (zn_hi y11_44)
                    have vy12_45 := And.intro (zn_lo y12_45) (zn_hi y12_45)
                    refine zr_iload hB 12 dX9_dealt_191 rfl ?_
                    refine zr_iconst hB dX9_dealt_193 rfl (fun c47 ec47 => ?_)
                    refine zr_iload hB 7 dX9_dealt_194 rfl ?_
                    refine zr_ishl hB dX9_dealt_196 (fun x48 ex48 => ?_)
                    have bx48 := zn_shl1 ex48 ec47 (n := 16) (by omega) (by omega) (by decide)
                    refine zr_icmp_ge hB dX9_dealt_197 (tgt := 301) rfl (fun c49 => ?_) (fun c49 => ?_)
                    · refine zr_iload hB 6 dX9_dealt_301 rfl ?_
                      refine zr_if_ne hB dX9_dealt_303 (tgt := 311) rfl (fun c50 => ?_) (fun c50 => ?_)
                      · refine zr_iload hB 11 dX9_dealt_311 rfl ?_
                        exact zr_iret hG dX9_dealt_313 ⟨hO31, hA31⟩
                      refine zr_iload hB 10 dX9_dealt_306 rfl ?_
                      refine zr_goto hB dX9_dealt_308 (tgt := 313) rfl ?_
                      exact zr_iret hG dX9_dealt_313 ⟨hO31, hA31⟩
                    refine zr_iconst hB dX9_dealt_200 rfl (fun c51 ec51 => ?_)
                    refine zr_istore hB dX9_dealt_201 (by decide) (lv' := [(13, .int c51), (0, .ref (zk K 0)), (1, .int p1), (2, .int p2), (3, .int p3), (4, .int p4), (5, .int p5), (6, .int p6), (7, .int y7_27), (8, .int y8_28), (9, .int y9_29), (10, .int y10_43), (11, .int y11_44), (12, .int y12_45)]) rfl ?_
                    refine zr_iconst hB dX9_dealt_203 rfl (fun c52 ec52 => ?_)
                    refine zr_istore hB dX9_dealt_204 (by decide) (lv' := [(14, .int c52), (13, .int c51), (0, .ref (zk K 0)), (1, .int p1), (2, .int p2), (3, .int p3), (4, .int p4), (5, .int p5), (6, .int p6), (7, .int y7_27), (8, .int y8_28), (9, .int y9_29), (10, .int y10_43), (11, .int y11_44), (12, .int y12_45)]) rfl ?_
                    refine zr_iconst hB dX9_dealt_206 rfl (fun c53 ec53 => ?_)
                    refine zr_istore hB dX9_dealt_207 (by decide) (lv' := [(15, .int c53), (14, .int c52), (13, .int c51), (0, .ref (zk K 0)), (1, .int p1), (2, .int p2), (3, .int p3), (4, .int p4), (5, .int p5), (6, .int p6), (7, .int y7_27), (8, .int y8_28), (9, .int y9_29), (10, .int y10_43), (11, .int y11_44), (12, .int y12_45)]) rfl ?_
                    have L209_57 : ∀ (n209 : Nat) (y13_54 : Int32) (y14_55 : Int32) (y15_56 : Int32), 0 ≤ y15_56.toInt → y15_56.toInt ≤ 16 → 16 - y15_56.toInt < (n209 : Int) → zc_V 16 K G (zc_D shM K G σ31) [(0, .ref (zk K 0)), (1, .int p1), (2, .int p2), (3, .int p3), (4, .int p4), (5, .int p5), (6, .int p6), (7, .int y7_27), (8, .int y8_28), (9, .int y9_29), (10, .int y10_43), (11, .int y11_44), (12, .int y12_45), (13, .int y13_54), (14, .int y14_55), (15, .int y15_56)] 209 [] := by
                      intro n209
                      induction n209 with
                      | zero => intro y13_54 y14_55 y15_56 y15_56a y15_56b hn209; have vy13_54 := And.intro (zn_lo y13_54) (zn_hi y13_54); have vy14_55 := And.intro (zn_lo y14_55) (zn_hi y14_55); exfalso; omega
                      | succ n209 ih209 =>
                        intro y13_54 y14_55 y15_56 y15_56a y15_56b hn209
                        have vy13_54 := And.intro (zn_lo y13_54) (zn_hi y13_54)
                        have vy14_55 := And.intro (zn_lo y14_55) (zn_hi y14_55)
                        refine zr_iload hB 15 dX9_dealt_209 rfl ?_
                        refine zr_iload hB 7 dX9_dealt_211 rfl ?_
                        refine zr_icmp_ge hB dX9_dealt_213 (tgt := 254) rfl (fun c58 => ?_) (fun c58 => ?_)
                        · refine zr_iload hB 11 dX9_dealt_254 rfl ?_
                          refine zr_iload hB 13 dX9_dealt_256 rfl ?_
                          refine zr_iload hB 8 dX9_dealt_258 rfl ?_
                          refine zr_icmp_ne hB dX9_dealt_260 (tgt := 267) rfl (fun c59 => ?_) (fun c59 => ?_)
                          · refine zr_iconst hB dX9_dealt_267 rfl (fun c60 ec60 => ?_)
                            have v62 := And.intro (zn_lo y11_44) (zn_hi y11_44)
                            refine zr_iadd hB dX9_dealt_268 (by omega) (by omega) (fun x61 ex61 => ?_)
                            refine zr_istore hB dX9_dealt_269 (by decide) (lv' := [(11, .int x61), (0, .ref (zk K 0)), (1, .int p1), (2, .int p2), (3, .int p3), (4, .int p4), (5, .int p5), (6, .int p6), (7, .int y7_27), (8, .int y8_28), (9, .int y9_29), (10, .int y10_43), (12, .int y12_45), (13, .int y13_54), (14, .int y14_55), (15, .int y15_56)]) rfl ?_
                            refine zr_iload hB 11 dX9_dealt_271 rfl ?_
                            refine zr_iload hB 13 dX9_dealt_273 rfl ?_
                            refine zr_iload hB 9 dX9_dealt_275 rfl ?_
                            refine zr_icmp_ne hB dX9_dealt_277 (tgt := 291) rfl (fun c63 => ?_) (fun c63 => ?_)
                            · refine zr_iconst hB dX9_dealt_291 rfl (fun c64 ec64 => ?_)
                              have v66 := And.intro (zn_lo y10_43) (zn_hi y10_43)
                              refine zr_iadd hB dX9_dealt_292 (by omega) (by omega) (fun x65 ex65 => ?_)
                              refine zr_istore hB dX9_dealt_293 (by decide) (lv' := [(10, .int x65), (11, .int x61), (0, .ref (zk K 0)), (1, .int p1), (2, .int p2), (3, .int p3), (4, .int p4), (5, .int p5), (6, .int p6), (7, .int y7_27), (8, .int y8_28), (9, .int y9_29), (12, .int y12_45), (13, .int y13_54), (14, .int y14_55), (15, .int y15_56)]) rfl ?_
                              refine zr_iinc hB 12 dX9_dealt_295 rfl (by decide) rfl (by omega) (by omega) (fun x67 ex67 lv' hlv => ?_)
                              obtain rfl : [(12, .int x67), (10, .int x65), (11, .int x61), (0, .ref (zk K 0)), (1, .int p1), (2, .int p2), (3, .int p3), (4, .int p4), (5, .int p5), (6, .int p6), (7, .int y7_27), (8, .int y8_28), (9, .int y9_29), (13, .int y13_54), (14, .int y14_55), (15, .int y15_56)] = lv' := hlv
                              refine zr_goto hB dX9_dealt_298 (tgt := 191) rfl ?_
                              exact zc_sub [3, 4, 5, 6, 7, 8, 9, 10, 11, 12, 1, 2, 0] rfl (ih191 x65 x61 x67 (by omega) (by omega))
                            refine zr_iload hB 14 dX9_dealt_280 rfl ?_
                            refine zr_iload hB 10 dX9_dealt_282 rfl ?_
                            refine zr_icmp_lt hB dX9_dealt_284 (tgt := 291) rfl (fun c68 => ?_) (fun c68 => ?_)
                            · refine zr_iconst hB dX9_dealt_291 rfl (fun c69 ec69 => ?_)
                              have v71 := And.intro (zn_lo y10_43) (zn_hi y10_43)
                              refine zr_iadd hB dX9_dealt_292 (by omega) (by omega) (fun x70 ex70 => ?_)
                              refine zr_istore hB dX9_dealt_293 (by decide) (lv' := [(10, .int x70), (11, .int x61), (0, .ref (zk K 0)), (1, .int p1), (2, .int p2), (3, .int p3), (4, .int p4), (5, .int p5), (6, .int p6), (7, .int y7_27), (8, .int y8_28), (9, .int y9_29), (12, .int y12_45), (13, .int y13_54), (14, .int y14_55), (15, .int y15_56)]) rfl ?_
                              refine zr_iinc hB 12 dX9_dealt_295 rfl (by decide) rfl (by omega) (by omega) (fun x72 ex72 lv' hlv => ?_)
                              obtain rfl : [(12, .int x72), (10, .int x70), (11, .int x61), (0, .ref (zk K 0)), (1, .int p1), (2, .int p2), (3, .int p3), (4, .int p4), (5, .int p5), (6, .int p6), (7, .int y7_27), (8, .int y8_28), (9, .int y9_29), (13, .int y13_54), (14, .int y14_55), (15, .int y15_56)] = lv' := hlv
                              refine zr_goto hB dX9_dealt_298 (tgt := 191) rfl ?_
                              exact zc_sub [3, 4, 5, 6, 7, 8, 9, 10, 11, 12, 1, 2, 0] rfl (ih191 x70 x61 x72 (by omega) (by omega))
                            refine zr_iconst hB dX9_dealt_287 rfl (fun c73 ec73 => ?_)
                            refine zr_goto hB dX9_dealt_288 (tgt := 292) rfl ?_
                            refine zr_iaddw hB dX9_dealt_292 (fun x74 ex74 => ?_)
                            refine zr_istore hB dX9_dealt_293 (by decide) (lv' := [(10, .int x74), (11, .int x61), (0, .ref (zk K 0)), (1, .int p1), (2, .int p2), (3, .int p3), (4, .int p4), (5, .int p5), (6, .int p6), (7, .int y7_27), (8, .int y8_28), (9, .int y9_29), (12, .int y12_45), (13, .int y13_54), (14, .int y14_55), (15, .int y15_56)]) rfl ?_
                            refine zr_iinc hB 12 dX9_dealt_295 rfl (by decide) rfl (by omega) (by omega) (fun x75 ex75 lv' hlv => ?_)
                            obtain rfl : [(12, .int x75), (10, .int x74), (11, .int x61), (0, .ref (zk K 0)), (1, .int p1), (2, .int p2), (3, .int p3), (4, .int p4), (5, .int p5), (6, .int p6), (7, .int y7_27), (8, .int y8_28), (9, .int y9_29), (13, .int y13_54), (14, .int y14_55), (15, .int y15_56)] = lv' := hlv
                            refine zr_goto hB dX9_dealt_298 (tgt := 191) rfl ?_
                            exact zc_sub [3, 4, 5, 6, 7, 8, 9, 10, 11, 12, 1, 2, 0] rfl (ih191 x74 x61 x75 (by omega) (by omega))
                          refine zr_iconst hB dX9_dealt_263 rfl (fun c76 ec76 => ?_)
                          refine zr_goto hB dX9_dealt_264 (tgt := 268) rfl ?_
                          refine zr_iaddw hB dX9_dealt_268 (fun x77 ex77 => ?_)
                          refine zr_istore hB dX9_dealt_269 (by decide) (lv' := [(11, .int x77), (0, .ref (zk K 0)), (1, .int p1), (2, .int p2), (3, .int p3), (4, .int p4), (5, .int p5), (6, .int p6), (7, .int y7_27), (8, .int y8_28), (9, .int y9_29), (10, .int y10_43), (12, .int y12_45), (13, .int y13_54), (14, .int y14_55), (15, .int y15_56)]) rfl ?_
                          refine zr_iload hB 11 dX9_dealt_271 rfl ?_
                          refine zr_iload hB 13 dX9_dealt_273 rfl ?_
                          refine zr_iload hB 9 dX9_dealt_275 rfl ?_
                          refine zr_icmp_ne hB dX9_dealt_277 (tgt := 291) rfl (fun c78 => ?_) (fun c78 => ?_)
                          · refine zr_iconst hB dX9_dealt_291 rfl (fun c79 ec79 => ?_)
                            have v81 := And.intro (zn_lo y10_43) (zn_hi y10_43)
                            refine zr_iadd hB dX9_dealt_292 (by omega) (by omega) (fun x80 ex80 => ?_)
                            refine zr_istore hB dX9_dealt_293 (by decide) (lv' := [(10, .int x80), (11, .int x77), (0, .ref (zk K 0)), (1, .int p1), (2, .int p2), (3, .int p3), (4, .int p4), (5, .int p5), (6, .int p6), (7, .int y7_27), (8, .int y8_28), (9, .int y9_29), (12, .int y12_45), (13, .int y13_54), (14, .int y14_55), (15, .int y15_56)]) rfl ?_
                            refine zr_iinc hB 12 dX9_dealt_295 rfl (by decide) rfl (by omega) (by omega) (fun x82 ex82 lv' hlv => ?_)
                            obtain rfl : [(12, .int x82), (10, .int x80), (11, .int x77), (0, .ref (zk K 0)), (1, .int p1), (2, .int p2), (3, .int p3), (4, .int p4), (5, .int p5), (6, .int p6), (7, .int y7_27), (8, .int y8_28), (9, .int y9_29), (13, .int y13_54), (14, .int y14_55), (15, .int y15_56)] = lv' := hlv
                            refine zr_goto hB dX9_dealt_298 (tgt := 191) rfl ?_
                            exact zc_sub [3, 4, 5, 6, 7, 8, 9, 10, 11, 12, 1, 2, 0] rfl (ih191 x80 x77 x82 (by omega) (by omega))
                          refine zr_iload hB 14 dX9_dealt_280 rfl ?_
                          refine zr_iload hB 10 dX9_dealt_282 rfl ?_
                          refine zr_icmp_lt hB dX9_dealt_284 (tgt := 291) rfl (fun c83 => ?_) (fun c83 => ?_)
                          · refine zr_iconst hB dX9_dealt_291 rfl (fun c84 ec84 => ?_)
                            have v86 := And.intro (zn_lo y10_43) (zn_hi y10_43)
                            refine zr_iadd hB dX9_dealt_292 (by omega) (by omega) (fun x85 ex85 => ?_)
                            refine zr_istore hB dX9_dealt_293 (by decide) (lv' := [(10, .int x85), (11, .int x77), (0, .ref (zk K 0)), (1, .int p1), (2, .int p2), (3, .int p3), (4, .int p4), (5, .int p5), (6, .int p6), (7, .int y7_27), (8, .int y8_28), (9, .int y9_29), (12, .int y12_45), (13, .int y13_54), (14, .int y14_55), (15, .int y15_56)]) rfl ?_
                            refine zr_iinc hB 12 dX9_dealt_295 rfl (by decide) rfl (by omega) (by omega) (fun x87 ex87 lv' hlv => ?_)
                            obtain rfl : [(12, .int x87), (10, .int x85), (11, .int x77), (0, .ref (zk K 0)), (1, .int p1), (2, .int p2), (3, .int p3), (4, .int p4), (5, .int p5), (6, .int p6), (7, .int y7_27), (8, .int y8_28), (9, .int y9_29), (13, .int y13_54), (14, .int y14_55), (15, .int y15_56)] = lv' := hlv
                            refine zr_goto hB dX9_dealt_298 (tgt := 191) rfl ?_
                            exact zc_sub [3, 4, 5, 6, 7, 8, 9, 10, 11, 12, 1, 2, 0] rfl (ih191 x85 x77 x87 (by omega) (by omega))
                          refine zr_iconst hB dX9_dealt_287 rfl (fun c88 ec88 => ?_)
                          refine zr_goto hB dX9_dealt_288 (tgt := 292) rfl ?_
                          refine zr_iaddw hB dX9_dealt_292 (fun x89 ex89 => ?_)
                          refine zr_istore hB dX9_dealt_293 (by decide) (lv' := [(10, .int x89), (11, .int x77), (0, .ref (zk K 0)), (1, .int p1), (2, .int p2), (3, .int p3), (4, .int p4), (5, .int p5), (6, .int p6), (7, .int y7_27), (8, .int y8_28), (9, .int y9_29), (12, .int y12_45), (13, .int y13_54), (14, .int y14_55), (15, .int y15_56)]) rfl ?_
                          refine zr_iinc hB 12 dX9_dealt_295 rfl (by decide) rfl (by omega) (by omega) (fun x90 ex90 lv' hlv => ?_)
                          obtain rfl : [(12, .int x90), (10, .int x89), (11, .int x77), (0, .ref (zk K 0)), (1, .int p1), (2, .int p2), (3, .int p3), (4, .int p4), (5, .int p5), (6, .int p6), (7, .int y7_27), (8, .int y8_28), (9, .int y9_29), (13, .int y13_54), (14, .int y14_55), (15, .int y15_56)] = lv' := hlv
                          refine zr_goto hB dX9_dealt_298 (tgt := 191) rfl ?_
                          exact zc_sub [3, 4, 5, 6, 7, 8, 9, 10, 11, 12, 1, 2, 0] rfl (ih191 x89 x77 x90 (by omega) (by omega))
                        refine zr_iload hB 13 dX9_dealt_216 rfl ?_
                        refine zr_iload hB 12 dX9_dealt_218 rfl ?_
                        refine zr_iload hB 15 dX9_dealt_220 rfl ?_
                        refine zr_ishr hB dX9_dealt_222 (fun x91 ex91 => ?_)
                        refine zr_iconst hB dX9_dealt_223 rfl (fun c92 ec92 => ?_)
                        refine zr_iand hB dX9_dealt_224 (fun x93 ex93 => ?_)
                        have bx93 := zn_and ex93 ec92 (k := 1) rfl (by decide)
                        refine zr_iaddw hB dX9_dealt_225 (fun x94 ex94 => ?_)
                        refine zr_istore hB dX9_dealt_226 (by decide) (lv' := [(13, .int x94), (0, .ref (zk K 0)), (1, .int p1), (2, .int p2), (3, .int p3), (4, .int p4), (5, .int p5), (6, .int p6), (7, .int y7_27), (8, .int y8_28), (9, .int y9_29), (10, .int y10_43), (11, .int y11_44), (12, .int y12_45), (14, .int y14_55), (15, .int y15_56)]) rfl ?_
                        refine zr_iload hB 14 dX9_dealt_228 rfl ?_
                        refine zr_iload hB 13 dX9_dealt_230 rfl ?_
                        refine zr_iload hB 15 dX9_dealt_232 rfl ?_
                        refine zr_ishr hB dX9_dealt_234 (fun x95 ex95 => ?_)
                        refine zr_iconst hB dX9_dealt_235 rfl (fun c96 ec96 => ?_)
                        refine zr_iand hB dX9_dealt_236 (fun x97 ex97 => ?_)
                        have bx97 := zn_and ex97 ec96 (k := 1) rfl (by decide)
                        refine zr_aload_n hB 1 dX9_dealt_237 rfl ?_
                        refine zr_getr hG 0 27 dX9_dealt_238 rfl wf_X9_56 rfl ?_
                        refine zr_iload hB 15 dX9_dealt_241 rfl ?_
                        refine zr_iald hG 16 dX9_dealt_243 rfl (by omega) (by omega) (fun x98 ex98 => ?_)
                        have bx98 : (-999) ≤ x98.toInt ∧ x98.toInt ≤ 999 := by rw [ex98]; exact ⟨(hO31 16 _).1, (hO31 16 _).2.1⟩
                        refine zr_imulw hB dX9_dealt_244 (fun x99 ex99 => ?_)
                        refine zr_iaddw hB dX9_dealt_245 (fun x100 ex100 => ?_)
                        refine zr_istore hB dX9_dealt_246 (by decide) (lv' := [(14, .int x100), (13, .int x94), (0, .ref (zk K 0)), (1, .int p1), (2, .int p2), (3, .int p3), (4, .int p4), (5, .int p5), (6, .int p6), (7, .int y7_27), (8, .int y8_28), (9, .int y9_29), (10, .int y10_43), (11, .int y11_44), (12, .int y12_45), (15, .int y15_56)]) rfl ?_
                        refine zr_iinc hB 15 dX9_dealt_248 rfl (by decide) rfl (by omega) (by omega) (fun x101 ex101 lv' hlv => ?_)
                        obtain rfl : [(15, .int x101), (14, .int x100), (13, .int x94), (0, .ref (zk K 0)), (1, .int p1), (2, .int p2), (3, .int p3), (4, .int p4), (5, .int p5), (6, .int p6), (7, .int y7_27), (8, .int y8_28), (9, .int y9_29), (10, .int y10_43), (11, .int y11_44), (12, .int y12_45)] = lv' := hlv
                        refine zr_goto hB dX9_dealt_251 (tgt := 209) rfl ?_
                        exact zc_sub [3, 4, 5, 6, 7, 8, 9, 10, 11, 12, 13, 14, 15, 2, 1, 0] rfl (ih209 x94 x100 x101 (by omega) (by omega) (by omega))
                    exact zc_sub [3, 4, 5, 6, 7, 8, 9, 10, 11, 12, 13, 14, 15, 2, 1, 0] rfl (L209_57 18 c51 c52 c53 (by omega) (by omega) (by omega))
                exact zc_sub [3, 4, 5, 6, 7, 8, 9, 10, 11, 12, 2, 1, 0] rfl (L191_46 2147483649 c40 c41 c42 (by omega) (by omega))
              refine zr_if_ne hB dX9_dealt_171 (tgt := 182) rfl (fun c102 => ?_) (fun c102 => ?_)
              · exact L182_39
              refine zr_iload hB 8 dX9_dealt_174 rfl ?_
              refine zr_if_ne hB dX9_dealt_176 (tgt := 182) rfl (fun c103 => ?_) (fun c103 => ?_)
              · exact L182_39
              refine zr_bipush hB dX9_dealt_179 rfl (fun c104 ec104 => ?_)
              exact zr_iret hG dX9_dealt_181 ⟨hO31, hA31⟩
            refine zr_iload hB 6 dX9_dealt_155 rfl ?_
            refine zr_iconst hB dX9_dealt_157 rfl (fun c105 ec105 => ?_)
            refine zr_icmp_ne hB dX9_dealt_158 (tgt := 166) rfl (fun c106 => ?_) (fun c106 => ?_)
            · refine zr_iload hB 8 dX9_dealt_166 rfl ?_
              exact zr_iret hG dX9_dealt_168 ⟨hO31, hA31⟩
            refine zr_iload hB 7 dX9_dealt_161 rfl ?_
            refine zr_goto hB dX9_dealt_163 (tgt := 168) rfl ?_
            exact zr_iret hG dX9_dealt_168 ⟨hO31, hA31⟩
          refine zr_bipush hB dX9_dealt_146 rfl (fun c107 ec107 => ?_)
          exact zr_iret hG dX9_dealt_148 ⟨hO31, hA31⟩
        refine zr_aload_n hB 0 dX9_dealt_60 rfl ?_
        refine zr_getr hG 0 26 dX9_dealt_61 rfl wf_X9_53 rfl ?_
        refine zr_iload hB 10 dX9_dealt_64 rfl ?_
        refine zr_zald hG 15 dX9_dealt_66 rfl (by omega) (by omega) (fun x108 ex108 => ?_)
        have bx108 : 0 ≤ x108.toInt ∧ x108.toInt ≤ 1 := by rw [ex108]; exact ⟨(hO31 15 _).1, (hO31 15 _).2.1⟩
        refine zr_if_eq hB dX9_dealt_67 (tgt := 133) rfl (fun c109 => ?_) (fun c109 => ?_)
        · refine zr_iinc hB 10 dX9_dealt_133 rfl (by decide) rfl (by omega) (by omega) (fun x110 ex110 lv' hlv => ?_)
          obtain rfl : [(10, .int x110), (0, .ref (zk K 0)), (1, .int p1), (2, .int p2), (3, .int p3), (4, .int p4), (5, .int p5), (6, .int p6), (7, .int y7_27), (8, .int y8_28), (9, .int y9_29)] = lv' := hlv
          refine zr_goto hB dX9_dealt_136 (tgt := 53) rfl ?_
          exact zc_sub [1, 2, 3, 4, 5, 6, 7, 8, 9, 10, 0] rfl (ih53 σ31 y7_27 y8_28 y9_29 x110 hO31 hA31 (by omega) (by omega) (by omega) (by omega) (show y7_27.toInt + p4.toInt ≤ x110.toInt by omega) (by omega))
        refine zr_aload_n hB 0 dX9_dealt_70 rfl ?_
        refine zr_getr hG 0 27 dX9_dealt_71 rfl wf_X9_56 rfl ?_
        refine zr_iload hB 7 dX9_dealt_74 rfl ?_
        refine zr_aload_n hB 0 dX9_dealt_76 rfl ?_
        refine zr_getr hG 0 25 dX9_dealt_77 rfl wf_X9_50 rfl ?_
        refine zr_iload hB 10 dX9_dealt_80 rfl ?_
        refine zr_iald hG 14 dX9_dealt_82 rfl (by omega) (by omega) (fun x111 ex111 => ?_)
        have bx111 : (-999) ≤ x111.toInt ∧ x111.toInt ≤ 999 := by rw [ex111]; exact ⟨(hO31 14 _).1, (hO31 14 _).2.1⟩
        refine zr_iast hG 16 dX9_dealt_83 rfl (by omega) (by omega)  ?_
        have hOw112 := zc_O.u hO31 16 y7_27.toInt.toNat (v := x111) (show (-999) ≤ x111.toInt by omega) (show x111.toInt ≤ 999 by omega) (Or.inr (show (-999) ≤ x111.toInt by omega))
        have hAw112 := zc_Ag.u hA31 16 y7_27.toInt.toNat x111 rfl
        refine zr_iinc hB 7 dX9_dealt_84 rfl (by decide) rfl (by omega) (by omega) (fun x113 ex113 lv' hlv => ?_)
        obtain rfl : [(7, .int x113), (0, .ref (zk K 0)), (1, .int p1), (2, .int p2), (3, .int p3), (4, .int p4), (5, .int p5), (6, .int p6), (8, .int y8_28), (9, .int y9_29), (10, .int y10_30)] = lv' := hlv
        refine zr_iload hB 8 dX9_dealt_87 rfl ?_
        refine zr_aload_n hB 1 dX9_dealt_89 rfl ?_
        refine zr_getr hG 0 4 dX9_dealt_90 rfl wf_X9_17 rfl ?_
        refine zr_iload hB 10 dX9_dealt_93 rfl ?_
        refine zr_zald hG 3 dX9_dealt_95 rfl (by omega) (by omega) (fun x114 ex114 => ?_)
        have bx114 : 0 ≤ x114.toInt ∧ x114.toInt ≤ 1 := by rw [ex114]; exact ⟨(hOw112 3 _).1, (hOw112 3 _).2.1⟩
        refine zr_if_eq hB dX9_dealt_96 (tgt := 103) rfl (fun c115 => ?_) (fun c115 => ?_)
        · refine zr_iconst hB dX9_dealt_103 rfl (fun c116 ec116 => ?_)
          have v118 := And.intro (zn_lo y8_28) (zn_hi y8_28)
          refine zr_iadd hB dX9_dealt_104 (by omega) (by omega) (fun x117 ex117 => ?_)
          refine zr_istore hB dX9_dealt_105 (by decide) (lv' := [(8, .int x117), (7, .int x113), (0, .ref (zk K 0)), (1, .int p1), (2, .int p2), (3, .int p3), (4, .int p4), (5, .int p5), (6, .int p6), (9, .int y9_29), (10, .int y10_30)]) rfl ?_
          refine zr_iload hB 9 dX9_dealt_107 rfl ?_
          refine zr_aload_n hB 2 dX9_dealt_109 rfl ?_
          refine zr_getr hG 0 4 dX9_dealt_110 rfl wf_X9_17 rfl ?_
          refine zr_iload hB 10 dX9_dealt_113 rfl ?_
          refine zr_zald hG 3 dX9_dealt_115 rfl (by omega) (by omega) (fun x119 ex119 => ?_)
          obtain rfl : x114 = x119 := ex114.trans ex119.symm
          refine zr_if_eq hB dX9_dealt_116 (tgt := 129) rfl (fun c120 => ?_) (fun c120 => ?_)
          · refine zr_iconst hB dX9_dealt_129 rfl (fun c121 ec121 => ?_)
            have v123 := And.intro (zn_lo y9_29) (zn_hi y9_29)
            refine zr_iadd hB dX9_dealt_130 (by omega) (by omega) (fun x122 ex122 => ?_)
            refine zr_istore hB dX9_dealt_131 (by decide) (lv' := [(9, .int x122), (8, .int x117), (7, .int x113), (0, .ref (zk K 0)), (1, .int p1), (2, .int p2), (3, .int p3), (4, .int p4), (5, .int p5), (6, .int p6), (10, .int y10_30)]) rfl ?_
            refine zr_iinc hB 10 dX9_dealt_133 rfl (by decide) rfl (by omega) (by omega) (fun x124 ex124 lv' hlv => ?_)
            obtain rfl : [(10, .int x124), (9, .int x122), (8, .int x117), (7, .int x113), (0, .ref (zk K 0)), (1, .int p1), (2, .int p2), (3, .int p3), (4, .int p4), (5, .int p5), (6, .int p6)] = lv' := hlv
            refine zr_goto hB dX9_dealt_136 (tgt := 53) rfl ?_
            exact zc_sub [4, 5, 6, 7, 8, 9, 10, 3, 2, 1, 0] rfl (ih53 (zc_u σ31 16 y7_27.toInt.toNat x111) x113 x117 x122 x124 hOw112 hAw112 (by omega) (by omega) (by omega) (by omega) (show x113.toInt + p4.toInt ≤ x124.toInt by omega) (by omega))
          exfalso; omega
        refine zr_iconst hB dX9_dealt_99 rfl (fun c125 ec125 => ?_)
        refine zr_goto hB dX9_dealt_100 (tgt := 104) rfl ?_
        refine zr_iaddw hB dX9_dealt_104 (fun x126 ex126 => ?_)
        refine zr_istore hB dX9_dealt_105 (by decide) (lv' := [(8, .int x126), (7, .int x113), (0, .ref (zk K 0)), (1, .int p1), (2, .int p2), (3, .int p3), (4, .int p4), (5, .int p5), (6, .int p6), (9, .int y9_29), (10, .int y10_30)]) rfl ?_
        refine zr_iload hB 9 dX9_dealt_107 rfl ?_
        refine zr_aload_n hB 2 dX9_dealt_109 rfl ?_
        refine zr_getr hG 0 4 dX9_dealt_110 rfl wf_X9_17 rfl ?_
        refine zr_iload hB 10 dX9_dealt_113 rfl ?_
        refine zr_zald hG 3 dX9_dealt_115 rfl (by omega) (by omega) (fun x127 ex127 => ?_)
        obtain rfl : x114 = x127 := ex114.trans ex127.symm
        refine zr_if_eq hB dX9_dealt_116 (tgt := 129) rfl (fun c128 => ?_) (fun c128 => ?_)
        · exfalso; omega
        refine zr_aload_n hB 2 dX9_dealt_119 rfl ?_
        refine zr_getr hG 0 25 dX9_dealt_120 rfl wf_X9_50 rfl ?_
        refine zr_iload hB 10 dX9_dealt_123 rfl ?_
        refine zr_iald hG 14 dX9_dealt_125 rfl (by omega) (by omega) (fun x129 ex129 => ?_)
        have bx129 : (-999) ≤ x129.toInt ∧ x129.toInt ≤ 999 := by rw [ex129]; exact ⟨(hOw112 14 _).1, (hOw112 14 _).2.1⟩
        refine zr_goto hB dX9_dealt_126 (tgt := 130) rfl ?_
        refine zr_iaddw hB dX9_dealt_130 (fun x130 ex130 => ?_)
        refine zr_istore hB dX9_dealt_131 (by decide) (lv' := [(9, .int x130), (8, .int x126), (7, .int x113), (0, .ref (zk K 0)), (1, .int p1), (2, .int p2), (3, .int p3), (4, .int p4), (5, .int p5), (6, .int p6), (10, .int y10_30)]) rfl ?_
        refine zr_iinc hB 10 dX9_dealt_133 rfl (by decide) rfl (by omega) (by omega) (fun x131 ex131 lv' hlv => ?_)
        obtain rfl : [(10, .int x131), (9, .int x130), (8, .int x126), (7, .int x113), (0, .ref (zk K 0)), (1, .int p1), (2, .int p2), (3, .int p3), (4, .int p4), (5, .int p5), (6, .int p6)] = lv' := hlv
        refine zr_goto hB dX9_dealt_136 (tgt := 53) rfl ?_
        exact zc_sub [4, 5, 6, 7, 8, 9, 10, 3, 2, 1, 0] rfl (ih53 (zc_u σ31 16 y7_27.toInt.toNat x111) x113 x126 x130 x131 hOw112 hAw112 (by omega) (by omega) (by omega) (by omega) (show x113.toInt + p4.toInt ≤ x131.toInt by omega) (by omega))
    exact zc_sub [4, 5, 6, 7, 8, 9, 10, 3, 2, 1, 0] rfl (L53_33 66 σ18 c24 c25 c26 p4 hO20 hA22 (by omega) (by omega) (by omega) (by omega) (show c24.toInt + p4.toInt ≤ p4.toInt by omega) (by omega))
  have q132 := r12q.f c15
  refine zr_iconst hB dX9_dealt_27 rfl (fun c133 ec133 => ?_)
  exact zr_iret hG dX9_dealt_28 ⟨hO0, hA0⟩

set_option maxHeartbeats 1000000 in
set_option maxRecDepth 100000 in
theorem c_M_change (K : zc_K) (hi : zc_inj shM K.2.2.2.1) (σ0 : zc_S) (p1 : Int32) (p2 : Int32) (p3 : Int32) (hO0 : zc_O okM σ0)  : zc_M shM K yX9_change cX9_change 20 (some .int) (zrm 3 68) σ0 [.ref (zk K 0), .int p1, .int p2, .int p3] (zc_I (fun r9 σ9 => σ0 = σ9)) := by
  refine zc_start RX9 hi pfX9_change rfl (Nat.le_of_ble_eq_true rfl) ?_
  intro G hG
  have hB := hG.1
  show zc_V 20 K G (zc_D shM K G σ0) [(0, .ref (zk K 0)), (1, .int p1), (2, .int p2), (3, .int p3)] 0 []
  refine zr_iload_n hB 1 dX9_change_0 rfl ?_
  refine zr_callsi hG (rest := []) dX9_change_1 wm_X9_108 (c_M_isShop K hG.2.2.2.2.2.1 σ0 p1 hO0 ) rfl rfl (Nat.le_of_ble_eq_true rfl) ⟨Nat.le_of_ble_eq_true rfl, Nat.le_of_ble_eq_true rfl, rfl, rfl⟩ (fun r1 σ2 h3 => ?_)
  obtain ⟨rfl, r1q⟩ := h3
  have r1z := r1q.b
  refine zr_if_eq hB dX9_change_4 (tgt := 15) rfl (fun c4 => ?_) (fun c4 => ?_)
  · have q5 := r1q.f c4
    refine zr_iconst hB dX9_change_15 rfl (fun c6 ec6 => ?_)
    exact zr_iret hG dX9_change_16 rfl
  have q7 := r1q.t c4
  refine zr_iload_n hB 2 dX9_change_7 rfl ?_
  refine zr_iload_n hB 3 dX9_change_8 rfl ?_
  refine zr_callsi hG (rest := []) dX9_change_9 wm_X9_228 (c_M_areDays K hG.2.2.2.2.2.1 σ0 p2 p3 hO0 ) rfl rfl (Nat.le_of_ble_eq_true rfl) ⟨Nat.le_of_ble_eq_true rfl, Nat.le_of_ble_eq_true rfl, rfl, rfl⟩ (fun r8 σ9 h10 => ?_)
  obtain ⟨rfl, r8q⟩ := h10
  have r8z := r8q.b
  refine zr_if_ne hB dX9_change_12 (tgt := 17) rfl (fun c11 => ?_) (fun c11 => ?_)
  · have q12 := r8q.t c11
    refine zr_bipush hB dX9_change_17 rfl (fun c13 ec13 => ?_)
    refine zr_istore hB dX9_change_19 (by decide) (lv' := [(4, .int c13), (0, .ref (zk K 0)), (1, .int p1), (2, .int p2), (3, .int p3)]) rfl ?_
    refine zr_lconst hB dX9_change_21 (m := 0) rfl (fun c14 ec14 => ?_)
    refine zr_lstore hB dX9_change_22 (by decide) (lv' := [(5, .long c14), (4, .int c13), (0, .ref (zk K 0)), (1, .int p1), (2, .int p2), (3, .int p3)]) rfl ?_
    refine zr_lconst hB dX9_change_24 (m := 1) rfl (fun c15 ec15 => ?_)
    refine zr_lstore hB dX9_change_25 (by decide) (lv' := [(7, .long c15), (5, .long c14), (4, .int c13), (0, .ref (zk K 0)), (1, .int p1), (2, .int p2), (3, .int p3)]) rfl ?_
    refine zr_iload_n hB 5 dX9_change_27 rfl ?_
    refine zr_iconst hB dX9_change_28 rfl (fun c16 ec16 => ?_)
    refine zr_iadd hB dX9_change_29 (by omega) (by omega) (fun x17 ex17 => ?_)
    refine zr_istore hB dX9_change_30 (by decide) (lv' := [(9, .int x17), (7, .long c15), (5, .long c14), (4, .int c13), (0, .ref (zk K 0)), (1, .int p1), (2, .int p2), (3, .int p3)]) rfl ?_
    have L32_22 : ∀ (n32 : Nat) (y4_18 : Int32) (y5_19 : Int64) (y7_20 : Int64) (y9_21 : Int32), (-4) ≤ y4_18.toInt → y4_18.toInt ≤ 63 → 1 ≤ y9_21.toInt → y9_21.toInt ≤ 64 → 64 - y9_21.toInt < (n32 : Int) → zc_V 20 K G (zc_D shM K G σ0) [(0, .ref (zk K 0)), (1, .int p1), (2, .int p2), (3, .int p3), (4, .int y4_18), (5, .long y5_19), (7, .long y7_20), (9, .int y9_21)] 32 [] := by
      intro n32
      induction n32 with
      | zero => intro y4_18 y5_19 y7_20 y9_21 y4_18a y4_18b y9_21a y9_21b hn32; exfalso; omega
      | succ n32 ih32 =>
        intro y4_18 y5_19 y7_20 y9_21 y4_18a y4_18b y9_21a y9_21b hn32
        refine zr_iload hB 7 dX9_change_32 rfl ?_
        refine zr_iload_n hB 3 dX9_change_34 rfl ?_
        refine zr_icmp_gt hB dX9_change_35 (tgt := 259) rfl (fun c23 => ?_) (fun c23 => ?_)
        · refine zr_iload hB 4 dX9_change_259 rfl ?_
          exact zr_iret hG dX9_change_261 rfl
        refine zr_lconst hB dX9_change_38 (m := 0) rfl (fun c24 ec24 => ?_)
        refine zr_lstore hB dX9_change_39 (by decide) (lv' := [(10, .long c24), (0, .ref (zk K 0)), (1, .int p1), (2, .int p2), (3, .int p3), (4, .int y4_18), (5, .long y5_19), (7, .long y7_20), (9, .int y9_21)]) rfl ?_
        refine zr_lconst hB dX9_change_41 (m := 0) rfl (fun c25 ec25 => ?_)
        refine zr_lstore hB dX9_change_42 (by decide) (lv' := [(12, .long c25), (10, .long c24), (0, .ref (zk K 0)), (1, .int p1), (2, .int p2), (3, .int p3), (4, .int y4_18), (5, .long y5_19), (7, .long y7_20), (9, .int y9_21)]) rfl ?_
        refine zr_lconst hB dX9_change_44 (m := 0) rfl (fun c26 ec26 => ?_)
        refine zr_lstore hB dX9_change_45 (by decide) (lv' := [(14, .long c26), (12, .long c25), (10, .long c24), (0, .ref (zk K 0)), (1, .int p1), (2, .int p2), (3, .int p3), (4, .int y4_18), (5, .long y5_19), (7, .long y7_20), (9, .int y9_21)]) rfl ?_
        refine zr_lconst hB dX9_change_47 (m := 0) rfl (fun c27 ec27 => ?_)
        refine zr_lstore hB dX9_change_48 (by decide) (lv' := [(16, .long c27), (14, .long c26), (12, .long c25), (10, .long c24), (0, .ref (zk K 0)), (1, .int p1), (2, .int p2), (3, .int p3), (4, .int y4_18), (5, .long y5_19), (7, .long y7_20), (9, .int y9_21)]) rfl ?_
        refine zr_iload_n hB 6 dX9_change_50 rfl ?_
        refine zr_istore hB dX9_change_51 (by decide) (lv' := [(18, .int p2), (16, .long c27), (14, .long c26), (12, .long c25), (10, .long c24), (0, .ref (zk K 0)), (1, .int p1), (2, .int p2), (3, .int p3), (4, .int y4_18), (5, .long y5_19), (7, .long y7_20), (9, .int y9_21)]) rfl ?_
        have L53_33 : ∀ (n53 : Nat) (y10_28 : Int64) (y12_29 : Int64) (y14_30 : Int64) (y16_31 : Int64) (y18_32 : Int32), 0 ≤ y18_32.toInt → y18_32.toInt ≤ 64 → 64 - y18_32.toInt < (n53 : Int) → zc_V 20 K G (zc_D shM K G σ0) [(0, .ref (zk K 0)), (1, .int p1), (2, .int p2), (3, .int p3), (4, .int y4_18), (5, .long y5_19), (7, .long y7_20), (9, .int y9_21), (10, .long y10_28), (12, .long y12_29), (14, .long y14_30), (16, .long y16_31), (18, .int y18_32)] 53 [] := by
          intro n53
          induction n53 with
          | zero => intro y10_28 y12_29 y14_30 y16_31 y18_32 y18_32a y18_32b hn53; exfalso; omega
          | succ n53 ih53 =>
            intro y10_28 y12_29 y14_30 y16_31 y18_32 y18_32a y18_32b hn53
            refine zr_iload hB 12 dX9_change_53 rfl ?_
            refine zr_iload_n hB 3 dX9_change_55 rfl ?_
            refine zr_icmp_gt hB dX9_change_56 (tgt := 170) rfl (fun c34 => ?_) (fun c34 => ?_)
            · refine zr_lload hB 8 dX9_change_170 rfl ?_
              refine zr_lconst hB dX9_change_172 (m := 0) rfl (fun c35 ec35 => ?_)
              refine zr_lcmp_le hB dX9_change_173 dX9_change_174 (tgt := 253) rfl (fun c36 => ?_) (fun c36 => ?_)
              · refine zr_iinc hB 7 dX9_change_253 rfl (by decide) rfl (by omega) (by omega) (fun x37 ex37 lv' hlv => ?_)
                obtain rfl : [(9, .int x37), (0, .ref (zk K 0)), (1, .int p1), (2, .int p2), (3, .int p3), (4, .int y4_18), (5, .long y5_19), (7, .long y7_20), (10, .long y10_28), (12, .long y12_29), (14, .long y14_30), (16, .long y16_31), (18, .int y18_32)] = lv' := hlv
                refine zr_goto hB dX9_change_256 (tgt := 32) rfl ?_
                exact zc_sub [1, 2, 3, 4, 5, 6, 7, 0] rfl (ih32 y4_18 y5_19 y7_20 x37 (by omega) (by omega) (by omega) (by omega) (by omega))
              refine zr_lload hB 9 dX9_change_177 rfl ?_
              refine zr_lconst hB dX9_change_179 (m := 0) rfl (fun c38 ec38 => ?_)
              refine zr_lcmp_le hB dX9_change_180 dX9_change_181 (tgt := 253) rfl (fun c39 => ?_) (fun c39 => ?_)
              · refine zr_iinc hB 7 dX9_change_253 rfl (by decide) rfl (by omega) (by omega) (fun x40 ex40 lv' hlv => ?_)
                obtain rfl : [(9, .int x40), (0, .ref (zk K 0)), (1, .int p1), (2, .int p2), (3, .int p3), (4, .int y4_18), (5, .long y5_19), (7, .long y7_20), (10, .long y10_28), (12, .long y12_29), (14, .long y14_30), (16, .long y16_31), (18, .int y18_32)] = lv' := hlv
                refine zr_goto hB dX9_change_256 (tgt := 32) rfl ?_
                exact zc_sub [1, 2, 3, 4, 5, 6, 7, 0] rfl (ih32 y4_18 y5_19 y7_20 x40 (by omega) (by omega) (by omega) (by omega) (by omega))
              refine zr_iload hB 4 dX9_change_184 rfl ?_
              refine zr_bipush hB dX9_change_186 rfl (fun c41 ec41 => ?_)
              have L223_42 : zc_V 20 K G (zc_D shM K G σ0) [(0, .ref (zk K 0)), (1, .int p1), (2, .int p2), (3, .int p3), (4, .int y4_18), (5, .long y5_19), (7, .long y7_20), (9, .int y9_21), (10, .long y10_28), (12, .long y12_29), (14, .long y14_30), (16, .long y16_31), (18, .int y18_32)] 223 [] := by
                refine zr_iload hB 7 dX9_change_223 rfl ?_
                refine zr_istore hB dX9_change_225 (by decide) (lv' := [(4, .int y9_21), (0, .ref (zk K 0)), (1, .int p1), (2, .int p2), (3, .int p3), (5, .long y5_19), (7, .long y7_20), (9, .int y9_21), (10, .long y10_28), (12, .long y12_29), (14, .long y14_30), (16, .long y16_31), (18, .int y18_32)]) rfl ?_
                refine zr_lload hB 10 dX9_change_227 rfl ?_
                refine zr_lload hB 10 dX9_change_229 rfl ?_
                refine zr_lmulw hB dX9_change_231 (fun l43 el43 => ?_)
                refine zr_lload hB 9 dX9_change_232 rfl ?_
                refine zr_lmulw hB dX9_change_234 (fun l44 el44 => ?_)
                refine zr_lload hB 11 dX9_change_235 rfl ?_
                refine zr_lload hB 11 dX9_change_237 rfl ?_
                refine zr_lmulw hB dX9_change_239 (fun l45 el45 => ?_)
                refine zr_lload hB 8 dX9_change_240 rfl ?_
                refine zr_lmulw hB dX9_change_242 (fun l46 el46 => ?_)
                refine zr_laddw hB dX9_change_243 (fun l47 el47 => ?_)
                refine zr_lstore hB dX9_change_244 (by decide) (lv' := [(5, .long l47), (4, .int y9_21), (0, .ref (zk K 0)), (1, .int p1), (2, .int p2), (3, .int p3), (7, .long y7_20), (9, .int y9_21), (10, .long y10_28), (12, .long y12_29), (14, .long y14_30), (16, .long y16_31), (18, .int y18_32)]) rfl ?_
                refine zr_lload hB 8 dX9_change_246 rfl ?_
                refine zr_lload hB 9 dX9_change_248 rfl ?_
                refine zr_lmulw hB dX9_change_250 (fun l48 el48 => ?_)
                refine zr_lstore hB dX9_change_251 (by decide) (lv' := [(7, .long l48), (5, .long l47), (4, .int y9_21), (0, .ref (zk K 0)), (1, .int p1), (2, .int p2), (3, .int p3), (9, .int y9_21), (10, .long y10_28), (12, .long y12_29), (14, .long y14_30), (16, .long y16_31), (18, .int y18_32)]) rfl ?_
                refine zr_iinc hB 7 dX9_change_253 rfl (by decide) rfl (by omega) (by omega) (fun x49 ex49 lv' hlv => ?_)
                obtain rfl : [(9, .int x49), (7, .long l48), (5, .long l47), (4, .int y9_21), (0, .ref (zk K 0)), (1, .int p1), (2, .int p2), (3, .int p3), (10, .long y10_28), (12, .long y12_29), (14, .long y14_30), (16, .long y16_31), (18, .int y18_32)] = lv' := hlv
                refine zr_goto hB dX9_change_256 (tgt := 32) rfl ?_
                exact zc_sub [4, 5, 6, 7, 3, 2, 1, 0] rfl (ih32 y9_21 l47 l48 x49 (by omega) (by omega) (by omega) (by omega) (by omega))
              refine zr_icmp_eq hB dX9_change_188 (tgt := 223) rfl (fun c50 => ?_) (fun c50 => ?_)
              · exact L223_42
              refine zr_lload hB 10 dX9_change_191 rfl ?_
              refine zr_lload hB 10 dX9_change_193 rfl ?_
              refine zr_lmulw hB dX9_change_195 (fun l51 el51 => ?_)
              refine zr_lload hB 9 dX9_change_196 rfl ?_
              refine zr_lmulw hB dX9_change_198 (fun l52 el52 => ?_)
              refine zr_lload hB 11 dX9_change_199 rfl ?_
              refine zr_lload hB 11 dX9_change_201 rfl ?_
              refine zr_lmulw hB dX9_change_203 (fun l53 el53 => ?_)
              refine zr_lload hB 8 dX9_change_204 rfl ?_
              refine zr_lmulw hB dX9_change_206 (fun l54 el54 => ?_)
              refine zr_laddw hB dX9_change_207 (fun l55 el55 => ?_)
              refine zr_lload hB 6 dX9_change_208 rfl ?_
              refine zr_lmulw hB dX9_change_210 (fun l56 el56 => ?_)
              refine zr_lload hB 5 dX9_change_211 rfl ?_
              refine zr_lload hB 8 dX9_change_213 rfl ?_
              refine zr_lload hB 9 dX9_change_215 rfl ?_
              refine zr_lmulw hB dX9_change_217 (fun l57 el57 => ?_)
              refine zr_lmulw hB dX9_change_218 (fun l58 el58 => ?_)
              refine zr_lcmp_le hB dX9_change_219 dX9_change_220 (tgt := 253) rfl (fun c59 => ?_) (fun c59 => ?_)
              · refine zr_iinc hB 7 dX9_change_253 rfl (by decide) rfl (by omega) (by omega) (fun x60 ex60 lv' hlv => ?_)
                obtain rfl : [(9, .int x60), (0, .ref (zk K 0)), (1, .int p1), (2, .int p2), (3, .int p3), (4, .int y4_18), (5, .long y5_19), (7, .long y7_20), (10, .long y10_28), (12, .long y12_29), (14, .long y14_30), (16, .long y16_31), (18, .int y18_32)] = lv' := hlv
                refine zr_goto hB dX9_change_256 (tgt := 32) rfl ?_
                exact zc_sub [1, 2, 3, 4, 5, 6, 7, 0] rfl (ih32 y4_18 y5_19 y7_20 x60 (by omega) (by omega) (by omega) (by omega) (by omega))
              exact L223_42
            refine zr_aload_n hB 0 dX9_change_59 rfl ?_
            refine zr_iload_n hB 1 dX9_change_60 rfl ?_
            refine zr_iload hB 12 dX9_change_61 rfl ?_
            refine zr_aload_n hB 0 dX9_change_63 rfl ?_
            refine zr_geti' hG 0 1 (σ0.1 0 1) dX9_change_64 rfl wf_X9_101 rfl rfl ?_
            have b61 : 0 ≤ (σ0.1 0 1).toInt ∧ (σ0.1 0 1).toInt ≤ 63 := ⟨(hO0 0 1).1, (hO0 0 1).2.1⟩
            refine zr_callvi hG (rest := []) 0 dX9_change_67 wm_X9_113 rfl rfl (c_M_knownOn K hG.2.2.2.2.2.1 σ0 p1 y18_32 (σ0.1 0 1) hO0 (by omega) (by omega) (by omega) (by omega)) rfl rfl (Nat.le_of_ble_eq_true rfl) ⟨Nat.le_of_ble_eq_true rfl, Nat.le_of_ble_eq_true rfl, rfl, rfl⟩ (fun r62 σ63 h64 => ?_)
            obtain ⟨rfl, r62a, r62b, g65⟩ := h64
            refine zr_istore hB dX9_change_70 (by decide) (lv' := [(19, .int r62), (0, .ref (zk K 0)), (1, .int p1), (2, .int p2), (3, .int p3), (4, .int y4_18), (5, .long y5_19), (7, .long y7_20), (9, .int y9_21), (10, .long y10_28), (12, .long y12_29), (14, .long y14_30), (16, .long y16_31), (18, .int y18_32)]) rfl ?_
            refine zr_lload hB 9 dX9_change_72 rfl ?_
            refine zr_iload hB 0 dX9_change_74 rfl ?_
            refine zr_if_lt hB dX9_change_76 (tgt := 90) rfl (fun c66 => ?_) (fun c66 => ?_)
            · refine zr_lconst hB dX9_change_90 (m := 0) rfl (fun c67 ec67 => ?_)
              refine zr_laddw hB dX9_change_91 (fun l68 el68 => ?_)
              refine zr_lstore hB dX9_change_92 (by decide) (lv' := [(10, .long l68), (19, .int r62), (0, .ref (zk K 0)), (1, .int p1), (2, .int p2), (3, .int p3), (4, .int y4_18), (5, .long y5_19), (7, .long y7_20), (9, .int y9_21), (12, .long y12_29), (14, .long y14_30), (16, .long y16_31), (18, .int y18_32)]) rfl ?_
              refine zr_lload hB 10 dX9_change_94 rfl ?_
              refine zr_iload hB 1 dX9_change_96 rfl ?_
              refine zr_if_lt hB dX9_change_98 (tgt := 112) rfl (fun c69 => ?_) (fun c69 => ?_)
              · refine zr_lconst hB dX9_change_112 (m := 0) rfl (fun c70 ec70 => ?_)
                refine zr_laddw hB dX9_change_113 (fun l71 el71 => ?_)
                refine zr_lstore hB dX9_change_114 (by decide) (lv' := [(12, .long l71), (10, .long l68), (19, .int r62), (0, .ref (zk K 0)), (1, .int p1), (2, .int p2), (3, .int p3), (4, .int y4_18), (5, .long y5_19), (7, .long y7_20), (9, .int y9_21), (14, .long y14_30), (16, .long y16_31), (18, .int y18_32)]) rfl ?_
                refine zr_lload hB 11 dX9_change_116 rfl ?_
                refine zr_iload hB 2 dX9_change_118 rfl ?_
                refine zr_if_lt hB dX9_change_120 (tgt := 136) rfl (fun c72 => ?_) (fun c72 => ?_)
                · refine zr_lconst hB dX9_change_136 (m := 0) rfl (fun c73 ec73 => ?_)
                  refine zr_laddw hB dX9_change_137 (fun l74 el74 => ?_)
                  refine zr_lstore hB dX9_change_138 (by decide) (lv' := [(14, .long l74), (12, .long l71), (10, .long l68), (19, .int r62), (0, .ref (zk K 0)), (1, .int p1), (2, .int p2), (3, .int p3), (4, .int y4_18), (5, .long y5_19), (7, .long y7_20), (9, .int y9_21), (16, .long y16_31), (18, .int y18_32)]) rfl ?_
                  refine zr_lload hB 12 dX9_change_140 rfl ?_
                  refine zr_iload hB 3 dX9_change_142 rfl ?_
                  refine zr_if_lt hB dX9_change_144 (tgt := 160) rfl (fun c75 => ?_) (fun c75 => ?_)
                  · refine zr_lconst hB dX9_change_160 (m := 0) rfl (fun c76 ec76 => ?_)
                    refine zr_laddw hB dX9_change_161 (fun l77 el77 => ?_)
                    refine zr_lstore hB dX9_change_162 (by decide) (lv' := [(16, .long l77), (14, .long l74), (12, .long l71), (10, .long l68), (19, .int r62), (0, .ref (zk K 0)), (1, .int p1), (2, .int p2), (3, .int p3), (4, .int y4_18), (5, .long y5_19), (7, .long y7_20), (9, .int y9_21), (18, .int y18_32)]) rfl ?_
                    refine zr_iinc hB 13 dX9_change_164 rfl (by decide) rfl (by omega) (by omega) (fun x78 ex78 lv' hlv => ?_)
                    obtain rfl : [(18, .int x78), (16, .long l77), (14, .long l74), (12, .long l71), (10, .long l68), (19, .int r62), (0, .ref (zk K 0)), (1, .int p1), (2, .int p2), (3, .int p3), (4, .int y4_18), (5, .long y5_19), (7, .long y7_20), (9, .int y9_21)] = lv' := hlv
                    refine zr_goto hB dX9_change_167 (tgt := 53) rfl ?_
                    exact zc_sub [6, 7, 8, 9, 10, 11, 12, 13, 4, 3, 2, 1, 0] rfl (ih53 l68 l71 l74 l77 x78 (by omega) (by omega) (by omega))
                  exfalso; omega
                exfalso; omega
              exfalso; omega
            refine zr_iload hB 13 dX9_change_79 rfl ?_
            refine zr_iload hB 8 dX9_change_81 rfl ?_
            refine zr_icmp_ge hB dX9_change_83 (tgt := 90) rfl (fun c79 => ?_) (fun c79 => ?_)
            · refine zr_lconst hB dX9_change_90 (m := 0) rfl (fun c80 ec80 => ?_)
              refine zr_laddw hB dX9_change_91 (fun l81 el81 => ?_)
              refine zr_lstore hB dX9_change_92 (by decide) (lv' := [(10, .long l81), (19, .int r62), (0, .ref (zk K 0)), (1, .int p1), (2, .int p2), (3, .int p3), (4, .int y4_18), (5, .long y5_19), (7, .long y7_20), (9, .int y9_21), (12, .long y12_29), (14, .long y14_30), (16, .long y16_31), (18, .int y18_32)]) rfl ?_
              refine zr_lload hB 10 dX9_change_94 rfl ?_
              refine zr_iload hB 1 dX9_change_96 rfl ?_
              refine zr_if_lt hB dX9_change_98 (tgt := 112) rfl (fun c82 => ?_) (fun c82 => ?_)
              · exfalso; omega
              refine zr_iload hB 13 dX9_change_101 rfl ?_
              refine zr_iload hB 9 dX9_change_103 rfl ?_
              refine zr_icmp_lt hB dX9_change_105 (tgt := 112) rfl (fun c83 => ?_) (fun c83 => ?_)
              · refine zr_lconst hB dX9_change_112 (m := 0) rfl (fun c84 ec84 => ?_)
                refine zr_laddw hB dX9_change_113 (fun l85 el85 => ?_)
                refine zr_lstore hB dX9_change_114 (by decide) (lv' := [(12, .long l85), (10, .long l81), (19, .int r62), (0, .ref (zk K 0)), (1, .int p1), (2, .int p2), (3, .int p3), (4, .int y4_18), (5, .long y5_19), (7, .long y7_20), (9, .int y9_21), (14, .long y14_30), (16, .long y16_31), (18, .int y18_32)]) rfl ?_
                refine zr_lload hB 11 dX9_change_116 rfl ?_
                refine zr_iload hB 2 dX9_change_118 rfl ?_
                refine zr_if_lt hB dX9_change_120 (tgt := 136) rfl (fun c86 => ?_) (fun c86 => ?_)
                · exfalso; omega
                refine zr_iload hB 13 dX9_change_123 rfl ?_
                refine zr_iload hB 10 dX9_change_125 rfl ?_
                refine zr_icmp_ge hB dX9_change_127 (tgt := 136) rfl (fun c87 => ?_) (fun c87 => ?_)
                · refine zr_lconst hB dX9_change_136 (m := 0) rfl (fun c88 ec88 => ?_)
                  refine zr_laddw hB dX9_change_137 (fun l89 el89 => ?_)
                  refine zr_lstore hB dX9_change_138 (by decide) (lv' := [(14, .long l89), (12, .long l85), (10, .long l81), (19, .int r62), (0, .ref (zk K 0)), (1, .int p1), (2, .int p2), (3, .int p3), (4, .int y4_18), (5, .long y5_19), (7, .long y7_20), (9, .int y9_21), (16, .long y16_31), (18, .int y18_32)]) rfl ?_
                  refine zr_lload hB 12 dX9_change_140 rfl ?_
                  refine zr_iload hB 3 dX9_change_142 rfl ?_
                  refine zr_if_lt hB dX9_change_144 (tgt := 160) rfl (fun c90 => ?_) (fun c90 => ?_)
                  · exfalso; omega
                  refine zr_iload hB 13 dX9_change_147 rfl ?_
                  refine zr_iload hB 11 dX9_change_149 rfl ?_
                  refine zr_icmp_lt hB dX9_change_151 (tgt := 160) rfl (fun c91 => ?_) (fun c91 => ?_)
                  · refine zr_lconst hB dX9_change_160 (m := 0) rfl (fun c92 ec92 => ?_)
                    refine zr_laddw hB dX9_change_161 (fun l93 el93 => ?_)
                    refine zr_lstore hB dX9_change_162 (by decide) (lv' := [(16, .long l93), (14, .long l89), (12, .long l85), (10, .long l81), (19, .int r62), (0, .ref (zk K 0)), (1, .int p1), (2, .int p2), (3, .int p3), (4, .int y4_18), (5, .long y5_19), (7, .long y7_20), (9, .int y9_21), (18, .int y18_32)]) rfl ?_
                    refine zr_iinc hB 13 dX9_change_164 rfl (by decide) rfl (by omega) (by omega) (fun x94 ex94 lv' hlv => ?_)
                    obtain rfl : [(18, .int x94), (16, .long l93), (14, .long l89), (12, .long l85), (10, .long l81), (19, .int r62), (0, .ref (zk K 0)), (1, .int p1), (2, .int p2), (3, .int p3), (4, .int y4_18), (5, .long y5_19), (7, .long y7_20), (9, .int y9_21)] = lv' := hlv
                    refine zr_goto hB dX9_change_167 (tgt := 53) rfl ?_
                    exact zc_sub [6, 7, 8, 9, 10, 11, 12, 13, 4, 3, 2, 1, 0] rfl (ih53 l81 l85 l89 l93 x94 (by omega) (by omega) (by omega))
                  refine zr_iload hB 3 dX9_change_154 rfl ?_
                  refine zr_i2l hB dX9_change_156 (fun l95 el95 => ?_)
                  refine zr_goto hB dX9_change_157 (tgt := 161) rfl ?_
                  refine zr_laddw hB dX9_change_161 (fun l96 el96 => ?_)
                  refine zr_lstore hB dX9_change_162 (by decide) (lv' := [(16, .long l96), (14, .long l89), (12, .long l85), (10, .long l81), (19, .int r62), (0, .ref (zk K 0)), (1, .int p1), (2, .int p2), (3, .int p3), (4, .int y4_18), (5, .long y5_19), (7, .long y7_20), (9, .int y9_21), (18, .int y18_32)]) rfl ?_
                  refine zr_iinc hB 13 dX9_change_164 rfl (by decide) rfl (by omega) (by omega) (fun x97 ex97 lv' hlv => ?_)
                  obtain rfl : [(18, .int x97), (16, .long l96), (14, .long l89), (12, .long l85), (10, .long l81), (19, .int r62), (0, .ref (zk K 0)), (1, .int p1), (2, .int p2), (3, .int p3), (4, .int y4_18), (5, .long y5_19), (7, .long y7_20), (9, .int y9_21)] = lv' := hlv
                  refine zr_goto hB dX9_change_167 (tgt := 53) rfl ?_
                  exact zc_sub [6, 7, 8, 9, 10, 11, 12, 13, 4, 3, 2, 1, 0] rfl (ih53 l81 l85 l89 l96 x97 (by omega) (by omega) (by omega))
                refine zr_iload hB 2 dX9_change_130 rfl ?_
                refine zr_i2l hB dX9_change_132 (fun l98 el98 => ?_)
                refine zr_goto hB dX9_change_133 (tgt := 137) rfl ?_
                refine zr_laddw hB dX9_change_137 (fun l99 el99 => ?_)
                refine zr_lstore hB dX9_change_138 (by decide) (lv' := [(14, .long l99), (12, .long l85), (10, .long l81), (19, .int r62), (0, .ref (zk K 0)), (1, .int p1), (2, .int p2), (3, .int p3), (4, .int y4_18), (5, .long y5_19), (7, .long y7_20), (9, .int y9_21), (16, .long y16_31), (18, .int y18_32)]) rfl ?_
                refine zr_lload hB 12 dX9_change_140 rfl ?_
                refine zr_iload hB 3 dX9_change_142 rfl ?_
                refine zr_if_lt hB dX9_change_144 (tgt := 160) rfl (fun c100 => ?_) (fun c100 => ?_)
                · exfalso; omega
                refine zr_iload hB 13 dX9_change_147 rfl ?_
                refine zr_iload hB 11 dX9_change_149 rfl ?_
                refine zr_icmp_lt hB dX9_change_151 (tgt := 160) rfl (fun c101 => ?_) (fun c101 => ?_)
                · refine zr_lconst hB dX9_change_160 (m := 0) rfl (fun c102 ec102 => ?_)
                  refine zr_laddw hB dX9_change_161 (fun l103 el103 => ?_)
                  refine zr_lstore hB dX9_change_162 (by decide) (lv' := [(16, .long l103), (14, .long l99), (12, .long l85), (10, .long l81), (19, .int r62), (0, .ref (zk K 0)), (1, .int p1), (2, .int p2), (3, .int p3), (4, .int y4_18), (5, .long y5_19), (7, .long y7_20), (9, .int y9_21), (18, .int y18_32)]) rfl ?_
                  refine zr_iinc hB 13 dX9_change_164 rfl (by decide) rfl (by omega) (by omega) (fun x104 ex104 lv' hlv => ?_)
                  obtain rfl : [(18, .int x104), (16, .long l103), (14, .long l99), (12, .long l85), (10, .long l81), (19, .int r62), (0, .ref (zk K 0)), (1, .int p1), (2, .int p2), (3, .int p3), (4, .int y4_18), (5, .long y5_19), (7, .long y7_20), (9, .int y9_21)] = lv' := hlv
                  refine zr_goto hB dX9_change_167 (tgt := 53) rfl ?_
                  exact zc_sub [6, 7, 8, 9, 10, 11, 12, 13, 4, 3, 2, 1, 0] rfl (ih53 l81 l85 l99 l103 x104 (by omega) (by omega) (by omega))
                refine zr_iload hB 3 dX9_change_154 rfl ?_
                refine zr_i2l hB dX9_change_156 (fun l105 el105 => ?_)
                refine zr_goto hB dX9_change_157 (tgt := 161) rfl ?_
                refine zr_laddw hB dX9_change_161 (fun l106 el106 => ?_)
                refine zr_lstore hB dX9_change_162 (by decide) (lv' := [(16, .long l106), (14, .long l99), (12, .long l85), (10, .long l81), (19, .int r62), (0, .ref (zk K 0)), (1, .int p1), (2, .int p2), (3, .int p3), (4, .int y4_18), (5, .long y5_19), (7, .long y7_20), (9, .int y9_21), (18, .int y18_32)]) rfl ?_
                refine zr_iinc hB 13 dX9_change_164 rfl (by decide) rfl (by omega) (by omega) (fun x107 ex107 lv' hlv => ?_)
                obtain rfl : [(18, .int x107), (16, .long l106), (14, .long l99), (12, .long l85), (10, .long l81), (19, .int r62), (0, .ref (zk K 0)), (1, .int p1), (2, .int p2), (3, .int p3), (4, .int y4_18), (5, .long y5_19), (7, .long y7_20), (9, .int y9_21)] = lv' := hlv
                refine zr_goto hB dX9_change_167 (tgt := 53) rfl ?_
                exact zc_sub [6, 7, 8, 9, 10, 11, 12, 13, 4, 3, 2, 1, 0] rfl (ih53 l81 l85 l99 l106 x107 (by omega) (by omega) (by omega))
              refine zr_lconst hB dX9_change_108 (m := 1) rfl (fun c108 ec108 => ?_)
              refine zr_goto hB dX9_change_109 (tgt := 113) rfl ?_
              refine zr_laddw hB dX9_change_113 (fun l109 el109 => ?_)
              refine zr_lstore hB dX9_change_114 (by decide) (lv' := [(12, .long l109), (10, .long l81), (19, .int r62), (0, .ref (zk K 0)), (1, .int p1), (2, .int p2), (3, .int p3), (4, .int y4_18), (5, .long y5_19), (7, .long y7_20), (9, .int y9_21), (14, .long y14_30), (16, .long y16_31), (18, .int y18_32)]) rfl ?_
              refine zr_lload hB 11 dX9_change_116 rfl ?_
              refine zr_iload hB 2 dX9_change_118 rfl ?_
              refine zr_if_lt hB dX9_change_120 (tgt := 136) rfl (fun c110 => ?_) (fun c110 => ?_)
              · exfalso; omega
              refine zr_iload hB 13 dX9_change_123 rfl ?_
              refine zr_iload hB 10 dX9_change_125 rfl ?_
              refine zr_icmp_ge hB dX9_change_127 (tgt := 136) rfl (fun c111 => ?_) (fun c111 => ?_)
              · refine zr_lconst hB dX9_change_136 (m := 0) rfl (fun c112 ec112 => ?_)
                refine zr_laddw hB dX9_change_137 (fun l113 el113 => ?_)
                refine zr_lstore hB dX9_change_138 (by decide) (lv' := [(14, .long l113), (12, .long l109), (10, .long l81), (19, .int r62), (0, .ref (zk K 0)), (1, .int p1), (2, .int p2), (3, .int p3), (4, .int y4_18), (5, .long y5_19), (7, .long y7_20), (9, .int y9_21), (16, .long y16_31), (18, .int y18_32)]) rfl ?_
                refine zr_lload hB 12 dX9_change_140 rfl ?_
                refine zr_iload hB 3 dX9_change_142 rfl ?_
                refine zr_if_lt hB dX9_change_144 (tgt := 160) rfl (fun c114 => ?_) (fun c114 => ?_)
                · exfalso; omega
                refine zr_iload hB 13 dX9_change_147 rfl ?_
                refine zr_iload hB 11 dX9_change_149 rfl ?_
                refine zr_icmp_lt hB dX9_change_151 (tgt := 160) rfl (fun c115 => ?_) (fun c115 => ?_)
                · refine zr_lconst hB dX9_change_160 (m := 0) rfl (fun c116 ec116 => ?_)
                  refine zr_laddw hB dX9_change_161 (fun l117 el117 => ?_)
                  refine zr_lstore hB dX9_change_162 (by decide) (lv' := [(16, .long l117), (14, .long l113), (12, .long l109), (10, .long l81), (19, .int r62), (0, .ref (zk K 0)), (1, .int p1), (2, .int p2), (3, .int p3), (4, .int y4_18), (5, .long y5_19), (7, .long y7_20), (9, .int y9_21), (18, .int y18_32)]) rfl ?_
                  refine zr_iinc hB 13 dX9_change_164 rfl (by decide) rfl (by omega) (by omega) (fun x118 ex118 lv' hlv => ?_)
                  obtain rfl : [(18, .int x118), (16, .long l117), (14, .long l113), (12, .long l109), (10, .long l81), (19, .int r62), (0, .ref (zk K 0)), (1, .int p1), (2, .int p2), (3, .int p3), (4, .int y4_18), (5, .long y5_19), (7, .long y7_20), (9, .int y9_21)] = lv' := hlv
                  refine zr_goto hB dX9_change_167 (tgt := 53) rfl ?_
                  exact zc_sub [6, 7, 8, 9, 10, 11, 12, 13, 4, 3, 2, 1, 0] rfl (ih53 l81 l109 l113 l117 x118 (by omega) (by omega) (by omega))
                refine zr_iload hB 3 dX9_change_154 rfl ?_
                refine zr_i2l hB dX9_change_156 (fun l119 el119 => ?_)
                refine zr_goto hB dX9_change_157 (tgt := 161) rfl ?_
                refine zr_laddw hB dX9_change_161 (fun l120 el120 => ?_)
                refine zr_lstore hB dX9_change_162 (by decide) (lv' := [(16, .long l120), (14, .long l113), (12, .long l109), (10, .long l81), (19, .int r62), (0, .ref (zk K 0)), (1, .int p1), (2, .int p2), (3, .int p3), (4, .int y4_18), (5, .long y5_19), (7, .long y7_20), (9, .int y9_21), (18, .int y18_32)]) rfl ?_
                refine zr_iinc hB 13 dX9_change_164 rfl (by decide) rfl (by omega) (by omega) (fun x121 ex121 lv' hlv => ?_)
                obtain rfl : [(18, .int x121), (16, .long l120), (14, .long l113), (12, .long l109), (10, .long l81), (19, .int r62), (0, .ref (zk K 0)), (1, .int p1), (2, .int p2), (3, .int p3), (4, .int y4_18), (5, .long y5_19), (7, .long y7_20), (9, .int y9_21)] = lv' := hlv
                refine zr_goto hB dX9_change_167 (tgt := 53) rfl ?_
                exact zc_sub [6, 7, 8, 9, 10, 11, 12, 13, 4, 3, 2, 1, 0] rfl (ih53 l81 l109 l113 l120 x121 (by omega) (by omega) (by omega))
              refine zr_iload hB 2 dX9_change_130 rfl ?_
              refine zr_i2l hB dX9_change_132 (fun l122 el122 => ?_)
              refine zr_goto hB dX9_change_133 (tgt := 137) rfl ?_
              refine zr_laddw hB dX9_change_137 (fun l123 el123 => ?_)
              refine zr_lstore hB dX9_change_138 (by decide) (lv' := [(14, .long l123), (12, .long l109), (10, .long l81), (19, .int r62), (0, .ref (zk K 0)), (1, .int p1), (2, .int p2), (3, .int p3), (4, .int y4_18), (5, .long y5_19), (7, .long y7_20), (9, .int y9_21), (16, .long y16_31), (18, .int y18_32)]) rfl ?_
              refine zr_lload hB 12 dX9_change_140 rfl ?_
              refine zr_iload hB 3 dX9_change_142 rfl ?_
              refine zr_if_lt hB dX9_change_144 (tgt := 160) rfl (fun c124 => ?_) (fun c124 => ?_)
              · exfalso; omega
              refine zr_iload hB 13 dX9_change_147 rfl ?_
              refine zr_iload hB 11 dX9_change_149 rfl ?_
              refine zr_icmp_lt hB dX9_change_151 (tgt := 160) rfl (fun c125 => ?_) (fun c125 => ?_)
              · refine zr_lconst hB dX9_change_160 (m := 0) rfl (fun c126 ec126 => ?_)
                refine zr_laddw hB dX9_change_161 (fun l127 el127 => ?_)
                refine zr_lstore hB dX9_change_162 (by decide) (lv' := [(16, .long l127), (14, .long l123), (12, .long l109), (10, .long l81), (19, .int r62), (0, .ref (zk K 0)), (1, .int p1), (2, .int p2), (3, .int p3), (4, .int y4_18), (5, .long y5_19), (7, .long y7_20), (9, .int y9_21), (18, .int y18_32)]) rfl ?_
                refine zr_iinc hB 13 dX9_change_164 rfl (by decide) rfl (by omega) (by omega) (fun x128 ex128 lv' hlv => ?_)
                obtain rfl : [(18, .int x128), (16, .long l127), (14, .long l123), (12, .long l109), (10, .long l81), (19, .int r62), (0, .ref (zk K 0)), (1, .int p1), (2, .int p2), (3, .int p3), (4, .int y4_18), (5, .long y5_19), (7, .long y7_20), (9, .int y9_21)] = lv' := hlv
                refine zr_goto hB dX9_change_167 (tgt := 53) rfl ?_
                exact zc_sub [6, 7, 8, 9, 10, 11, 12, 13, 4, 3, 2, 1, 0] rfl (ih53 l81 l109 l123 l127 x128 (by omega) (by omega) (by omega))
              refine zr_iload hB 3 dX9_change_154 rfl ?_
              refine zr_i2l hB dX9_change_156 (fun l129 el129 => ?_)
              refine zr_goto hB dX9_change_157 (tgt := 161) rfl ?_
              refine zr_laddw hB dX9_change_161 (fun l130 el130 => ?_)
              refine zr_lstore hB dX9_change_162 (by decide) (lv' := [(16, .long l130), (14, .long l123), (12, .long l109), (10, .long l81), (19, .int r62), (0, .ref (zk K 0)), (1, .int p1), (2, .int p2), (3, .int p3), (4, .int y4_18), (5, .long y5_19), (7, .long y7_20), (9, .int y9_21), (18, .int y18_32)]) rfl ?_
              refine zr_iinc hB 13 dX9_change_164 rfl (by decide) rfl (by omega) (by omega) (fun x131 ex131 lv' hlv => ?_)
              obtain rfl : [(18, .int x131), (16, .long l130), (14, .long l123), (12, .long l109), (10, .long l81), (19, .int r62), (0, .ref (zk K 0)), (1, .int p1), (2, .int p2), (3, .int p3), (4, .int y4_18), (5, .long y5_19), (7, .long y7_20), (9, .int y9_21)] = lv' := hlv
              refine zr_goto hB dX9_change_167 (tgt := 53) rfl ?_
              exact zc_sub [6, 7, 8, 9, 10, 11, 12, 13, 4, 3, 2, 1, 0] rfl (ih53 l81 l109 l123 l130 x131 (by omega) (by omega) (by omega))
            refine zr_lconst hB dX9_change_86 (m := 1) rfl (fun c132 ec132 => ?_)
            refine zr_goto hB dX9_change_87 (tgt := 91) rfl ?_
            refine zr_laddw hB dX9_change_91 (fun l133 el133 => ?_)
            refine zr_lstore hB dX9_change_92 (by decide) (lv' := [(10, .long l133), (19, .int r62), (0, .ref (zk K 0)), (1, .int p1), (2, .int p2), (3, .int p3), (4, .int y4_18), (5, .long y5_19), (7, .long y7_20), (9, .int y9_21), (12, .long y12_29), (14, .long y14_30), (16, .long y16_31), (18, .int y18_32)]) rfl ?_
            refine zr_lload hB 10 dX9_change_94 rfl ?_
            refine zr_iload hB 1 dX9_change_96 rfl ?_
            refine zr_if_lt hB dX9_change_98 (tgt := 112) rfl (fun c134 => ?_) (fun c134 => ?_)
            · exfalso; omega
            refine zr_iload hB 13 dX9_change_101 rfl ?_
            refine zr_iload hB 9 dX9_change_103 rfl ?_
            refine zr_icmp_lt hB dX9_change_105 (tgt := 112) rfl (fun c135 => ?_) (fun c135 => ?_)
            · refine zr_lconst hB dX9_change_112 (m := 0) rfl (fun c136 ec136 => ?_)
              refine zr_laddw hB dX9_change_113 (fun l137 el137 => ?_)
              refine zr_lstore hB dX9_change_114 (by decide) (lv' := [(12, .long l137), (10, .long l133), (19, .int r62), (0, .ref (zk K 0)), (1, .int p1), (2, .int p2), (3, .int p3), (4, .int y4_18), (5, .long y5_19), (7, .long y7_20), (9, .int y9_21), (14, .long y14_30), (16, .long y16_31), (18, .int y18_32)]) rfl ?_
              refine zr_lload hB 11 dX9_change_116 rfl ?_
              refine zr_iload hB 2 dX9_change_118 rfl ?_
              refine zr_if_lt hB dX9_change_120 (tgt := 136) rfl (fun c138 => ?_) (fun c138 => ?_)
              · exfalso; omega
              refine zr_iload hB 13 dX9_change_123 rfl ?_
              refine zr_iload hB 10 dX9_change_125 rfl ?_
              refine zr_icmp_ge hB dX9_change_127 (tgt := 136) rfl (fun c139 => ?_) (fun c139 => ?_)
              · refine zr_lconst hB dX9_change_136 (m := 0) rfl (fun c140 ec140 => ?_)
                refine zr_laddw hB dX9_change_137 (fun l141 el141 => ?_)
                refine zr_lstore hB dX9_change_138 (by decide) (lv' := [(14, .long l141), (12, .long l137), (10, .long l133), (19, .int r62), (0, .ref (zk K 0)), (1, .int p1), (2, .int p2), (3, .int p3), (4, .int y4_18), (5, .long y5_19), (7, .long y7_20), (9, .int y9_21), (16, .long y16_31), (18, .int y18_32)]) rfl ?_
                refine zr_lload hB 12 dX9_change_140 rfl ?_
                refine zr_iload hB 3 dX9_change_142 rfl ?_
                refine zr_if_lt hB dX9_change_144 (tgt := 160) rfl (fun c142 => ?_) (fun c142 => ?_)
                · exfalso; omega
                refine zr_iload hB 13 dX9_change_147 rfl ?_
                refine zr_iload hB 11 dX9_change_149 rfl ?_
                refine zr_icmp_lt hB dX9_change_151 (tgt := 160) rfl (fun c143 => ?_) (fun c143 => ?_)
                · refine zr_lconst hB dX9_change_160 (m := 0) rfl (fun c144 ec144 => ?_)
                  refine zr_laddw hB dX9_change_161 (fun l145 el145 => ?_)
                  refine zr_lstore hB dX9_change_162 (by decide) (lv' := [(16, .long l145), (14, .long l141), (12, .long l137), (10, .long l133), (19, .int r62), (0, .ref (zk K 0)), (1, .int p1), (2, .int p2), (3, .int p3), (4, .int y4_18), (5, .long y5_19), (7, .long y7_20), (9, .int y9_21), (18, .int y18_32)]) rfl ?_
                  refine zr_iinc hB 13 dX9_change_164 rfl (by decide) rfl (by omega) (by omega) (fun x146 ex146 lv' hlv => ?_)
                  obtain rfl : [(18, .int x146), (16, .long l145), (14, .long l141), (12, .long l137), (10, .long l133), (19, .int r62), (0, .ref (zk K 0)), (1, .int p1), (2, .int p2), (3, .int p3), (4, .int y4_18), (5, .long y5_19), (7, .long y7_20), (9, .int y9_21)] = lv' := hlv
                  refine zr_goto hB dX9_change_167 (tgt := 53) rfl ?_
                  exact zc_sub [6, 7, 8, 9, 10, 11, 12, 13, 4, 3, 2, 1, 0] rfl (ih53 l133 l137 l141 l145 x146 (by omega) (by omega) (by omega))
                refine zr_iload hB 3 dX9_change_154 rfl ?_
                refine zr_i2l hB dX9_change_156 (fun l147 el147 => ?_)
                refine zr_goto hB dX9_change_157 (tgt := 161) rfl ?_
                refine zr_laddw hB dX9_change_161 (fun l148 el148 => ?_)
                refine zr_lstore hB dX9_change_162 (by decide) (lv' := [(16, .long l148), (14, .long l141), (12, .long l137), (10, .long l133), (19, .int r62), (0, .ref (zk K 0)), (1, .int p1), (2, .int p2), (3, .int p3), (4, .int y4_18), (5, .long y5_19), (7, .long y7_20), (9, .int y9_21), (18, .int y18_32)]) rfl ?_
                refine zr_iinc hB 13 dX9_change_164 rfl (by decide) rfl (by omega) (by omega) (fun x149 ex149 lv' hlv => ?_)
                obtain rfl : [(18, .int x149), (16, .long l148), (14, .long l141), (12, .long l137), (10, .long l133), (19, .int r62), (0, .ref (zk K 0)), (1, .int p1), (2, .int p2), (3, .int p3), (4, .int y4_18), (5, .long y5_19), (7, .long y7_20), (9, .int y9_21)] = lv' := hlv
                refine zr_goto hB dX9_change_167 (tgt := 53) rfl ?_
                exact zc_sub [6, 7, 8, 9, 10, 11, 12, 13, 4, 3, 2, 1, 0] rfl (ih53 l133 l137 l141 l148 x149 (by omega) (by omega) (by omega))
              refine zr_iload hB 2 dX9_change_130 rfl ?_
              refine zr_i2l hB dX9_change_132 (fun l150 el150 => ?_)
              refine zr_goto hB dX9_change_133 (tgt := 137) rfl ?_
              refine zr_laddw hB dX9_change_137 (fun l151 el151 => ?_)
              refine zr_lstore hB dX9_change_138 (by decide) (lv' := [(14, .long l151), (12, .long l137), (10, .long l133), (19, .int r62), (0, .ref (zk K 0)), (1, .int p1), (2, .int p2), (3, .int p3), (4, .int y4_18), (5, .long y5_19), (7, .long y7_20), (9, .int y9_21), (16, .long y16_31), (18, .int y18_32)]) rfl ?_
              refine zr_lload hB 12 dX9_change_140 rfl ?_
              refine zr_iload hB 3 dX9_change_142 rfl ?_
              refine zr_if_lt hB dX9_change_144 (tgt := 160) rfl (fun c152 => ?_) (fun c152 => ?_)
              · exfalso; omega
              refine zr_iload hB 13 dX9_change_147 rfl ?_
              refine zr_iload hB 11 dX9_change_149 rfl ?_
              refine zr_icmp_lt hB dX9_change_151 (tgt := 160) rfl (fun c153 => ?_) (fun c153 => ?_)
              · refine zr_lconst hB dX9_change_160 (m := 0) rfl (fun c154 ec154 => ?_)
                refine zr_laddw hB dX9_change_161 (fun l155 el155 => ?_)
                refine zr_lstore hB dX9_change_162 (by decide) (lv' := [(16, .long l155), (14, .long l151), (12, .long l137), (10, .long l133), (19, .int r62), (0, .ref (zk K 0)), (1, .int p1), (2, .int p2), (3, .int p3), (4, .int y4_18), (5, .long y5_19), (7, .long y7_20), (9, .int y9_21), (18, .int y18_32)]) rfl ?_
                refine zr_iinc hB 13 dX9_change_164 rfl (by decide) rfl (by omega) (by omega) (fun x156 ex156 lv' hlv => ?_)
                obtain rfl : [(18, .int x156), (16, .long l155), (14, .long l151), (12, .long l137), (10, .long l133), (19, .int r62), (0, .ref (zk K 0)), (1, .int p1), (2, .int p2), (3, .int p3), (4, .int y4_18), (5, .long y5_19), (7, .long y7_20), (9, .int y9_21)] = lv' := hlv
                refine zr_goto hB dX9_change_167 (tgt := 53) rfl ?_
                exact zc_sub [6, 7, 8, 9, 10, 11, 12, 13, 4, 3, 2, 1, 0] rfl (ih53 l133 l137 l151 l155 x156 (by omega) (by omega) (by omega))
              refine zr_iload hB 3 dX9_change_154 rfl ?_
              refine zr_i2l hB dX9_change_156 (fun l157 el157 => ?_)
              refine zr_goto hB dX9_change_157 (tgt := 161) rfl ?_
              refine zr_laddw hB dX9_change_161 (fun l158 el158 => ?_)
              refine zr_lstore hB dX9_change_162 (by decide) (lv' := [(16, .long l158), (14, .long l151), (12, .long l137), (10, .long l133), (19, .int r62), (0, .ref (zk K 0)), (1, .int p1), (2, .int p2), (3, .int p3), (4, .int y4_18), (5, .long y5_19), (7, .long y7_20), (9, .int y9_21), (18, .int y18_32)]) rfl ?_
              refine zr_iinc hB 13 dX9_change_164 rfl (by decide) rfl (by omega) (by omega) (fun x159 ex159 lv' hlv => ?_)
              obtain rfl : [(18, .int x159), (16, .long l158), (14, .long l151), (12, .long l137), (10, .long l133), (19, .int r62), (0, .ref (zk K 0)), (1, .int p1), (2, .int p2), (3, .int p3), (4, .int y4_18), (5, .long y5_19), (7, .long y7_20), (9, .int y9_21)] = lv' := hlv
              refine zr_goto hB dX9_change_167 (tgt := 53) rfl ?_
              exact zc_sub [6, 7, 8, 9, 10, 11, 12, 13, 4, 3, 2, 1, 0] rfl (ih53 l133 l137 l151 l158 x159 (by omega) (by omega) (by omega))
            refine zr_lconst hB dX9_change_108 (m := 1) rfl (fun c160 ec160 => ?_)
            refine zr_goto hB dX9_change_109 (tgt := 113) rfl ?_
            refine zr_laddw hB dX9_change_113 (fun l161 el161 => ?_)
            refine zr_lstore hB dX9_change_114 (by decide) (lv' := [(12, .long l161), (10, .long l133), (19, .int r62), (0, .ref (zk K 0)), (1, .int p1), (2, .int p2), (3, .int p3), (4, .int y4_18), (5, .long y5_19), (7, .long y7_20), (9, .int y9_21), (14, .long y14_30), (16, .long y16_31), (18, .int y18_32)]) rfl ?_
            refine zr_lload hB 11 dX9_change_116 rfl ?_
            refine zr_iload hB 2 dX9_change_118 rfl ?_
            refine zr_if_lt hB dX9_change_120 (tgt := 136) rfl (fun c162 => ?_) (fun c162 => ?_)
            · exfalso; omega
            refine zr_iload hB 13 dX9_change_123 rfl ?_
            refine zr_iload hB 10 dX9_change_125 rfl ?_
            refine zr_icmp_ge hB dX9_change_127 (tgt := 136) rfl (fun c163 => ?_) (fun c163 => ?_)
            · refine zr_lconst hB dX9_change_136 (m := 0) rfl (fun c164 ec164 => ?_)
              refine zr_laddw hB dX9_change_137 (fun l165 el165 => ?_)
              refine zr_lstore hB dX9_change_138 (by decide) (lv' := [(14, .long l165), (12, .long l161), (10, .long l133), (19, .int r62), (0, .ref (zk K 0)), (1, .int p1), (2, .int p2), (3, .int p3), (4, .int y4_18), (5, .long y5_19), (7, .long y7_20), (9, .int y9_21), (16, .long y16_31), (18, .int y18_32)]) rfl ?_
              refine zr_lload hB 12 dX9_change_140 rfl ?_
              refine zr_iload hB 3 dX9_change_142 rfl ?_
              refine zr_if_lt hB dX9_change_144 (tgt := 160) rfl (fun c166 => ?_) (fun c166 => ?_)
              · exfalso; omega
              refine zr_iload hB 13 dX9_change_147 rfl ?_
              refine zr_iload hB 11 dX9_change_149 rfl ?_
              refine zr_icmp_lt hB dX9_change_151 (tgt := 160) rfl (fun c167 => ?_) (fun c167 => ?_)
              · refine zr_lconst hB dX9_change_160 (m := 0) rfl (fun c168 ec168 => ?_)
                refine zr_laddw hB dX9_change_161 (fun l169 el169 => ?_)
                refine zr_lstore hB dX9_change_162 (by decide) (lv' := [(16, .long l169), (14, .long l165), (12, .long l161), (10, .long l133), (19, .int r62), (0, .ref (zk K 0)), (1, .int p1), (2, .int p2), (3, .int p3), (4, .int y4_18), (5, .long y5_19), (7, .long y7_20), (9, .int y9_21), (18, .int y18_32)]) rfl ?_
                refine zr_iinc hB 13 dX9_change_164 rfl (by decide) rfl (by omega) (by omega) (fun x170 ex170 lv' hlv => ?_)
                obtain rfl : [(18, .int x170), (16, .long l169), (14, .long l165), (12, .long l161), (10, .long l133), (19, .int r62), (0, .ref (zk K 0)), (1, .int p1), (2, .int p2), (3, .int p3), (4, .int y4_18), (5, .long y5_19), (7, .long y7_20), (9, .int y9_21)] = lv' := hlv
                refine zr_goto hB dX9_change_167 (tgt := 53) rfl ?_
                exact zc_sub [6, 7, 8, 9, 10, 11, 12, 13, 4, 3, 2, 1, 0] rfl (ih53 l133 l161 l165 l169 x170 (by omega) (by omega) (by omega))
              refine zr_iload hB 3 dX9_change_154 rfl ?_
              refine zr_i2l hB dX9_change_156 (fun l171 el171 => ?_)
              refine zr_goto hB dX9_change_157 (tgt := 161) rfl ?_
              refine zr_laddw hB dX9_change_161 (fun l172 el172 => ?_)
              refine zr_lstore hB dX9_change_162 (by decide) (lv' := [(16, .long l172), (14, .long l165), (12, .long l161), (10, .long l133), (19, .int r62), (0, .ref (zk K 0)), (1, .int p1), (2, .int p2), (3, .int p3), (4, .int y4_18), (5, .long y5_19), (7, .long y7_20), (9, .int y9_21), (18, .int y18_32)]) rfl ?_
              refine zr_iinc hB 13 dX9_change_164 rfl (by decide) rfl (by omega) (by omega) (fun x173 ex173 lv' hlv => ?_)
              obtain rfl : [(18, .int x173), (16, .long l172), (14, .long l165), (12, .long l161), (10, .long l133), (19, .int r62), (0, .ref (zk K 0)), (1, .int p1), (2, .int p2), (3, .int p3), (4, .int y4_18), (5, .long y5_19), (7, .long y7_20), (9, .int y9_21)] = lv' := hlv
              refine zr_goto hB dX9_change_167 (tgt := 53) rfl ?_
              exact zc_sub [6, 7, 8, 9, 10, 11, 12, 13, 4, 3, 2, 1, 0] rfl (ih53 l133 l161 l165 l172 x173 (by omega) (by omega) (by omega))
            refine zr_iload hB 2 dX9_change_130 rfl ?_
            refine zr_i2l hB dX9_change_132 (fun l174 el174 => ?_)
            refine zr_goto hB dX9_change_133 (tgt := 137) rfl ?_
            refine zr_laddw hB dX9_change_137 (fun l175 el175 => ?_)
            refine zr_lstore hB dX9_change_138 (by decide) (lv' := [(14, .long l175), (12, .long l161), (10, .long l133), (19, .int r62), (0, .ref (zk K 0)), (1, .int p1), (2, .int p2), (3, .int p3), (4, .int y4_18), (5, .long y5_19), (7, .long y7_20), (9, .int y9_21), (16, .long y16_31), (18, .int y18_32)]) rfl ?_
            refine zr_lload hB 12 dX9_change_140 rfl ?_
            refine zr_iload hB 3 dX9_change_142 rfl ?_
            refine zr_if_lt hB dX9_change_144 (tgt := 160) rfl (fun c176 => ?_) (fun c176 => ?_)
            · exfalso; omega
            refine zr_iload hB 13 dX9_change_147 rfl ?_
            refine zr_iload hB 11 dX9_change_149 rfl ?_
            refine zr_icmp_lt hB dX9_change_151 (tgt := 160) rfl (fun c177 => ?_) (fun c177 => ?_)
            · refine zr_lconst hB dX9_change_160 (m := 0) rfl (fun c178 ec178 => ?_)
              refine zr_laddw hB dX9_change_161 (fun l179 el179 => ?_)
              refine zr_lstore hB dX9_change_162 (by decide) (lv' := [(16, .long l179), (14, .long l175), (12, .long l161), (10, .long l133), (19, .int r62), (0, .ref (zk K 0)), (1, .int p1), (2, .int p2), (3, .int p3), (4, .int y4_18), (5, .long y5_19), (7, .long y7_20), (9, .int y9_21), (18, .int y18_32)]) rfl ?_
              refine zr_iinc hB 13 dX9_change_164 rfl (by decide) rfl (by omega) (by omega) (fun x180 ex180 lv' hlv => ?_)
              obtain rfl : [(18, .int x180), (16, .long l179), (14, .long l175), (12, .long l161), (10, .long l133), (19, .int r62), (0, .ref (zk K 0)), (1, .int p1), (2, .int p2), (3, .int p3), (4, .int y4_18), (5, .long y5_19), (7, .long y7_20), (9, .int y9_21)] = lv' := hlv
              refine zr_goto hB dX9_change_167 (tgt := 53) rfl ?_
              exact zc_sub [6, 7, 8, 9, 10, 11, 12, 13, 4, 3, 2, 1, 0] rfl (ih53 l133 l161 l175 l179 x180 (by omega) (by omega) (by omega))
            refine zr_iload hB 3 dX9_change_154 rfl ?_
            refine zr_i2l hB dX9_change_156 (fun l181 el181 => ?_)
            refine zr_goto hB dX9_change_157 (tgt := 161) rfl ?_
            refine zr_laddw hB dX9_change_161 (fun l182 el182 => ?_)
            refine zr_lstore hB dX9_change_162 (by decide) (lv' := [(16, .long l182), (14, .long l175), (12, .long l161), (10, .long l133), (19, .int r62), (0, .ref (zk K 0)), (1, .int p1), (2, .int p2), (3, .int p3), (4, .int y4_18), (5, .long y5_19), (7, .long y7_20), (9, .int y9_21), (18, .int y18_32)]) rfl ?_
            refine zr_iinc hB 13 dX9_change_164 rfl (by decide) rfl (by omega) (by omega) (fun x183 ex183 lv' hlv => ?_)
            obtain rfl : [(18, .int x183), (16, .long l182), (14, .long l175), (12, .long l161), (10, .long l133), (19, .int r62), (0, .ref (zk K 0)), (1, .int p1), (2, .int p2), (3, .int p3), (4, .int y4_18), (5, .long y5_19), (7, .long y7_20), (9, .int y9_21)] = lv' := hlv
            refine zr_goto hB dX9_change_167 (tgt := 53) rfl ?_
            exact zc_sub [6, 7, 8, 9, 10, 11, 12, 13, 4, 3, 2, 1, 0] rfl (ih53 l133 l161 l175 l182 x183 (by omega) (by omega) (by omega))
        exact zc_sub [5, 6, 7, 8, 9, 10, 11, 12, 4, 3, 2, 1, 0] rfl (L53_33 66 c24 c25 c26 c27 p2 (by omega) (by omega) (by omega))
    exact zc_sub [4, 5, 6, 7, 3, 2, 1, 0] rfl (L32_22 65 c13 c14 c15 x17 (by omega) (by omega) (by omega) (by omega) (by omega))
  have q184 := r8q.f c11
  refine zr_iconst hB dX9_change_15 rfl (fun c185 ec185 => ?_)
  exact zr_iret hG dX9_change_16 rfl

def m_M_note : zc_ms := [(0, some 28), (17, none), (18, none), (19, none), (20, none), (21, none), (22, none), (23, none)]
set_option maxHeartbeats 1000000 in
set_option maxRecDepth 100000 in
theorem c_M_note (K : zc_K) (hi : zc_inj shM K.2.2.2.1) (σ0 : zc_S) (p1 : Int32) (p2 : Int32) (p3 : Int32) (p4 : Int32) (hO0 : zc_O okM σ0) (hT : zm_T σ0) : zc_M shM K yX9_note cX9_note 6 (some .int) (zrm 8 208) σ0 [.ref (zk K 0), .int p1, .int p2, .int p3, .int p4] (zc_I (fun r9 σ9 => zc_O okM σ9 ∧ zc_Ag m_M_note σ0 σ9 ∧ zp_nX (0 ≤ p1.toInt ∧ p1.toInt ≤ 3 ∧ 0 ≤ p2.toInt ∧ p2.toInt < (σ0.1 0 17).toInt ∧ 1 ≤ p3.toInt ∧ p3.toInt ≤ 14 ∧ 0 ≤ p4.toInt ∧ p4.toInt ≤ 999) (σ0.1 0 28).toInt r9.toInt (zp_B (zy_A σ0) (zp_f 2 σ0) p1.toInt (zw_TM σ0) p3.toInt p2.toInt.toNat (σ0.1 0 1).toInt) (σ9 = σ0) (zp_aM σ0 σ9 p1.toInt ((σ0.1 0 1).toInt + p3.toInt)))) := by
  refine zc_start RX9 hi pfX9_note rfl (Nat.le_of_ble_eq_true rfl) ?_
  intro G hG
  have hB := hG.1
  have hA0 : zc_Ag m_M_note σ0 σ0 := zc_Ag.rf
  show zc_V 6 K G (zc_D shM K G σ0) [(0, .ref (zk K 0)), (1, .int p1), (2, .int p2), (3, .int p3), (4, .int p4)] 0 []
  have bw0_17 : 0 ≤ (σ0.1 0 17).toInt ∧ (σ0.1 0 17).toInt ≤ 6 := ⟨(hO0 0 17).1, (hO0 0 17).2.1⟩
  have bw0_28 : 0 ≤ (σ0.1 0 28).toInt ∧ (σ0.1 0 28).toInt ≤ 24 := ⟨(hO0 0 28).1, (hO0 0 28).2.1⟩
  have bw0_1 : 0 ≤ (σ0.1 0 1).toInt ∧ (σ0.1 0 1).toInt ≤ 63 := ⟨(hO0 0 1).1, (hO0 0 1).2.1⟩
  refine zr_iload_n hB 1 dX9_note_0 rfl ?_
  refine zr_callsi hG (rest := []) dX9_note_1 wm_X9_108 (c_M_isShop K hG.2.2.2.2.2.1 σ0 p1 hO0 ) rfl rfl (Nat.le_of_ble_eq_true rfl) ⟨Nat.le_of_ble_eq_true rfl, Nat.le_of_ble_eq_true rfl, rfl, rfl⟩ (fun r1 σ2 h3 => ?_)
  obtain ⟨rfl, r1q⟩ := h3
  have r1z := r1q.b
  refine zr_if_eq hB dX9_note_4 (tgt := 35) rfl (fun c4 => ?_) (fun c4 => ?_)
  · have q5 := r1q.f c4
    refine zr_iconst hB dX9_note_35 rfl (fun c6 ec6 => ?_)
    exact zr_iret hG dX9_note_36 ⟨hO0, hA0, (by first | exact Or.inl ⟨by omega, by omega, rfl⟩ | exact Or.inr (Or.inl ⟨by omega, by omega, by omega, rfl⟩))⟩
  have q7 := r1q.t c4
  refine zr_aload_n hB 0 dX9_note_7 rfl ?_
  refine zr_iload_n hB 2 dX9_note_8 rfl ?_
  refine zr_callvi hG (rest := []) 0 dX9_note_9 wm_X9_184 rfl rfl (c_M_isTeller K hG.2.2.2.2.2.1 σ0 p2 hO0 ) rfl rfl (Nat.le_of_ble_eq_true rfl) ⟨Nat.le_of_ble_eq_true rfl, Nat.le_of_ble_eq_true rfl, rfl, rfl⟩ (fun r8 σ9 h10 => ?_)
  obtain ⟨rfl, r8q⟩ := h10
  have r8z := r8q.b
  refine zr_if_eq hB dX9_note_12 (tgt := 35) rfl (fun c11 => ?_) (fun c11 => ?_)
  · have q12 := r8q.f c11
    refine zr_iconst hB dX9_note_35 rfl (fun c13 ec13 => ?_)
    exact zr_iret hG dX9_note_36 ⟨hO0, hA0, (by first | exact Or.inl ⟨by omega, by omega, rfl⟩ | exact Or.inr (Or.inl ⟨by omega, by omega, by omega, rfl⟩))⟩
  have q14 := r8q.t c11
  refine zr_iload_n hB 3 dX9_note_15 rfl ?_
  refine zr_callsi hG (rest := []) dX9_note_16 wm_X9_219 (c_M_isAhead K hG.2.2.2.2.2.1 σ0 p3 hO0 ) rfl rfl (Nat.le_of_ble_eq_true rfl) ⟨Nat.le_of_ble_eq_true rfl, Nat.le_of_ble_eq_true rfl, rfl, rfl⟩ (fun r15 σ16 h17 => ?_)
  obtain ⟨rfl, r15q⟩ := h17
  have r15z := r15q.b
  refine zr_if_eq hB dX9_note_19 (tgt := 35) rfl (fun c18 => ?_) (fun c18 => ?_)
  · have q19 := r15q.f c18
    refine zr_iconst hB dX9_note_35 rfl (fun c20 ec20 => ?_)
    exact zr_iret hG dX9_note_36 ⟨hO0, hA0, (by first | exact Or.inl ⟨by omega, by omega, rfl⟩ | exact Or.inr (Or.inl ⟨by omega, by omega, by omega, rfl⟩))⟩
  have q21 := r15q.t c18
  refine zr_iload hB 4 dX9_note_22 rfl ?_
  have v23 := And.intro (zn_lo p4) (zn_hi p4)
  refine zr_i2l hB dX9_note_24 (fun l22 el22 => ?_)
  refine zr_lconst hB dX9_note_25 (m := 0) rfl (fun c24 ec24 => ?_)
  refine zr_ldc2 hB dX9_note_26 wc_X9_111 (n := 999) rfl (fun c25 ec25 => ?_)
  refine zr_callsi hG (rest := []) dX9_note_29 wm_X9_91 (c_M_in K hG.2.2.2.2.2.1 σ0 l22 c24 c25 hO0 ) rfl rfl (Nat.le_of_ble_eq_true rfl) ⟨Nat.le_of_ble_eq_true rfl, Nat.le_of_ble_eq_true rfl, rfl, rfl⟩ (fun r26 σ27 h28 => ?_)
  obtain ⟨rfl, r26q⟩ := h28
  have r26z := r26q.b
  refine zr_if_ne hB dX9_note_32 (tgt := 37) rfl (fun c29 => ?_) (fun c29 => ?_)
  · have q30 := r26q.t c29
    refine zr_aload_n hB 0 dX9_note_37 rfl ?_
    refine zr_geti' hG 0 28 (σ0.1 0 28) dX9_note_38 rfl wf_X9_271 rfl rfl ?_
    refine zr_bipush hB dX9_note_41 rfl (fun c31 ec31 => ?_)
    refine zr_icmp_ne hB dX9_note_43 (tgt := 49) rfl (fun c32 => ?_) (fun c32 => ?_)
    · refine zr_aload_n hB 0 dX9_note_49 rfl ?_
      refine zr_iload_n hB 2 dX9_note_50 rfl ?_
      refine zr_iload_n hB 1 dX9_note_51 rfl ?_
      refine zr_aload_n hB 0 dX9_note_52 rfl ?_
      refine zr_geti' hG 0 1 (σ0.1 0 1) dX9_note_53 rfl wf_X9_101 rfl rfl ?_
      refine zr_iload_n hB 3 dX9_note_56 rfl ?_
      refine zr_callvi hG (rest := []) 0 dX9_note_57 wm_X9_222 rfl rfl (c_M_tellBy K hG.2.2.2.2.2.1 σ0 p2 p1 (σ0.1 0 1) p3 hO0 (by omega) (by omega) (by omega) (by omega) (by omega) (by omega) (by omega) (by omega) (by omega) hT) rfl rfl (Nat.le_of_ble_eq_true rfl) ⟨Nat.le_of_ble_eq_true rfl, Nat.le_of_ble_eq_true rfl, rfl, rfl⟩ (fun r33 σ34 h35 => ?_)
      obtain ⟨rfl, r33a, r33b, g36⟩ := h35
      have hb : zp_q r33.toInt (zp_B (zy_A σ0) (zp_f 2 σ0) p1.toInt (zw_TM σ0) p3.toInt p2.toInt.toNat (σ0.1 0 1).toInt) := g36 (hT p2.toInt (by omega) (by omega))
      refine zr_istore hB dX9_note_60 (by decide) (lv' := [(5, .int r33), (0, .ref (zk K 0)), (1, .int p1), (2, .int p2), (3, .int p3), (4, .int p4)]) rfl ?_
      refine zr_iload hB 0 dX9_note_62 rfl ?_
      refine zr_if_ge hB dX9_note_64 (tgt := 70) rfl (fun c37 => ?_) (fun c37 => ?_)
      · refine zr_aload_n hB 1 dX9_note_70 rfl ?_
        refine zr_getr hG 0 29 dX9_note_71 rfl wf_X9_59 rfl ?_
        refine zr_aload_n hB 1 dX9_note_74 rfl ?_
        refine zr_geti' hG 0 28 (σ0.1 0 28) dX9_note_75 rfl wf_X9_271 rfl rfl ?_
        refine zr_iload_n hB 2 dX9_note_78 rfl ?_
        refine zr_iast hG 17 dX9_note_79 rfl (by omega) (by omega)  ?_
        have hOw38 := zc_O.u hO0 17 (σ0.1 0 28).toInt.toNat (v := p1) (show 0 ≤ p1.toInt by omega) (show p1.toInt ≤ 3 by omega) (Or.inr (show 0 ≤ p1.toInt by omega))
        have hAw38 := zc_Ag.u hA0 17 (σ0.1 0 28).toInt.toNat p1 rfl
        refine zr_aload_n hB 1 dX9_note_80 rfl ?_
        refine zr_getr hG 0 30 dX9_note_81 rfl wf_X9_62 rfl ?_
        refine zr_aload_n hB 1 dX9_note_84 rfl ?_
        refine zr_geti' hG 0 28 (σ0.1 0 28) dX9_note_85 rfl wf_X9_271 rfl rfl ?_
        refine zr_iload_n hB 3 dX9_note_88 rfl ?_
        refine zr_iast hG 18 dX9_note_89 rfl (by omega) (by omega)  ?_
        have hOw39 := zc_O.u hOw38 18 (σ0.1 0 28).toInt.toNat (v := p2) (show 0 ≤ p2.toInt by omega) (show p2.toInt ≤ 5 by omega) (Or.inr (show 0 ≤ p2.toInt by omega))
        have hAw39 := zc_Ag.u hAw38 18 (σ0.1 0 28).toInt.toNat p2 rfl
        refine zr_aload_n hB 1 dX9_note_90 rfl ?_
        refine zr_getr hG 0 31 dX9_note_91 rfl wf_X9_65 rfl ?_
        refine zr_aload_n hB 1 dX9_note_94 rfl ?_
        refine zr_geti' hG 0 28 (σ0.1 0 28) dX9_note_95 rfl wf_X9_271 rfl rfl ?_
        refine zr_aload_n hB 1 dX9_note_98 rfl ?_
        refine zr_geti' hG 0 1 (σ0.1 0 1) dX9_note_99 rfl wf_X9_101 rfl rfl ?_
        refine zr_iast hG 19 dX9_note_102 rfl (by omega) (by omega)  ?_
        have hOw40 := zc_O.u hOw39 19 (σ0.1 0 28).toInt.toNat (v := (σ0.1 0 1)) (show 0 ≤ (σ0.1 0 1).toInt by omega) (show (σ0.1 0 1).toInt ≤ 63 by omega) (Or.inr (show 0 ≤ (σ0.1 0 1).toInt by omega))
        have hAw40 := zc_Ag.u hAw39 19 (σ0.1 0 28).toInt.toNat (σ0.1 0 1) rfl
        refine zr_aload_n hB 1 dX9_note_103 rfl ?_
        refine zr_getr hG 0 32 dX9_note_104 rfl wf_X9_68 rfl ?_
        refine zr_aload_n hB 1 dX9_note_107 rfl ?_
        refine zr_geti' hG 0 28 (σ0.1 0 28) dX9_note_108 rfl wf_X9_271 rfl rfl ?_
        refine zr_aload_n hB 1 dX9_note_111 rfl ?_
        refine zr_geti' hG 0 1 (σ0.1 0 1) dX9_note_112 rfl wf_X9_101 rfl rfl ?_
        refine zr_iload_n hB 4 dX9_note_115 rfl ?_
        refine zr_iadd hB dX9_note_116 (by omega) (by omega) (fun x41 ex41 => ?_)
        refine zr_iast hG 20 dX9_note_117 rfl (by omega) (by omega)  ?_
        have hOw42 := zc_O.u hOw40 20 (σ0.1 0 28).toInt.toNat (v := x41) (show 0 ≤ x41.toInt by omega) (show x41.toInt ≤ 77 by omega) (Or.inr (show 0 ≤ x41.toInt by omega))
        have hAw42 := zc_Ag.u hAw40 20 (σ0.1 0 28).toInt.toNat x41 rfl
        refine zr_aload_n hB 1 dX9_note_118 rfl ?_
        refine zr_getr hG 0 33 dX9_note_119 rfl wf_X9_71 rfl ?_
        refine zr_aload_n hB 1 dX9_note_122 rfl ?_
        refine zr_geti' hG 0 28 (σ0.1 0 28) dX9_note_123 rfl wf_X9_271 rfl rfl ?_
        refine zr_iload hB 0 dX9_note_126 rfl ?_
        refine zr_iast hG 21 dX9_note_128 rfl (by omega) (by omega)  ?_
        have hOw43 := zc_O.u hOw42 21 (σ0.1 0 28).toInt.toNat (v := r33) (show 0 ≤ r33.toInt by omega) (show r33.toInt ≤ 999 by omega) (Or.inr (show 0 ≤ r33.toInt by omega))
        have hAw43 := zc_Ag.u hAw42 21 (σ0.1 0 28).toInt.toNat r33 rfl
        refine zr_aload_n hB 1 dX9_note_129 rfl ?_
        refine zr_getr hG 0 34 dX9_note_130 rfl wf_X9_74 rfl ?_
        refine zr_aload_n hB 1 dX9_note_133 rfl ?_
        refine zr_geti' hG 0 28 (σ0.1 0 28) dX9_note_134 rfl wf_X9_271 rfl rfl ?_
        refine zr_iload hB 5 dX9_note_137 rfl ?_
        refine zr_iast hG 22 dX9_note_139 rfl (by omega) (by omega)  ?_
        have hOw44 := zc_O.u hOw43 22 (σ0.1 0 28).toInt.toNat (v := p4) (show 0 ≤ p4.toInt by omega) (show p4.toInt ≤ 999 by omega) (Or.inr (show 0 ≤ p4.toInt by omega))
        have hAw44 := zc_Ag.u hAw43 22 (σ0.1 0 28).toInt.toNat p4 rfl
        refine zr_aload_n hB 1 dX9_note_140 rfl ?_
        refine zr_getr hG 0 35 dX9_note_141 rfl wf_X9_77 rfl ?_
        refine zr_aload_n hB 1 dX9_note_144 rfl ?_
        refine zr_geti' hG 0 28 (σ0.1 0 28) dX9_note_145 rfl wf_X9_271 rfl rfl ?_
        refine zr_iconst hB dX9_note_148 rfl (fun c45 ec45 => ?_)
        refine zr_iast hG 23 dX9_note_149 rfl (by omega) (by omega)  ?_
        have hOw46 := zc_O.u hOw44 23 (σ0.1 0 28).toInt.toNat (v := c45) (show 0 ≤ c45.toInt by omega) (show c45.toInt ≤ 1 by omega) (Or.inr (show 0 ≤ c45.toInt by omega))
        have hAw46 := zc_Ag.u hAw44 23 (σ0.1 0 28).toInt.toNat c45 rfl
        refine zr_aload_n hB 1 dX9_note_150 rfl ?_
        refine zr_dup hB dX9_note_151 rfl ?_
        refine zr_geti' hG 0 28 (σ0.1 0 28) dX9_note_152 rfl wf_X9_271 rfl rfl ?_
        refine zr_iconst hB dX9_note_155 rfl (fun c47 ec47 => ?_)
        refine zr_iadd hB dX9_note_156 (by omega) (by omega) (fun x48 ex48 => ?_)
        refine zr_puti hG 0 28 dX9_note_157 rfl wp_X9_271 rfl ?_
        have hOw49 := zc_O.u hOw46 0 28 (v := x48) (show 0 ≤ x48.toInt by omega) (show x48.toInt ≤ 24 by omega) (Or.inr (show 0 ≤ x48.toInt by omega))
        have hAw49 := zc_Ag.u hAw46 0 28 x48 rfl
        have hadd : zp_aM σ0 (zc_u (zc_u (zc_u (zc_u (zc_u (zc_u (zc_u (zc_u σ0 17 (σ0.1 0 28).toInt.toNat p1) 18 (σ0.1 0 28).toInt.toNat p2) 19 (σ0.1 0 28).toInt.toNat (σ0.1 0 1)) 20 (σ0.1 0 28).toInt.toNat x41) 21 (σ0.1 0 28).toInt.toNat r33) 22 (σ0.1 0 28).toInt.toNat p4) 23 (σ0.1 0 28).toInt.toNat c45) 0 28 x48) p1.toInt ((σ0.1 0 1).toInt + p3.toInt) := by rw [show (σ0.1 0 1).toInt + p3.toInt = x41.toInt by omega]; exact zp_addM (by omega) (by omega) (by omega)
        refine zr_aload_n hB 1 dX9_note_160 rfl ?_
        refine zr_geti' hG 0 28 x48 dX9_note_161 rfl wf_X9_271 rfl rfl ?_
        refine zr_iconst hB dX9_note_164 rfl (fun c50 ec50 => ?_)
        refine zr_isub hB dX9_note_165 (by omega) (by omega) (fun x51 ex51 => ?_)
        exact zr_iret hG dX9_note_166 ⟨hOw49, hAw49, (Or.inr (Or.inr (Or.inr ⟨by omega, by omega, by omega, hb.is.mp (by omega), hadd⟩)))⟩
      refine zr_bipush hB dX9_note_67 rfl (fun c52 ec52 => ?_)
      exact zr_iret hG dX9_note_69 ⟨hO0, hA0, (Or.inr (Or.inr (Or.inl ⟨by omega, by omega, by omega, (fun h9 => absurd (hb.is.mpr h9) (by omega)), rfl⟩)))⟩
    refine zr_bipush hB dX9_note_46 rfl (fun c53 ec53 => ?_)
    exact zr_iret hG dX9_note_48 ⟨hO0, hA0, (by first | exact Or.inl ⟨by omega, by omega, rfl⟩ | exact Or.inr (Or.inl ⟨by omega, by omega, by omega, rfl⟩))⟩
  have q54 := r26q.f c29
  refine zr_iconst hB dX9_note_35 rfl (fun c55 ec55 => ?_)
  exact zr_iret hG dX9_note_36 ⟨hO0, hA0, (by first | exact Or.inl ⟨by omega, by omega, rfl⟩ | exact Or.inr (Or.inl ⟨by omega, by omega, by omega, rfl⟩))⟩

set_option maxHeartbeats 1000000 in
set_option maxRecDepth 100000 in
theorem c_M_cameTo (K : zc_K) (hi : zc_inj shM K.2.2.2.1) (σ0 : zc_S) (p1 : Int32) (hO0 : zc_O okM σ0) (h1a : 0 ≤ p1.toInt) (h1b : p1.toInt ≤ 23) : zc_M shM K yX9_cameTo cX9_cameTo 2 (some .int) (zrm 3 68) σ0 [.ref (zk K 0), .int p1] (zc_I (fun r9 σ9 => σ0 = σ9 ∧ (-4) ≤ r9.toInt ∧ r9.toInt ≤ 999 ∧ zp_o r9.toInt (zp_cm σ0 p1.toInt.toNat))) := by
  refine zc_start RX9 hi pfX9_cameTo rfl (Nat.le_of_ble_eq_true rfl) ?_
  intro G hG
  have hB := hG.1
  show zc_V 2 K G (zc_D shM K G σ0) [(0, .ref (zk K 0)), (1, .int p1)] 0 []
  have bw0_1 : 0 ≤ (σ0.1 0 1).toInt ∧ (σ0.1 0 1).toInt ≤ 63 := ⟨(hO0 0 1).1, (hO0 0 1).2.1⟩
  refine zr_aload_n hB 0 dX9_cameTo_0 rfl ?_
  refine zr_aload_n hB 0 dX9_cameTo_1 rfl ?_
  refine zr_getr hG 0 29 dX9_cameTo_2 rfl wf_X9_59 rfl ?_
  refine zr_iload_n hB 1 dX9_cameTo_5 rfl ?_
  refine zr_iald hG 17 dX9_cameTo_6 rfl (by omega) (by omega) (fun x1 ex1 => ?_)
  have bx1 : 0 ≤ x1.toInt ∧ x1.toInt ≤ 3 := by rw [ex1]; exact ⟨(hO0 17 _).1, (hO0 17 _).2.1⟩
  refine zr_aload_n hB 0 dX9_cameTo_7 rfl ?_
  refine zr_getr hG 0 32 dX9_cameTo_8 rfl wf_X9_68 rfl ?_
  refine zr_iload_n hB 1 dX9_cameTo_11 rfl ?_
  refine zr_iald hG 20 dX9_cameTo_12 rfl (by omega) (by omega) (fun x2 ex2 => ?_)
  have bx2 : 0 ≤ x2.toInt ∧ x2.toInt ≤ 77 := by rw [ex2]; exact ⟨(hO0 20 _).1, (hO0 20 _).2.1⟩
  refine zr_aload_n hB 0 dX9_cameTo_13 rfl ?_
  refine zr_geti' hG 0 1 (σ0.1 0 1) dX9_cameTo_14 rfl wf_X9_101 rfl rfl ?_
  refine zr_callvi hG (rest := []) 0 dX9_cameTo_17 wm_X9_113 rfl rfl (c_M_knownOn K hG.2.2.2.2.2.1 σ0 x1 x2 (σ0.1 0 1) hO0 (by omega) (by omega) (by omega) (by omega)) rfl rfl (Nat.le_of_ble_eq_true rfl) ⟨Nat.le_of_ble_eq_true rfl, Nat.le_of_ble_eq_true rfl, rfl, rfl⟩ (fun r3 σ4 h5 => ?_)
  obtain ⟨rfl, r3a, r3b, g6⟩ := h5
  refine zr_callsi hG (rest := []) dX9_cameTo_20 wm_X9_117 (c_M_orNone K hG.2.2.2.2.2.1 σ0 r3 hO0 (by omega) (by omega)) rfl rfl (Nat.le_of_ble_eq_true rfl) ⟨Nat.le_of_ble_eq_true rfl, Nat.le_of_ble_eq_true rfl, rfl, rfl⟩ (fun r7 σ8 h9 => ?_)
  obtain ⟨rfl, r7a, r7b, g10⟩ := h9
  exact zr_iret hG dX9_cameTo_23 ⟨rfl, by omega, by omega, (by have q1 := congrArg Int32.toInt ex1; have q2 := congrArg Int32.toInt ex2; have o9 := g10; unfold zp_cm; rw [← q1, ← q2]; rcases g6 with ⟨x, y⟩ | ⟨x, y⟩; exact zp_o.n (by omega) (fun h9 => x (by omega)); (have k9 := zp_kM y (by omega) (by omega) (by omega); unfold zp_k at k9; rw [show ((x2.toInt.toNat : Nat) : Int) = x2.toInt by omega] at k9; by_cases h9 : r7.toInt = -4; exact zp_o.n h9 (fun h8 => absurd (k9.is.mpr h8.2.2) (by omega)); exact zp_o.y h9 ⟨by omega, by omega, k9.is.mp (by omega)⟩))⟩

set_option maxHeartbeats 1000000 in
set_option maxRecDepth 100000 in
theorem c_M_heldOf (K : zc_K) (hi : zc_inj shM K.2.2.2.1) (σ0 : zc_S) (p1 : Int32) (hO0 : zc_O okM σ0) (h1a : 0 ≤ p1.toInt) (h1b : p1.toInt ≤ 23) : zc_M shM K yX9_heldOf cX9_heldOf 3 (some .int) (zrm 4 89) σ0 [.ref (zk K 0), .int p1] (zc_I (fun r9 σ9 => σ0 = σ9 ∧ (-4) ≤ r9.toInt ∧ r9.toInt ≤ 1)) := by
  refine zc_start RX9 hi pfX9_heldOf rfl (Nat.le_of_ble_eq_true rfl) ?_
  intro G hG
  have hB := hG.1
  show zc_V 3 K G (zc_D shM K G σ0) [(0, .ref (zk K 0)), (1, .int p1)] 0 []
  refine zr_aload_n hB 0 dX9_heldOf_0 rfl ?_
  refine zr_iload_n hB 1 dX9_heldOf_1 rfl ?_
  refine zr_callvi hG (rest := []) 0 dX9_heldOf_2 wm_X9_274 rfl rfl (c_M_cameTo K hG.2.2.2.2.2.1 σ0 p1 hO0 (by omega) (by omega)) rfl rfl (Nat.le_of_ble_eq_true rfl) ⟨Nat.le_of_ble_eq_true rfl, Nat.le_of_ble_eq_true rfl, rfl, rfl⟩ (fun r1 σ2 h3 => ?_)
  obtain ⟨rfl, r1a, r1b, g4⟩ := h3
  refine zr_istore_n hB dX9_heldOf_5 rfl (by decide) (lv' := [(2, .int r1), (0, .ref (zk K 0)), (1, .int p1)]) rfl ?_
  refine zr_iload_n hB 0 dX9_heldOf_6 rfl ?_
  refine zr_bipush hB dX9_heldOf_7 rfl (fun c5 ec5 => ?_)
  refine zr_icmp_ne hB dX9_heldOf_9 (tgt := 17) rfl (fun c6 => ?_) (fun c6 => ?_)
  · refine zr_iload_n hB 0 dX9_heldOf_17 rfl ?_
    refine zr_aload_n hB 1 dX9_heldOf_18 rfl ?_
    refine zr_getr hG 0 33 dX9_heldOf_19 rfl wf_X9_71 rfl ?_
    refine zr_iload_n hB 2 dX9_heldOf_22 rfl ?_
    refine zr_iald hG 21 dX9_heldOf_23 rfl (by omega) (by omega) (fun x7 ex7 => ?_)
    have bx7 : 0 ≤ x7.toInt ∧ x7.toInt ≤ 999 := by rw [ex7]; exact ⟨(hO0 21 _).1, (hO0 21 _).2.1⟩
    refine zr_isub hB dX9_heldOf_24 (by omega) (by omega) (fun x8 ex8 => ?_)
    refine zr_callsi hG (rest := []) dX9_heldOf_25 wm_X9_240 (c_M_size K hG.2.2.2.2.2.1 σ0 x8 hO0 (by omega)) rfl rfl (Nat.le_of_ble_eq_true rfl) ⟨Nat.le_of_ble_eq_true rfl, Nat.le_of_ble_eq_true rfl, rfl, rfl⟩ (fun r9 σ10 h11 => ?_)
    obtain ⟨rfl, r9a, g12⟩ := h11
    refine zr_aload_n hB 1 dX9_heldOf_28 rfl ?_
    refine zr_getr hG 0 34 dX9_heldOf_29 rfl wf_X9_74 rfl ?_
    refine zr_iload_n hB 2 dX9_heldOf_32 rfl ?_
    refine zr_iald hG 22 dX9_heldOf_33 rfl (by omega) (by omega) (fun x13 ex13 => ?_)
    have bx13 : 0 ≤ x13.toInt ∧ x13.toInt ≤ 999 := by rw [ex13]; exact ⟨(hO0 22 _).1, (hO0 22 _).2.1⟩
    refine zr_icmp_gt hB dX9_heldOf_34 (tgt := 41) rfl (fun c14 => ?_) (fun c14 => ?_)
    · refine zr_iconst hB dX9_heldOf_41 rfl (fun c15 ec15 => ?_)
      exact zr_iret hG dX9_heldOf_42 ⟨rfl, by omega, by omega⟩
    refine zr_iconst hB dX9_heldOf_37 rfl (fun c16 ec16 => ?_)
    refine zr_goto hB dX9_heldOf_38 (tgt := 42) rfl ?_
    exact zr_iret hG dX9_heldOf_42 ⟨rfl, by omega, by omega⟩
  refine zr_bipush hB dX9_heldOf_12 rfl (fun c17 ec17 => ?_)
  refine zr_goto hB dX9_heldOf_14 (tgt := 42) rfl ?_
  exact zr_iret hG dX9_heldOf_42 ⟨rfl, by omega, by omega⟩

set_option maxHeartbeats 1000000 in
set_option maxRecDepth 100000 in
theorem c_M_noteOf (K : zc_K) (hi : zc_inj shM K.2.2.2.1) (σ0 : zc_S) (p1 : Int32) (p2 : Int32) (hO0 : zc_O okM σ0)  : zc_M shM K yX9_noteOf cX9_noteOf 3 (some .int) (zrm 5 111) σ0 [.ref (zk K 0), .int p1, .int p2] (zc_I (fun r9 σ9 => σ0 = σ9)) := by
  refine zc_start RX9 hi pfX9_noteOf rfl (Nat.le_of_ble_eq_true rfl) ?_
  intro G hG
  have hB := hG.1
  show zc_V 3 K G (zc_D shM K G σ0) [(0, .ref (zk K 0)), (1, .int p1), (2, .int p2)] 0 []
  refine zr_iload_n hB 1 dX9_noteOf_0 rfl ?_
  have v2 := And.intro (zn_lo p1) (zn_hi p1)
  refine zr_i2l hB dX9_noteOf_1 (fun l1 el1 => ?_)
  refine zr_lconst hB dX9_noteOf_2 (m := 0) rfl (fun c3 ec3 => ?_)
  refine zr_aload_n hB 0 dX9_noteOf_3 rfl ?_
  refine zr_geti' hG 0 28 (σ0.1 0 28) dX9_noteOf_4 rfl wf_X9_271 rfl rfl ?_
  have b4 : 0 ≤ (σ0.1 0 28).toInt ∧ (σ0.1 0 28).toInt ≤ 24 := ⟨(hO0 0 28).1, (hO0 0 28).2.1⟩
  refine zr_iconst hB dX9_noteOf_7 rfl (fun c5 ec5 => ?_)
  refine zr_isub hB dX9_noteOf_8 (by omega) (by omega) (fun x6 ex6 => ?_)
  refine zr_i2l hB dX9_noteOf_9 (fun l7 el7 => ?_)
  refine zr_callsi hG (rest := []) dX9_noteOf_10 wm_X9_91 (c_M_in K hG.2.2.2.2.2.1 σ0 l1 c3 l7 hO0 ) rfl rfl (Nat.le_of_ble_eq_true rfl) ⟨Nat.le_of_ble_eq_true rfl, Nat.le_of_ble_eq_true rfl, rfl, rfl⟩ (fun r8 σ9 h10 => ?_)
  obtain ⟨rfl, r8q⟩ := h10
  have r8z := r8q.b
  refine zr_if_ne hB dX9_noteOf_13 (tgt := 18) rfl (fun c11 => ?_) (fun c11 => ?_)
  · have q12 := r8q.t c11
    refine zr_iload_n hB 2 dX9_noteOf_18 rfl ?_
    by_cases c13 : p2.toInt = 0
    · refine zr_tabIn hB 0 dX9_noteOf_19 (by omega) (by omega) (off := 49) rfl (tgt := 68) rfl ?_
      refine zr_aload_n hB 0 dX9_noteOf_68 rfl ?_
      refine zr_getr hG 0 29 dX9_noteOf_69 rfl wf_X9_59 rfl ?_
      refine zr_iload_n hB 1 dX9_noteOf_72 rfl ?_
      refine zr_iald hG 17 dX9_noteOf_73 rfl (by omega) (by omega) (fun x14 ex14 => ?_)
      have bx14 : 0 ≤ x14.toInt ∧ x14.toInt ≤ 3 := by rw [ex14]; exact ⟨(hO0 17 _).1, (hO0 17 _).2.1⟩
      exact zr_iret hG dX9_noteOf_74 rfl
    by_cases c15 : p2.toInt = 1
    · refine zr_tabIn hB 1 dX9_noteOf_19 (by omega) (by omega) (off := 56) rfl (tgt := 75) rfl ?_
      refine zr_aload_n hB 0 dX9_noteOf_75 rfl ?_
      refine zr_getr hG 0 30 dX9_noteOf_76 rfl wf_X9_62 rfl ?_
      refine zr_iload_n hB 1 dX9_noteOf_79 rfl ?_
      refine zr_iald hG 18 dX9_noteOf_80 rfl (by omega) (by omega) (fun x16 ex16 => ?_)
      have bx16 : 0 ≤ x16.toInt ∧ x16.toInt ≤ 5 := by rw [ex16]; exact ⟨(hO0 18 _).1, (hO0 18 _).2.1⟩
      exact zr_iret hG dX9_noteOf_81 rfl
    by_cases c17 : p2.toInt = 2
    · refine zr_tabIn hB 2 dX9_noteOf_19 (by omega) (by omega) (off := 63) rfl (tgt := 82) rfl ?_
      refine zr_aload_n hB 0 dX9_noteOf_82 rfl ?_
      refine zr_getr hG 0 31 dX9_noteOf_83 rfl wf_X9_65 rfl ?_
      refine zr_iload_n hB 1 dX9_noteOf_86 rfl ?_
      refine zr_iald hG 19 dX9_noteOf_87 rfl (by omega) (by omega) (fun x18 ex18 => ?_)
      have bx18 : 0 ≤ x18.toInt ∧ x18.toInt ≤ 63 := by rw [ex18]; exact ⟨(hO0 19 _).1, (hO0 19 _).2.1⟩
      exact zr_iret hG dX9_noteOf_88 rfl
    by_cases c19 : p2.toInt = 3
    · refine zr_tabIn hB 3 dX9_noteOf_19 (by omega) (by omega) (off := 70) rfl (tgt := 89) rfl ?_
      refine zr_aload_n hB 0 dX9_noteOf_89 rfl ?_
      refine zr_getr hG 0 32 dX9_noteOf_90 rfl wf_X9_68 rfl ?_
      refine zr_iload_n hB 1 dX9_noteOf_93 rfl ?_
      refine zr_iald hG 20 dX9_noteOf_94 rfl (by omega) (by omega) (fun x20 ex20 => ?_)
      have bx20 : 0 ≤ x20.toInt ∧ x20.toInt ≤ 77 := by rw [ex20]; exact ⟨(hO0 20 _).1, (hO0 20 _).2.1⟩
      exact zr_iret hG dX9_noteOf_95 rfl
    by_cases c21 : p2.toInt = 4
    · refine zr_tabIn hB 4 dX9_noteOf_19 (by omega) (by omega) (off := 77) rfl (tgt := 96) rfl ?_
      refine zr_aload_n hB 0 dX9_noteOf_96 rfl ?_
      refine zr_getr hG 0 33 dX9_noteOf_97 rfl wf_X9_71 rfl ?_
      refine zr_iload_n hB 1 dX9_noteOf_100 rfl ?_
      refine zr_iald hG 21 dX9_noteOf_101 rfl (by omega) (by omega) (fun x22 ex22 => ?_)
      have bx22 : 0 ≤ x22.toInt ∧ x22.toInt ≤ 999 := by rw [ex22]; exact ⟨(hO0 21 _).1, (hO0 21 _).2.1⟩
      exact zr_iret hG dX9_noteOf_102 rfl
    by_cases c23 : p2.toInt = 5
    · refine zr_tabIn hB 5 dX9_noteOf_19 (by omega) (by omega) (off := 84) rfl (tgt := 103) rfl ?_
      refine zr_aload_n hB 0 dX9_noteOf_103 rfl ?_
      refine zr_getr hG 0 34 dX9_noteOf_104 rfl wf_X9_74 rfl ?_
      refine zr_iload_n hB 1 dX9_noteOf_107 rfl ?_
      refine zr_iald hG 22 dX9_noteOf_108 rfl (by omega) (by omega) (fun x24 ex24 => ?_)
      have bx24 : 0 ≤ x24.toInt ∧ x24.toInt ≤ 999 := by rw [ex24]; exact ⟨(hO0 22 _).1, (hO0 22 _).2.1⟩
      exact zr_iret hG dX9_noteOf_109 rfl
    by_cases c25 : p2.toInt = 6
    · refine zr_tabIn hB 6 dX9_noteOf_19 (by omega) (by omega) (off := 91) rfl (tgt := 110) rfl ?_
      refine zr_aload_n hB 0 dX9_noteOf_110 rfl ?_
      refine zr_iload_n hB 1 dX9_noteOf_111 rfl ?_
      refine zr_callvi hG (rest := []) 0 dX9_noteOf_112 wm_X9_274 rfl rfl (c_M_cameTo K hG.2.2.2.2.2.1 σ0 p1 hO0 (by omega) (by omega)) rfl rfl (Nat.le_of_ble_eq_true rfl) ⟨Nat.le_of_ble_eq_true rfl, Nat.le_of_ble_eq_true rfl, rfl, rfl⟩ (fun r26 σ27 h28 => ?_)
      obtain ⟨rfl, r26a, r26b, g29⟩ := h28
      exact zr_iret hG dX9_noteOf_115 rfl
    by_cases c30 : p2.toInt = 7
    · refine zr_tabIn hB 7 dX9_noteOf_19 (by omega) (by omega) (off := 97) rfl (tgt := 116) rfl ?_
      refine zr_aload_n hB 0 dX9_noteOf_116 rfl ?_
      refine zr_iload_n hB 1 dX9_noteOf_117 rfl ?_
      refine zr_callvi hG (rest := []) 0 dX9_noteOf_118 wm_X9_277 rfl rfl (c_M_heldOf K hG.2.2.2.2.2.1 σ0 p1 hO0 (by omega) (by omega)) rfl rfl (Nat.le_of_ble_eq_true rfl) ⟨Nat.le_of_ble_eq_true rfl, Nat.le_of_ble_eq_true rfl, rfl, rfl⟩ (fun r31 σ32 h33 => ?_)
      obtain ⟨rfl, r31a, r31b⟩ := h33
      exact zr_iret hG dX9_noteOf_121 rfl
    by_cases c34 : p2.toInt = 8
    · refine zr_tabIn hB 8 dX9_noteOf_19 (by omega) (by omega) (off := 103) rfl (tgt := 122) rfl ?_
      refine zr_aload_n hB 0 dX9_noteOf_122 rfl ?_
      refine zr_getr hG 0 35 dX9_noteOf_123 rfl wf_X9_77 rfl ?_
      refine zr_iload_n hB 1 dX9_noteOf_126 rfl ?_
      refine zr_iald hG 23 dX9_noteOf_127 rfl (by omega) (by omega) (fun x35 ex35 => ?_)
      have bx35 : 0 ≤ x35.toInt ∧ x35.toInt ≤ 1 := by rw [ex35]; exact ⟨(hO0 23 _).1, (hO0 23 _).2.1⟩
      exact zr_iret hG dX9_noteOf_128 rfl
    refine zr_tabOut hB dX9_noteOf_19 (by omega) (tgt := 129) rfl ?_
    refine zr_iconst hB dX9_noteOf_129 rfl (fun c36 ec36 => ?_)
    exact zr_iret hG dX9_noteOf_130 rfl
  have q37 := r8q.f c11
  refine zr_iconst hB dX9_noteOf_16 rfl (fun c38 ec38 => ?_)
  exact zr_iret hG dX9_noteOf_17 rfl

def m_M_acted : zc_ms := [(23, none)]
set_option maxHeartbeats 1000000 in
set_option maxRecDepth 100000 in
theorem c_M_acted (K : zc_K) (hi : zc_inj shM K.2.2.2.1) (σ0 : zc_S) (p1 : Int32) (hO0 : zc_O okM σ0)  : zc_M shM K yX9_acted cX9_acted 2 (some .int) (zrm 4 89) σ0 [.ref (zk K 0), .int p1] (zc_I (fun r9 σ9 => zc_O okM σ9 ∧ zc_Ag m_M_acted σ0 σ9 ∧ zp_ac (0 ≤ p1.toInt ∧ p1.toInt < (σ0.1 0 28).toInt) (σ0.1 23 p1.toInt.toNat).toInt r9.toInt (zp_cm σ0 p1.toInt.toNat) (σ9 = σ0) (∃ c : Int32, c.toInt = 1 ∧ σ9 = zc_u σ0 23 p1.toInt.toNat c))) := by
  refine zc_start RX9 hi pfX9_acted rfl (Nat.le_of_ble_eq_true rfl) ?_
  intro G hG
  have hB := hG.1
  have hA0 : zc_Ag m_M_acted σ0 σ0 := zc_Ag.rf
  show zc_V 2 K G (zc_D shM K G σ0) [(0, .ref (zk K 0)), (1, .int p1)] 0 []
  have bw0_28 : 0 ≤ (σ0.1 0 28).toInt ∧ (σ0.1 0 28).toInt ≤ 24 := ⟨(hO0 0 28).1, (hO0 0 28).2.1⟩
  refine zr_iload_n hB 1 dX9_acted_0 rfl ?_
  have v2 := And.intro (zn_lo p1) (zn_hi p1)
  refine zr_i2l hB dX9_acted_1 (fun l1 el1 => ?_)
  refine zr_lconst hB dX9_acted_2 (m := 0) rfl (fun c3 ec3 => ?_)
  refine zr_aload_n hB 0 dX9_acted_3 rfl ?_
  refine zr_geti' hG 0 28 (σ0.1 0 28) dX9_acted_4 rfl wf_X9_271 rfl rfl ?_
  refine zr_iconst hB dX9_acted_7 rfl (fun c4 ec4 => ?_)
  refine zr_isub hB dX9_acted_8 (by omega) (by omega) (fun x5 ex5 => ?_)
  refine zr_i2l hB dX9_acted_9 (fun l6 el6 => ?_)
  refine zr_callsi hG (rest := []) dX9_acted_10 wm_X9_91 (c_M_in K hG.2.2.2.2.2.1 σ0 l1 c3 l6 hO0 ) rfl rfl (Nat.le_of_ble_eq_true rfl) ⟨Nat.le_of_ble_eq_true rfl, Nat.le_of_ble_eq_true rfl, rfl, rfl⟩ (fun r7 σ8 h9 => ?_)
  obtain ⟨rfl, r7q⟩ := h9
  have r7z := r7q.b
  refine zr_if_ne hB dX9_acted_13 (tgt := 18) rfl (fun c10 => ?_) (fun c10 => ?_)
  · have q11 := r7q.t c10
    refine zr_aload_n hB 0 dX9_acted_18 rfl ?_
    refine zr_getr hG 0 35 dX9_acted_19 rfl wf_X9_77 rfl ?_
    refine zr_iload_n hB 1 dX9_acted_22 rfl ?_
    refine zr_iald hG 23 dX9_acted_23 rfl (by omega) (by omega) (fun x12 ex12 => ?_)
    have bx12 : 0 ≤ x12.toInt ∧ x12.toInt ≤ 1 := by rw [ex12]; exact ⟨(hO0 23 _).1, (hO0 23 _).2.1⟩
    refine zr_iconst hB dX9_acted_24 rfl (fun c13 ec13 => ?_)
    refine zr_icmp_eq hB dX9_acted_25 (tgt := 38) rfl (fun c14 => ?_) (fun c14 => ?_)
    · refine zr_bipush hB dX9_acted_38 rfl (fun c15 ec15 => ?_)
      exact zr_iret hG dX9_acted_40 ⟨hO0, hA0, (by have hqx12 := congrArg Int32.toInt ex12; first | exact Or.inl ⟨by omega, by omega, rfl⟩ | exact Or.inr (Or.inl ⟨by omega, Or.inl (by omega), by omega, rfl⟩))⟩
    refine zr_aload_n hB 0 dX9_acted_28 rfl ?_
    refine zr_iload_n hB 1 dX9_acted_29 rfl ?_
    refine zr_callvi hG (rest := []) 0 dX9_acted_30 wm_X9_274 rfl rfl (c_M_cameTo K hG.2.2.2.2.2.1 σ0 p1 hO0 (by omega) (by omega)) rfl rfl (Nat.le_of_ble_eq_true rfl) ⟨Nat.le_of_ble_eq_true rfl, Nat.le_of_ble_eq_true rfl, rfl, rfl⟩ (fun r16 σ17 h18 => ?_)
    obtain ⟨rfl, r16a, r16b, g19⟩ := h18
    refine zr_bipush hB dX9_acted_33 rfl (fun c20 ec20 => ?_)
    refine zr_icmp_eq hB dX9_acted_35 (tgt := 41) rfl (fun c21 => ?_) (fun c21 => ?_)
    · refine zr_aload_n hB 0 dX9_acted_41 rfl ?_
      refine zr_getr hG 0 35 dX9_acted_42 rfl wf_X9_77 rfl ?_
      refine zr_iload_n hB 1 dX9_acted_45 rfl ?_
      refine zr_iconst hB dX9_acted_46 rfl (fun c22 ec22 => ?_)
      refine zr_iast hG 23 dX9_acted_47 rfl (by omega) (by omega)  ?_
      have hOw23 := zc_O.u hO0 23 p1.toInt.toNat (v := c22) (show 0 ≤ c22.toInt by omega) (show c22.toInt ≤ 1 by omega) (Or.inr (show 0 ≤ c22.toInt by omega))
      have hAw23 := zc_Ag.u hA0 23 p1.toInt.toNat c22 rfl
      refine zr_iconst hB dX9_acted_48 rfl (fun c24 ec24 => ?_)
      exact zr_iret hG dX9_acted_49 ⟨hOw23, hAw23, (by have hqx12 := congrArg Int32.toInt ex12; exact Or.inr (Or.inr ⟨by omega, by omega, (fun h9 => absurd (g19.is.mpr h9) (by omega)), by omega, ⟨c22, by omega, rfl⟩⟩))⟩
    refine zr_bipush hB dX9_acted_38 rfl (fun c25 ec25 => ?_)
    exact zr_iret hG dX9_acted_40 ⟨hO0, hA0, (by have hqx12 := congrArg Int32.toInt ex12; exact Or.inr (Or.inl ⟨by omega, Or.inr (g19.is.mp (by omega)), by omega, rfl⟩))⟩
  have q26 := r7q.f c10
  refine zr_iconst hB dX9_acted_16 rfl (fun c27 ec27 => ?_)
  exact zr_iret hG dX9_acted_17 ⟨hO0, hA0, (by first | exact Or.inl ⟨by omega, by omega, rfl⟩ | exact Or.inr (Or.inl ⟨by omega, Or.inl (by omega), by omega, rfl⟩))⟩

set_option maxHeartbeats 1000000 in
set_option maxRecDepth 100000 in
theorem c_M_notes (K : zc_K) (hi : zc_inj shM K.2.2.2.1) (σ0 : zc_S) (p1 : Int32) (hO0 : zc_O okM σ0)  : zc_M shM K yX9_notes cX9_notes 6 (some .int) (zrm 5 111) σ0 [.ref (zk K 0), .int p1] (zc_I (fun r9 σ9 => σ0 = σ9)) := by
  refine zc_start RX9 hi pfX9_notes rfl (Nat.le_of_ble_eq_true rfl) ?_
  intro G hG
  have hB := hG.1
  show zc_V 6 K G (zc_D shM K G σ0) [(0, .ref (zk K 0)), (1, .int p1)] 0 []
  refine zr_iload_n hB 1 dX9_notes_0 rfl ?_
  have v2 := And.intro (zn_lo p1) (zn_hi p1)
  refine zr_i2l hB dX9_notes_1 (fun l1 el1 => ?_)
  refine zr_lconst hB dX9_notes_2 (m := 0) rfl (fun c3 ec3 => ?_)
  refine zr_ldc2 hB dX9_notes_3 wc_X9_89 (n := 3) rfl (fun c4 ec4 => ?_)
  refine zr_callsi hG (rest := []) dX9_notes_6 wm_X9_91 (c_M_in K hG.2.2.2.2.2.1 σ0 l1 c3 c4 hO0 ) rfl rfl (Nat.le_of_ble_eq_true rfl) ⟨Nat.le_of_ble_eq_true rfl, Nat.le_of_ble_eq_true rfl, rfl, rfl⟩ (fun r5 σ6 h7 => ?_)
  obtain ⟨rfl, r5q⟩ := h7
  have r5z := r5q.b
  refine zr_if_ne hB dX9_notes_9 (tgt := 14) rfl (fun c8 => ?_) (fun c8 => ?_)
  · have q9 := r5q.t c8
    refine zr_iconst hB dX9_notes_14 rfl (fun c10 ec10 => ?_)
    refine zr_istore_n hB dX9_notes_15 rfl (by decide) (lv' := [(2, .int c10), (0, .ref (zk K 0)), (1, .int p1)]) rfl ?_
    refine zr_iconst hB dX9_notes_16 rfl (fun c11 ec11 => ?_)
    refine zr_istore_n hB dX9_notes_17 rfl (by decide) (lv' := [(3, .int c11), (2, .int c10), (0, .ref (zk K 0)), (1, .int p1)]) rfl ?_
    have L18_14 : ∀ (n18 : Nat) (y2_12 : Int32) (y3_13 : Int32), 0 ≤ y3_13.toInt → y3_13.toInt ≤ 24 → 24 - y3_13.toInt < (n18 : Int) → zc_V 6 K G (zc_D shM K G σ0) [(0, .ref (zk K 0)), (1, .int p1), (2, .int y2_12), (3, .int y3_13)] 18 [] := by
      intro n18
      induction n18 with
      | zero => intro y2_12 y3_13 y3_13a y3_13b hn18; have vy2_12 := And.intro (zn_lo y2_12) (zn_hi y2_12); exfalso; omega
      | succ n18 ih18 =>
        intro y2_12 y3_13 y3_13a y3_13b hn18
        have vy2_12 := And.intro (zn_lo y2_12) (zn_hi y2_12)
        refine zr_iload_n hB 3 dX9_notes_18 rfl ?_
        refine zr_aload_n hB 0 dX9_notes_19 rfl ?_
        refine zr_geti' hG 0 28 (σ0.1 0 28) dX9_notes_20 rfl wf_X9_271 rfl rfl ?_
        have b15 : 0 ≤ (σ0.1 0 28).toInt ∧ (σ0.1 0 28).toInt ≤ 24 := ⟨(hO0 0 28).1, (hO0 0 28).2.1⟩
        refine zr_icmp_ge hB dX9_notes_23 (tgt := 92) rfl (fun c16 => ?_) (fun c16 => ?_)
        · refine zr_iload_n hB 2 dX9_notes_92 rfl ?_
          exact zr_iret hG dX9_notes_93 rfl
        refine zr_aload_n hB 0 dX9_notes_26 rfl ?_
        refine zr_iload_n hB 3 dX9_notes_27 rfl ?_
        refine zr_callvi hG (rest := []) 0 dX9_notes_28 wm_X9_277 rfl rfl (c_M_heldOf K hG.2.2.2.2.2.1 σ0 y3_13 hO0 (by omega) (by omega)) rfl rfl (Nat.le_of_ble_eq_true rfl) ⟨Nat.le_of_ble_eq_true rfl, Nat.le_of_ble_eq_true rfl, rfl, rfl⟩ (fun r17 σ18 h19 => ?_)
        obtain ⟨rfl, r17a, r17b⟩ := h19
        refine zr_istore hB dX9_notes_31 (by decide) (lv' := [(4, .int r17), (0, .ref (zk K 0)), (1, .int p1), (2, .int y2_12), (3, .int y3_13)]) rfl ?_
        refine zr_iload hB 0 dX9_notes_33 rfl ?_
        refine zr_bipush hB dX9_notes_35 rfl (fun c20 ec20 => ?_)
        refine zr_icmp_eq hB dX9_notes_37 (tgt := 58) rfl (fun c21 => ?_) (fun c21 => ?_)
        · refine zr_iconst hB dX9_notes_58 rfl (fun c22 ec22 => ?_)
          refine zr_istore hB dX9_notes_59 (by decide) (lv' := [(5, .int c22), (4, .int r17), (0, .ref (zk K 0)), (1, .int p1), (2, .int y2_12), (3, .int y3_13)]) rfl ?_
          refine zr_iload_n hB 4 dX9_notes_61 rfl ?_
          refine zr_iload hB 0 dX9_notes_62 rfl ?_
          refine zr_if_eq hB dX9_notes_64 (tgt := 83) rfl (fun c23 => ?_) (fun c23 => ?_)
          · refine zr_iconst hB dX9_notes_83 rfl (fun c24 ec24 => ?_)
            have v26 := And.intro (zn_lo y2_12) (zn_hi y2_12)
            refine zr_iadd hB dX9_notes_84 (by omega) (by omega) (fun x25 ex25 => ?_)
            refine zr_istore_n hB dX9_notes_85 rfl (by decide) (lv' := [(2, .int x25), (5, .int c22), (4, .int r17), (0, .ref (zk K 0)), (1, .int p1), (3, .int y3_13)]) rfl ?_
            refine zr_iinc hB 5 dX9_notes_86 rfl (by decide) rfl (by omega) (by omega) (fun x27 ex27 lv' hlv => ?_)
            obtain rfl : [(3, .int x27), (2, .int x25), (5, .int c22), (4, .int r17), (0, .ref (zk K 0)), (1, .int p1)] = lv' := hlv
            refine zr_goto hB dX9_notes_89 (tgt := 18) rfl ?_
            exact zc_sub [4, 5, 1, 0] rfl (ih18 x25 x27 (by omega) (by omega) (by omega))
          exfalso; omega
        refine zr_iload_n hB 2 dX9_notes_40 rfl ?_
        refine zr_iconst hB dX9_notes_41 rfl (fun c28 ec28 => ?_)
        refine zr_icmp_lt hB dX9_notes_42 (tgt := 54) rfl (fun c29 => ?_) (fun c29 => ?_)
        · refine zr_iconst hB dX9_notes_54 rfl (fun c30 ec30 => ?_)
          refine zr_goto hB dX9_notes_55 (tgt := 59) rfl ?_
          refine zr_istore hB dX9_notes_59 (by decide) (lv' := [(5, .int c30), (4, .int r17), (0, .ref (zk K 0)), (1, .int p1), (2, .int y2_12), (3, .int y3_13)]) rfl ?_
          refine zr_iload_n hB 4 dX9_notes_61 rfl ?_
          refine zr_iload hB 0 dX9_notes_62 rfl ?_
          refine zr_if_eq hB dX9_notes_64 (tgt := 83) rfl (fun c31 => ?_) (fun c31 => ?_)
          · exfalso; omega
          refine zr_iload_n hB 3 dX9_notes_67 rfl ?_
          refine zr_iconst hB dX9_notes_68 rfl (fun c32 ec32 => ?_)
          refine zr_iremc hB dX9_notes_69 ec32 (by omega) (by decide) (fun x33 ex33 => ?_)
          refine zr_if_eq hB dX9_notes_70 (tgt := 79) rfl (fun c34 => ?_) (fun c34 => ?_)
          · refine zr_iconst hB dX9_notes_79 rfl (fun c35 ec35 => ?_)
            refine zr_goto hB dX9_notes_80 (tgt := 84) rfl ?_
            refine zr_iaddw hB dX9_notes_84 (fun x36 ex36 => ?_)
            refine zr_istore_n hB dX9_notes_85 rfl (by decide) (lv' := [(2, .int x36), (5, .int c30), (4, .int r17), (0, .ref (zk K 0)), (1, .int p1), (3, .int y3_13)]) rfl ?_
            refine zr_iinc hB 5 dX9_notes_86 rfl (by decide) rfl (by omega) (by omega) (fun x37 ex37 lv' hlv => ?_)
            obtain rfl : [(3, .int x37), (2, .int x36), (5, .int c30), (4, .int r17), (0, .ref (zk K 0)), (1, .int p1)] = lv' := hlv
            refine zr_goto hB dX9_notes_89 (tgt := 18) rfl ?_
            exact zc_sub [4, 5, 1, 0] rfl (ih18 x36 x37 (by omega) (by omega) (by omega))
          refine zr_iload hB 1 dX9_notes_73 rfl ?_
          refine zr_iconst hB dX9_notes_75 rfl (fun c38 ec38 => ?_)
          refine zr_icmp_ne hB dX9_notes_76 (tgt := 83) rfl (fun c39 => ?_) (fun c39 => ?_)
          · refine zr_iconst hB dX9_notes_83 rfl (fun c40 ec40 => ?_)
            have v42 := And.intro (zn_lo y2_12) (zn_hi y2_12)
            refine zr_iadd hB dX9_notes_84 (by omega) (by omega) (fun x41 ex41 => ?_)
            refine zr_istore_n hB dX9_notes_85 rfl (by decide) (lv' := [(2, .int x41), (5, .int c30), (4, .int r17), (0, .ref (zk K 0)), (1, .int p1), (3, .int y3_13)]) rfl ?_
            refine zr_iinc hB 5 dX9_notes_86 rfl (by decide) rfl (by omega) (by omega) (fun x43 ex43 lv' hlv => ?_)
            obtain rfl : [(3, .int x43), (2, .int x41), (5, .int c30), (4, .int r17), (0, .ref (zk K 0)), (1, .int p1)] = lv' := hlv
            refine zr_goto hB dX9_notes_89 (tgt := 18) rfl ?_
            exact zc_sub [4, 5, 1, 0] rfl (ih18 x41 x43 (by omega) (by omega) (by omega))
          refine zr_iconst hB dX9_notes_79 rfl (fun c44 ec44 => ?_)
          refine zr_goto hB dX9_notes_80 (tgt := 84) rfl ?_
          refine zr_iaddw hB dX9_notes_84 (fun x45 ex45 => ?_)
          refine zr_istore_n hB dX9_notes_85 rfl (by decide) (lv' := [(2, .int x45), (5, .int c30), (4, .int r17), (0, .ref (zk K 0)), (1, .int p1), (3, .int y3_13)]) rfl ?_
          refine zr_iinc hB 5 dX9_notes_86 rfl (by decide) rfl (by omega) (by omega) (fun x46 ex46 lv' hlv => ?_)
          obtain rfl : [(3, .int x46), (2, .int x45), (5, .int c30), (4, .int r17), (0, .ref (zk K 0)), (1, .int p1)] = lv' := hlv
          refine zr_goto hB dX9_notes_89 (tgt := 18) rfl ?_
          exact zc_sub [4, 5, 1, 0] rfl (ih18 x45 x46 (by omega) (by omega) (by omega))
        refine zr_aload_n hB 1 dX9_notes_45 rfl ?_
        refine zr_getr hG 0 35 dX9_notes_46 rfl wf_X9_77 rfl ?_
        refine zr_iload_n hB 4 dX9_notes_49 rfl ?_
        refine zr_iald hG 23 dX9_notes_50 rfl (by omega) (by omega) (fun x47 ex47 => ?_)
        have bx47 : 0 ≤ x47.toInt ∧ x47.toInt ≤ 1 := by rw [ex47]; exact ⟨(hO0 23 _).1, (hO0 23 _).2.1⟩
        refine zr_if_ne hB dX9_notes_51 (tgt := 58) rfl (fun c48 => ?_) (fun c48 => ?_)
        · refine zr_iconst hB dX9_notes_58 rfl (fun c49 ec49 => ?_)
          refine zr_istore hB dX9_notes_59 (by decide) (lv' := [(5, .int c49), (4, .int r17), (0, .ref (zk K 0)), (1, .int p1), (2, .int y2_12), (3, .int y3_13)]) rfl ?_
          refine zr_iload_n hB 4 dX9_notes_61 rfl ?_
          refine zr_iload hB 0 dX9_notes_62 rfl ?_
          refine zr_if_eq hB dX9_notes_64 (tgt := 83) rfl (fun c50 => ?_) (fun c50 => ?_)
          · refine zr_iconst hB dX9_notes_83 rfl (fun c51 ec51 => ?_)
            have v53 := And.intro (zn_lo y2_12) (zn_hi y2_12)
            refine zr_iadd hB dX9_notes_84 (by omega) (by omega) (fun x52 ex52 => ?_)
            refine zr_istore_n hB dX9_notes_85 rfl (by decide) (lv' := [(2, .int x52), (5, .int c49), (4, .int r17), (0, .ref (zk K 0)), (1, .int p1), (3, .int y3_13)]) rfl ?_
            refine zr_iinc hB 5 dX9_notes_86 rfl (by decide) rfl (by omega) (by omega) (fun x54 ex54 lv' hlv => ?_)
            obtain rfl : [(3, .int x54), (2, .int x52), (5, .int c49), (4, .int r17), (0, .ref (zk K 0)), (1, .int p1)] = lv' := hlv
            refine zr_goto hB dX9_notes_89 (tgt := 18) rfl ?_
            exact zc_sub [4, 5, 1, 0] rfl (ih18 x52 x54 (by omega) (by omega) (by omega))
          exfalso; omega
        refine zr_iconst hB dX9_notes_54 rfl (fun c55 ec55 => ?_)
        refine zr_goto hB dX9_notes_55 (tgt := 59) rfl ?_
        refine zr_istore hB dX9_notes_59 (by decide) (lv' := [(5, .int c55), (4, .int r17), (0, .ref (zk K 0)), (1, .int p1), (2, .int y2_12), (3, .int y3_13)]) rfl ?_
        refine zr_iload_n hB 4 dX9_notes_61 rfl ?_
        refine zr_iload hB 0 dX9_notes_62 rfl ?_
        refine zr_if_eq hB dX9_notes_64 (tgt := 83) rfl (fun c56 => ?_) (fun c56 => ?_)
        · exfalso; omega
        refine zr_iload_n hB 3 dX9_notes_67 rfl ?_
        refine zr_iconst hB dX9_notes_68 rfl (fun c57 ec57 => ?_)
        refine zr_iremc hB dX9_notes_69 ec57 (by omega) (by decide) (fun x58 ex58 => ?_)
        refine zr_if_eq hB dX9_notes_70 (tgt := 79) rfl (fun c59 => ?_) (fun c59 => ?_)
        · refine zr_iconst hB dX9_notes_79 rfl (fun c60 ec60 => ?_)
          refine zr_goto hB dX9_notes_80 (tgt := 84) rfl ?_
          refine zr_iaddw hB dX9_notes_84 (fun x61 ex61 => ?_)
          refine zr_istore_n hB dX9_notes_85 rfl (by decide) (lv' := [(2, .int x61), (5, .int c55), (4, .int r17), (0, .ref (zk K 0)), (1, .int p1), (3, .int y3_13)]) rfl ?_
          refine zr_iinc hB 5 dX9_notes_86 rfl (by decide) rfl (by omega) (by omega) (fun x62 ex62 lv' hlv => ?_)
          obtain rfl : [(3, .int x62), (2, .int x61), (5, .int c55), (4, .int r17), (0, .ref (zk K 0)), (1, .int p1)] = lv' := hlv
          refine zr_goto hB dX9_notes_89 (tgt := 18) rfl ?_
          exact zc_sub [4, 5, 1, 0] rfl (ih18 x61 x62 (by omega) (by omega) (by omega))
        refine zr_iload hB 1 dX9_notes_73 rfl ?_
        refine zr_iconst hB dX9_notes_75 rfl (fun c63 ec63 => ?_)
        refine zr_icmp_ne hB dX9_notes_76 (tgt := 83) rfl (fun c64 => ?_) (fun c64 => ?_)
        · refine zr_iconst hB dX9_notes_83 rfl (fun c65 ec65 => ?_)
          have v67 := And.intro (zn_lo y2_12) (zn_hi y2_12)
          refine zr_iadd hB dX9_notes_84 (by omega) (by omega) (fun x66 ex66 => ?_)
          refine zr_istore_n hB dX9_notes_85 rfl (by decide) (lv' := [(2, .int x66), (5, .int c55), (4, .int r17), (0, .ref (zk K 0)), (1, .int p1), (3, .int y3_13)]) rfl ?_
          refine zr_iinc hB 5 dX9_notes_86 rfl (by decide) rfl (by omega) (by omega) (fun x68 ex68 lv' hlv => ?_)
          obtain rfl : [(3, .int x68), (2, .int x66), (5, .int c55), (4, .int r17), (0, .ref (zk K 0)), (1, .int p1)] = lv' := hlv
          refine zr_goto hB dX9_notes_89 (tgt := 18) rfl ?_
          exact zc_sub [4, 5, 1, 0] rfl (ih18 x66 x68 (by omega) (by omega) (by omega))
        refine zr_iconst hB dX9_notes_79 rfl (fun c69 ec69 => ?_)
        refine zr_goto hB dX9_notes_80 (tgt := 84) rfl ?_
        refine zr_iaddw hB dX9_notes_84 (fun x70 ex70 => ?_)
        refine zr_istore_n hB dX9_notes_85 rfl (by decide) (lv' := [(2, .int x70), (5, .int c55), (4, .int r17), (0, .ref (zk K 0)), (1, .int p1), (3, .int y3_13)]) rfl ?_
        refine zr_iinc hB 5 dX9_notes_86 rfl (by decide) rfl (by omega) (by omega) (fun x71 ex71 lv' hlv => ?_)
        obtain rfl : [(3, .int x71), (2, .int x70), (5, .int c55), (4, .int r17), (0, .ref (zk K 0)), (1, .int p1)] = lv' := hlv
        refine zr_goto hB dX9_notes_89 (tgt := 18) rfl ?_
        exact zc_sub [4, 5, 1, 0] rfl (ih18 x70 x71 (by omega) (by omega) (by omega))
    exact zc_sub [2, 3, 1, 0] rfl (L18_14 26 c10 c11 (by omega) (by omega) (by omega))
  have q72 := r5q.f c8
  refine zr_iconst hB dX9_notes_12 rfl (fun c73 ec73 => ?_)
  exact zr_iret hG dX9_notes_13 rfl

def m_M_sheet : zc_ms := [(24, none), (25, none), (26, none)]
set_option maxHeartbeats 1000000 in
set_option maxRecDepth 100000 in
theorem c_M_sheet (K : zc_K) (hi : zc_inj shM K.2.2.2.1) (σ0 : zc_S) (p1 : Int32) (p2 : Int32) (p3 : Int32) (hO0 : zc_O okM σ0)  : zc_M shM K yX9_sheet cX9_sheet 5 (some .int) (zrm 1 25) σ0 [.ref (zk K 0), .int p1, .int p2, .int p3] (zc_I (fun r9 σ9 => zc_O okM σ9 ∧ zc_Ag m_M_sheet σ0 σ9 ∧ ((¬ (0 ≤ p1.toInt ∧ p1.toInt ≤ 3 ∧ 0 ≤ p2.toInt ∧ p2.toInt ≤ 2 ∧ p3.toInt ≤ 64) ∧ r9.toInt = -1 ∧ σ9.1 24 = σ0.1 24 ∧ σ9.1 25 = σ0.1 25 ∧ σ9.1 26 = σ0.1 26) ∨ ((0 ≤ p1.toInt ∧ p1.toInt ≤ 3 ∧ 0 ≤ p2.toInt ∧ p2.toInt ≤ 2 ∧ p3.toInt ≤ 64) ∧ p3.toInt < 0 ∧ r9.toInt = -14 ∧ σ9.1 24 = σ0.1 24 ∧ σ9.1 25 = σ0.1 25 ∧ σ9.1 26 = σ0.1 26) ∨ ((0 ≤ p1.toInt ∧ p1.toInt ≤ 3 ∧ 0 ≤ p2.toInt ∧ p2.toInt ≤ 2 ∧ p3.toInt ≤ 64) ∧ 0 ≤ p3.toInt ∧ r9.toInt = 1 ∧ σ9.1 24 = upd (σ0.1 24) p1.toInt.toNat p2 ∧ σ9.1 25 = upd (σ0.1 25) p1.toInt.toNat p3 ∧ zv_Z σ0 σ9 26 (64 * p1.toInt) 64)))) := by
  refine zc_start RX9 hi pfX9_sheet rfl (Nat.le_of_ble_eq_true rfl) ?_
  intro G hG
  have hB := hG.1
  have hA0 : zc_Ag m_M_sheet σ0 σ0 := zc_Ag.rf
  show zc_V 5 K G (zc_D shM K G σ0) [(0, .ref (zk K 0)), (1, .int p1), (2, .int p2), (3, .int p3)] 0 []
  refine zr_iload_n hB 1 dX9_sheet_0 rfl ?_
  have v2 := And.intro (zn_lo p1) (zn_hi p1)
  refine zr_i2l hB dX9_sheet_1 (fun l1 el1 => ?_)
  refine zr_lconst hB dX9_sheet_2 (m := 0) rfl (fun c3 ec3 => ?_)
  refine zr_ldc2 hB dX9_sheet_3 wc_X9_89 (n := 3) rfl (fun c4 ec4 => ?_)
  refine zr_callsi hG (rest := []) dX9_sheet_6 wm_X9_91 (c_M_in K hG.2.2.2.2.2.1 σ0 l1 c3 c4 hO0 ) rfl rfl (Nat.le_of_ble_eq_true rfl) ⟨Nat.le_of_ble_eq_true rfl, Nat.le_of_ble_eq_true rfl, rfl, rfl⟩ (fun r5 σ6 h7 => ?_)
  obtain ⟨rfl, r5q⟩ := h7
  have r5z := r5q.b
  refine zr_if_eq hB dX9_sheet_9 (tgt := 30) rfl (fun c8 => ?_) (fun c8 => ?_)
  · have q9 := r5q.f c8
    refine zr_iconst hB dX9_sheet_30 rfl (fun c10 ec10 => ?_)
    exact zr_iret hG dX9_sheet_31 ⟨hO0, hA0, (by first | (exfalso; omega) | exact Or.inl ⟨by omega, by omega, by first | rfl | assumption, by first | rfl | assumption, by first | rfl | assumption⟩ | exact Or.inr (Or.inl ⟨by omega, by omega, by omega, by first | rfl | assumption, by first | rfl | assumption, by first | rfl | assumption⟩) | exact Or.inr (Or.inr (⟨by omega, by omega, by omega, by first | rfl | assumption, by first | rfl | assumption, by assumption⟩)))⟩
  have q11 := r5q.t c8
  refine zr_iload_n hB 2 dX9_sheet_12 rfl ?_
  have v13 := And.intro (zn_lo p2) (zn_hi p2)
  refine zr_i2l hB dX9_sheet_13 (fun l12 el12 => ?_)
  refine zr_lconst hB dX9_sheet_14 (m := 0) rfl (fun c14 ec14 => ?_)
  refine zr_ldc2 hB dX9_sheet_15 wc_X9_249 (n := 2) rfl (fun c15 ec15 => ?_)
  refine zr_callsi hG (rest := []) dX9_sheet_18 wm_X9_91 (c_M_in K hG.2.2.2.2.2.1 σ0 l12 c14 c15 hO0 ) rfl rfl (Nat.le_of_ble_eq_true rfl) ⟨Nat.le_of_ble_eq_true rfl, Nat.le_of_ble_eq_true rfl, rfl, rfl⟩ (fun r16 σ17 h18 => ?_)
  obtain ⟨rfl, r16q⟩ := h18
  have r16z := r16q.b
  refine zr_if_eq hB dX9_sheet_21 (tgt := 30) rfl (fun c19 => ?_) (fun c19 => ?_)
  · have q20 := r16q.f c19
    refine zr_iconst hB dX9_sheet_30 rfl (fun c21 ec21 => ?_)
    exact zr_iret hG dX9_sheet_31 ⟨hO0, hA0, (by first | (exfalso; omega) | exact Or.inl ⟨by omega, by omega, by first | rfl | assumption, by first | rfl | assumption, by first | rfl | assumption⟩ | exact Or.inr (Or.inl ⟨by omega, by omega, by omega, by first | rfl | assumption, by first | rfl | assumption, by first | rfl | assumption⟩) | exact Or.inr (Or.inr (⟨by omega, by omega, by omega, by first | rfl | assumption, by first | rfl | assumption, by assumption⟩)))⟩
  have q22 := r16q.t c19
  refine zr_iload_n hB 3 dX9_sheet_24 rfl ?_
  refine zr_bipush hB dX9_sheet_25 rfl (fun c23 ec23 => ?_)
  refine zr_icmp_le hB dX9_sheet_27 (tgt := 32) rfl (fun c24 => ?_) (fun c24 => ?_)
  · refine zr_iload_n hB 3 dX9_sheet_32 rfl ?_
    refine zr_if_ge hB dX9_sheet_33 (tgt := 39) rfl (fun c25 => ?_) (fun c25 => ?_)
    · refine zr_aload_n hB 0 dX9_sheet_39 rfl ?_
      refine zr_getr hG 0 36 dX9_sheet_40 rfl wf_X9_80 rfl ?_
      refine zr_iload_n hB 1 dX9_sheet_43 rfl ?_
      refine zr_iload_n hB 2 dX9_sheet_44 rfl ?_
      refine zr_iast hG 24 dX9_sheet_45 rfl (by omega) (by omega)  ?_
      have hOw26 := zc_O.u hO0 24 p1.toInt.toNat (v := p2) (show (-4) ≤ p2.toInt by omega) (show p2.toInt ≤ 2 by omega) (Or.inr (show (-4) ≤ p2.toInt by omega))
      have hAw26 := zc_Ag.u hA0 24 p1.toInt.toNat p2 rfl
      refine zr_aload_n hB 0 dX9_sheet_46 rfl ?_
      refine zr_getr hG 0 37 dX9_sheet_47 rfl wf_X9_83 rfl ?_
      refine zr_iload_n hB 1 dX9_sheet_50 rfl ?_
      refine zr_iload_n hB 3 dX9_sheet_51 rfl ?_
      refine zr_iast hG 25 dX9_sheet_52 rfl (by omega) (by omega)  ?_
      have hOw27 := zc_O.u hOw26 25 p1.toInt.toNat (v := p3) (show 0 ≤ p3.toInt by omega) (show p3.toInt ≤ 64 by omega) (Or.inr (show 0 ≤ p3.toInt by omega))
      have hAw27 := zc_Ag.u hAw26 25 p1.toInt.toNat p3 rfl
      refine zr_iconst hB dX9_sheet_53 rfl (fun c28 ec28 => ?_)
      refine zr_istore hB dX9_sheet_54 (by decide) (lv' := [(4, .int c28), (0, .ref (zk K 0)), (1, .int p1), (2, .int p2), (3, .int p3)]) rfl ?_
      have L56_31 : ∀ (n56 : Nat) (σ30 : zc_S) (y4_29 : Int32), zc_O okM σ30 → zc_Ag m_M_sheet σ0 σ30 → 0 ≤ y4_29.toInt → y4_29.toInt ≤ 64 → σ30.1 24 = upd (σ0.1 24) p1.toInt.toNat p2 → σ30.1 25 = upd (σ0.1 25) p1.toInt.toNat p3 → zv_Z σ0 σ30 26 (64 * p1.toInt) y4_29.toInt → 64 - y4_29.toInt < (n56 : Int) → zc_V 5 K G (zc_D shM K G σ30) [(0, .ref (zk K 0)), (1, .int p1), (2, .int p2), (3, .int p3), (4, .int y4_29)] 56 [] := by
        intro n56
        induction n56 with
        | zero => intro σ30 y4_29 hO30 hA30 y4_29a y4_29b f1 f2 f3 hn56; exfalso; omega
        | succ n56 ih56 =>
          intro σ30 y4_29 hO30 hA30 y4_29a y4_29b f1 f2 f3 hn56
          refine zr_iload hB 4 dX9_sheet_56 rfl ?_
          refine zr_bipush hB dX9_sheet_58 rfl (fun c32 ec32 => ?_)
          refine zr_icmp_ge hB dX9_sheet_60 (tgt := 82) rfl (fun c33 => ?_) (fun c33 => ?_)
          · refine zr_iconst hB dX9_sheet_82 rfl (fun c34 ec34 => ?_)
            exact zr_iret hG dX9_sheet_83 ⟨hO30, hA30, (by first | (exfalso; omega) | exact Or.inl ⟨by omega, by omega, by first | rfl | assumption, by first | rfl | assumption, by first | rfl | assumption⟩ | exact Or.inr (Or.inl ⟨by omega, by omega, by omega, by first | rfl | assumption, by first | rfl | assumption, by first | rfl | assumption⟩) | exact Or.inr (Or.inr (⟨by omega, by omega, by omega, by first | rfl | assumption, by first | rfl | assumption, by (have h9 := f3; rw [show y4_29.toInt = 64 by omega] at h9; exact h9)⟩)))⟩
          refine zr_aload_n hB 0 dX9_sheet_63 rfl ?_
          refine zr_getr hG 0 38 dX9_sheet_64 rfl wf_X9_86 rfl ?_
          refine zr_bipush hB dX9_sheet_67 rfl (fun c35 ec35 => ?_)
          refine zr_iload_n hB 1 dX9_sheet_69 rfl ?_
          refine zr_imuld hB dX9_sheet_70 ec35 (by omega) (by omega) (fun x36 ex36 => ?_)
          refine zr_iload hB 4 dX9_sheet_71 rfl ?_
          refine zr_iadd hB dX9_sheet_73 (by omega) (by omega) (fun x37 ex37 => ?_)
          refine zr_iconst hB dX9_sheet_74 rfl (fun c38 ec38 => ?_)
          refine zr_iast hG 26 dX9_sheet_75 rfl (by omega) (by omega)  ?_
          have hOw39 := zc_O.u hO30 26 x37.toInt.toNat (v := c38) (zn_lo _) (zn_hi _) (Or.inr (zn_lo _))
          have hAw39 := zc_Ag.u hA30 26 x37.toInt.toNat c38 rfl
          refine zr_iinc hB 4 dX9_sheet_76 rfl (by decide) rfl (by omega) (by omega) (fun x40 ex40 lv' hlv => ?_)
          obtain rfl : [(4, .int x40), (0, .ref (zk K 0)), (1, .int p1), (2, .int p2), (3, .int p3)] = lv' := hlv
          refine zr_goto hB dX9_sheet_79 (tgt := 56) rfl ?_
          exact zc_sub [1, 2, 3, 4, 0] rfl (ih56 (zc_u σ30 26 x37.toInt.toNat c38) x40 hOw39 hAw39 (by omega) (by omega) (show (zc_u σ30 26 x37.toInt.toNat c38).1 24 = upd (σ0.1 24) p1.toInt.toNat p2 by first | (simp only [zc_u_at, zc_u_ne, ne_eq, Nat.reduceEqDiff, not_false_eq_true]; done) | (simp only [zc_u_at, zc_u_ne, ne_eq, Nat.reduceEqDiff, not_false_eq_true]; assumption)) (show (zc_u σ30 26 x37.toInt.toNat c38).1 25 = upd (σ0.1 25) p1.toInt.toNat p3 by first | (simp only [zc_u_at, zc_u_ne, ne_eq, Nat.reduceEqDiff, not_false_eq_true]; done) | (simp only [zc_u_at, zc_u_ne, ne_eq, Nat.reduceEqDiff, not_false_eq_true]; assumption)) (show zv_Z σ0 (zc_u σ30 26 x37.toInt.toNat c38) 26 (64 * p1.toInt) x40.toInt by exact zv_Zu f3 (by omega) (by omega) (by omega) (by omega)) (by omega))
      exact zc_sub [1, 2, 3, 4, 0] rfl (L56_31 66 (zc_u (zc_u σ0 24 p1.toInt.toNat p2) 25 p1.toInt.toNat p3) c28 hOw27 hAw27 (by omega) (by omega) (show (zc_u (zc_u σ0 24 p1.toInt.toNat p2) 25 p1.toInt.toNat p3).1 24 = upd (σ0.1 24) p1.toInt.toNat p2 by first | (simp only [zc_u_at, zc_u_ne, ne_eq, Nat.reduceEqDiff, not_false_eq_true]; done) | (simp only [zc_u_at, zc_u_ne, ne_eq, Nat.reduceEqDiff, not_false_eq_true]; assumption)) (show (zc_u (zc_u σ0 24 p1.toInt.toNat p2) 25 p1.toInt.toNat p3).1 25 = upd (σ0.1 25) p1.toInt.toNat p3 by first | (simp only [zc_u_at, zc_u_ne, ne_eq, Nat.reduceEqDiff, not_false_eq_true]; done) | (simp only [zc_u_at, zc_u_ne, ne_eq, Nat.reduceEqDiff, not_false_eq_true]; assumption)) (show zv_Z σ0 (zc_u (zc_u σ0 24 p1.toInt.toNat p2) 25 p1.toInt.toNat p3) 26 (64 * p1.toInt) c28.toInt by exact zv_Z0 (by omega) (by simp only [zc_u_at, zc_u_ne, ne_eq, Nat.reduceEqDiff, not_false_eq_true])) (by omega))
    refine zr_bipush hB dX9_sheet_36 rfl (fun c41 ec41 => ?_)
    exact zr_iret hG dX9_sheet_38 ⟨hO0, hA0, (by first | (exfalso; omega) | exact Or.inl ⟨by omega, by omega, by first | rfl | assumption, by first | rfl | assumption, by first | rfl | assumption⟩ | exact Or.inr (Or.inl ⟨by omega, by omega, by omega, by first | rfl | assumption, by first | rfl | assumption, by first | rfl | assumption⟩) | exact Or.inr (Or.inr (⟨by omega, by omega, by omega, by first | rfl | assumption, by first | rfl | assumption, by assumption⟩)))⟩
  refine zr_iconst hB dX9_sheet_30 rfl (fun c42 ec42 => ?_)
  exact zr_iret hG dX9_sheet_31 ⟨hO0, hA0, (by first | (exfalso; omega) | exact Or.inl ⟨by omega, by omega, by first | rfl | assumption, by first | rfl | assumption, by first | rfl | assumption⟩ | exact Or.inr (Or.inl ⟨by omega, by omega, by omega, by first | rfl | assumption, by first | rfl | assumption, by first | rfl | assumption⟩) | exact Or.inr (Or.inr (⟨by omega, by omega, by omega, by first | rfl | assumption, by first | rfl | assumption, by assumption⟩)))⟩

def m_M_lay : zc_ms := [(26, none)]
set_option maxHeartbeats 1000000 in
set_option maxRecDepth 100000 in
theorem c_M_lay (K : zc_K) (hi : zc_inj shM K.2.2.2.1) (σ0 : zc_S) (p1 : Int32) (p2 : Int32) (p3 : Int32) (hO0 : zc_O okM σ0)  : zc_M shM K yX9_lay cX9_lay 4 (some .int) (zrm 1 25) σ0 [.ref (zk K 0), .int p1, .int p2, .int p3] (zc_I (fun r9 σ9 => zc_O okM σ9 ∧ zc_Ag m_M_lay σ0 σ9 ∧ ((¬ (0 ≤ p1.toInt ∧ p1.toInt ≤ 3) ∧ r9.toInt = -1 ∧ σ9 = σ0) ∨ ((0 ≤ p1.toInt ∧ p1.toInt ≤ 3) ∧ (σ0.1 24 p1.toInt.toNat).toInt = -4 ∧ r9.toInt = -11 ∧ σ9 = σ0) ∨ ((0 ≤ p1.toInt ∧ p1.toInt ≤ 3) ∧ ¬ (σ0.1 24 p1.toInt.toNat).toInt = -4 ∧ (p2.toInt < 0 ∨ (σ0.1 25 p1.toInt.toNat).toInt ≤ p2.toInt) ∧ r9.toInt = -12 ∧ σ9 = σ0) ∨ ((0 ≤ p1.toInt ∧ p1.toInt ≤ 3) ∧ ¬ (σ0.1 24 p1.toInt.toNat).toInt = -4 ∧ 0 ≤ p2.toInt ∧ p2.toInt < (σ0.1 25 p1.toInt.toNat).toInt ∧ r9.toInt = 1 ∧ (∃ x9 : Int32, x9.toInt = zv_nr (σ0.1 24 p1.toInt.toNat).toInt p3.toInt ∧ σ9 = zc_u σ0 26 (64 * p1.toInt + p2.toInt).toNat x9))))) := by
  refine zc_start RX9 hi pfX9_lay rfl (Nat.le_of_ble_eq_true rfl) ?_
  intro G hG
  have hB := hG.1
  have hA0 : zc_Ag m_M_lay σ0 σ0 := zc_Ag.rf
  show zc_V 4 K G (zc_D shM K G σ0) [(0, .ref (zk K 0)), (1, .int p1), (2, .int p2), (3, .int p3)] 0 []
  refine zr_iload_n hB 1 dX9_lay_0 rfl ?_
  have v2 := And.intro (zn_lo p1) (zn_hi p1)
  refine zr_i2l hB dX9_lay_1 (fun l1 el1 => ?_)
  refine zr_lconst hB dX9_lay_2 (m := 0) rfl (fun c3 ec3 => ?_)
  refine zr_ldc2 hB dX9_lay_3 wc_X9_89 (n := 3) rfl (fun c4 ec4 => ?_)
  refine zr_callsi hG (rest := []) dX9_lay_6 wm_X9_91 (c_M_in K hG.2.2.2.2.2.1 σ0 l1 c3 c4 hO0 ) rfl rfl (Nat.le_of_ble_eq_true rfl) ⟨Nat.le_of_ble_eq_true rfl, Nat.le_of_ble_eq_true rfl, rfl, rfl⟩ (fun r5 σ6 h7 => ?_)
  obtain ⟨rfl, r5q⟩ := h7
  have r5z := r5q.b
  refine zr_if_ne hB dX9_lay_9 (tgt := 14) rfl (fun c8 => ?_) (fun c8 => ?_)
  · have q9 := r5q.t c8
    refine zr_aload_n hB 0 dX9_lay_14 rfl ?_
    refine zr_getr hG 0 36 dX9_lay_15 rfl wf_X9_80 rfl ?_
    refine zr_iload_n hB 1 dX9_lay_18 rfl ?_
    refine zr_iald hG 24 dX9_lay_19 rfl (by omega) (by omega) (fun x10 ex10 => ?_)
    have bx10 : (-4) ≤ x10.toInt ∧ x10.toInt ≤ 2 := by rw [ex10]; exact ⟨(hO0 24 _).1, (hO0 24 _).2.1⟩
    refine zr_bipush hB dX9_lay_20 rfl (fun c11 ec11 => ?_)
    refine zr_icmp_ne hB dX9_lay_22 (tgt := 28) rfl (fun c12 => ?_) (fun c12 => ?_)
    · refine zr_iload_n hB 2 dX9_lay_28 rfl ?_
      have v14 := And.intro (zn_lo p2) (zn_hi p2)
      refine zr_i2l hB dX9_lay_29 (fun l13 el13 => ?_)
      refine zr_lconst hB dX9_lay_30 (m := 0) rfl (fun c15 ec15 => ?_)
      refine zr_aload_n hB 0 dX9_lay_31 rfl ?_
      refine zr_getr hG 0 37 dX9_lay_32 rfl wf_X9_83 rfl ?_
      refine zr_iload_n hB 1 dX9_lay_35 rfl ?_
      refine zr_iald hG 25 dX9_lay_36 rfl (by omega) (by omega) (fun x16 ex16 => ?_)
      have bx16 : 0 ≤ x16.toInt ∧ x16.toInt ≤ 64 := by rw [ex16]; exact ⟨(hO0 25 _).1, (hO0 25 _).2.1⟩
      refine zr_iconst hB dX9_lay_37 rfl (fun c17 ec17 => ?_)
      refine zr_isub hB dX9_lay_38 (by omega) (by omega) (fun x18 ex18 => ?_)
      refine zr_i2l hB dX9_lay_39 (fun l19 el19 => ?_)
      refine zr_callsi hG (rest := []) dX9_lay_40 wm_X9_91 (c_M_in K hG.2.2.2.2.2.1 σ0 l13 c15 l19 hO0 ) rfl rfl (Nat.le_of_ble_eq_true rfl) ⟨Nat.le_of_ble_eq_true rfl, Nat.le_of_ble_eq_true rfl, rfl, rfl⟩ (fun r20 σ21 h22 => ?_)
      obtain ⟨rfl, r20q⟩ := h22
      have r20z := r20q.b
      refine zr_if_ne hB dX9_lay_43 (tgt := 49) rfl (fun c23 => ?_) (fun c23 => ?_)
      · have q24 := r20q.t c23
        refine zr_aload_n hB 0 dX9_lay_49 rfl ?_
        refine zr_getr hG 0 38 dX9_lay_50 rfl wf_X9_86 rfl ?_
        refine zr_bipush hB dX9_lay_53 rfl (fun c25 ec25 => ?_)
        refine zr_iload_n hB 1 dX9_lay_55 rfl ?_
        refine zr_imuld hB dX9_lay_56 ec25 (by omega) (by omega) (fun x26 ex26 => ?_)
        refine zr_iload_n hB 2 dX9_lay_57 rfl ?_
        refine zr_iadd hB dX9_lay_58 (by omega) (by omega) (fun x27 ex27 => ?_)
        refine zr_aload_n hB 0 dX9_lay_59 rfl ?_
        refine zr_getr hG 0 36 dX9_lay_60 rfl wf_X9_80 rfl ?_
        refine zr_iload_n hB 1 dX9_lay_63 rfl ?_
        refine zr_iald hG 24 dX9_lay_64 rfl (by omega) (by omega) (fun x28 ex28 => ?_)
        obtain rfl : x10 = x28 := ex10.trans ex28.symm
        refine zr_if_ne hB dX9_lay_65 (tgt := 78) rfl (fun c29 => ?_) (fun c29 => ?_)
        · refine zr_aload_n hB 0 dX9_lay_78 rfl ?_
          refine zr_getr hG 0 36 dX9_lay_79 rfl wf_X9_80 rfl ?_
          refine zr_iload_n hB 1 dX9_lay_82 rfl ?_
          refine zr_iald hG 24 dX9_lay_83 rfl (by omega) (by omega) (fun x30 ex30 => ?_)
          obtain rfl : x10 = x30 := ex10.trans ex30.symm
          refine zr_iconst hB dX9_lay_84 rfl (fun c31 ec31 => ?_)
          refine zr_icmp_ne hB dX9_lay_85 (tgt := 98) rfl (fun c32 => ?_) (fun c32 => ?_)
          · refine zr_iload_n hB 3 dX9_lay_98 rfl ?_
            refine zr_iast hG 26 dX9_lay_99 rfl (by omega) (by omega)  ?_
            have hOw33 := zc_O.u hO0 26 x27.toInt.toNat (v := p3) (zn_lo _) (zn_hi _) (Or.inr (zn_lo _))
            have hAw33 := zc_Ag.u hA0 26 x27.toInt.toNat p3 rfl
            refine zr_iconst hB dX9_lay_100 rfl (fun c34 ec34 => ?_)
            exact zr_iret hG dX9_lay_101 ⟨hOw33, hAw33, (by have hqx10 := congrArg Int32.toInt ex10; have hqx16 := congrArg Int32.toInt ex16; exact Or.inr (Or.inr (Or.inr ⟨by omega, by omega, by omega, by omega, by omega, ⟨p3, by unfold zv_nr; rw [if_neg (by omega), if_neg (by omega)], by rw [show (64 * p1.toInt + p2.toInt).toNat = x27.toInt.toNat by omega]⟩⟩)))⟩
          refine zr_iload_n hB 3 dX9_lay_88 rfl ?_
          refine zr_bipush hB dX9_lay_89 rfl (fun c35 ec35 => ?_)
          refine zr_ishl hB dX9_lay_91 (fun x36 ex36 => ?_)
          refine zr_bipush hB dX9_lay_92 rfl (fun c37 ec37 => ?_)
          refine zr_ishr hB dX9_lay_94 (fun x38 ex38 => ?_)
          refine zr_goto hB dX9_lay_95 (tgt := 99) rfl ?_
          refine zr_iast hG 26 dX9_lay_99 rfl (by omega) (by omega)  ?_
          have hOw39 := zc_O.u hO0 26 x27.toInt.toNat (v := x38) (zn_lo _) (zn_hi _) (Or.inr (zn_lo _))
          have hAw39 := zc_Ag.u hA0 26 x27.toInt.toNat x38 rfl
          refine zr_iconst hB dX9_lay_100 rfl (fun c40 ec40 => ?_)
          exact zr_iret hG dX9_lay_101 ⟨hOw39, hAw39, (by have hqx10 := congrArg Int32.toInt ex10; have hqx16 := congrArg Int32.toInt ex16; exact Or.inr (Or.inr (Or.inr ⟨by omega, by omega, by omega, by omega, by omega, ⟨x38, by unfold zv_nr; rw [if_neg (by omega), if_pos (by omega)]; exact zv_16 ex36 ex38 ec35 ec37, by rw [show (64 * p1.toInt + p2.toInt).toNat = x27.toInt.toNat by omega]⟩⟩)))⟩
        refine zr_iload_n hB 3 dX9_lay_68 rfl ?_
        refine zr_bipush hB dX9_lay_69 rfl (fun c41 ec41 => ?_)
        refine zr_ishl hB dX9_lay_71 (fun x42 ex42 => ?_)
        refine zr_bipush hB dX9_lay_72 rfl (fun c43 ec43 => ?_)
        refine zr_ishr hB dX9_lay_74 (fun x44 ex44 => ?_)
        refine zr_goto hB dX9_lay_75 (tgt := 99) rfl ?_
        refine zr_iast hG 26 dX9_lay_99 rfl (by omega) (by omega)  ?_
        have hOw45 := zc_O.u hO0 26 x27.toInt.toNat (v := x44) (zn_lo _) (zn_hi _) (Or.inr (zn_lo _))
        have hAw45 := zc_Ag.u hA0 26 x27.toInt.toNat x44 rfl
        refine zr_iconst hB dX9_lay_100 rfl (fun c46 ec46 => ?_)
        exact zr_iret hG dX9_lay_101 ⟨hOw45, hAw45, (by have hqx10 := congrArg Int32.toInt ex10; have hqx16 := congrArg Int32.toInt ex16; exact Or.inr (Or.inr (Or.inr ⟨by omega, by omega, by omega, by omega, by omega, ⟨x44, by unfold zv_nr; rw [if_pos (by omega)]; exact zv_24 ex42 ex44 ec41 ec43, by rw [show (64 * p1.toInt + p2.toInt).toNat = x27.toInt.toNat by omega]⟩⟩)))⟩
      have q47 := r20q.f c23
      refine zr_bipush hB dX9_lay_46 rfl (fun c48 ec48 => ?_)
      exact zr_iret hG dX9_lay_48 ⟨hO0, hA0, (by by_cases h9 : (σ0.1 24 p1.toInt.toNat).toInt = -4; exact (by have hqx10 := congrArg Int32.toInt ex10; have hqx16 := congrArg Int32.toInt ex16; first | (exfalso; omega) | exact Or.inl ⟨by omega, by omega, by first | rfl | assumption⟩ | exact Or.inr (Or.inl ⟨by omega, by omega, by omega, by first | rfl | assumption⟩) | exact Or.inr (Or.inr (Or.inl ⟨by omega, by omega, by omega, by omega, by first | rfl | assumption⟩)) | exact Or.inr (Or.inr (Or.inr (⟨by omega, by omega, by omega, by omega, by omega, by first | rfl | assumption⟩)))); exact (by have hqx10 := congrArg Int32.toInt ex10; have hqx16 := congrArg Int32.toInt ex16; first | (exfalso; omega) | exact Or.inl ⟨by omega, by omega, by first | rfl | assumption⟩ | exact Or.inr (Or.inl ⟨by omega, by omega, by omega, by first | rfl | assumption⟩) | exact Or.inr (Or.inr (Or.inl ⟨by omega, by omega, by omega, by omega, by first | rfl | assumption⟩)) | exact Or.inr (Or.inr (Or.inr (⟨by omega, by omega, by omega, by omega, by omega, by first | rfl | assumption⟩)))))⟩
    refine zr_bipush hB dX9_lay_25 rfl (fun c49 ec49 => ?_)
    exact zr_iret hG dX9_lay_27 ⟨hO0, hA0, (by by_cases h9 : (σ0.1 24 p1.toInt.toNat).toInt = -4; exact (by have hqx10 := congrArg Int32.toInt ex10; first | (exfalso; omega) | exact Or.inl ⟨by omega, by omega, by first | rfl | assumption⟩ | exact Or.inr (Or.inl ⟨by omega, by omega, by omega, by first | rfl | assumption⟩) | exact Or.inr (Or.inr (Or.inl ⟨by omega, by omega, by omega, by omega, by first | rfl | assumption⟩)) | exact Or.inr (Or.inr (Or.inr (⟨by omega, by omega, by omega, by omega, by omega, by first | rfl | assumption⟩)))); exact (by have hqx10 := congrArg Int32.toInt ex10; first | (exfalso; omega) | exact Or.inl ⟨by omega, by omega, by first | rfl | assumption⟩ | exact Or.inr (Or.inl ⟨by omega, by omega, by omega, by first | rfl | assumption⟩) | exact Or.inr (Or.inr (Or.inl ⟨by omega, by omega, by omega, by omega, by first | rfl | assumption⟩)) | exact Or.inr (Or.inr (Or.inr (⟨by omega, by omega, by omega, by omega, by omega, by first | rfl | assumption⟩)))))⟩
  have q50 := r5q.f c8
  refine zr_iconst hB dX9_lay_12 rfl (fun c51 ec51 => ?_)
  exact zr_iret hG dX9_lay_13 ⟨hO0, hA0, (by by_cases h9 : (σ0.1 24 p1.toInt.toNat).toInt = -4; exact (by first | (exfalso; omega) | exact Or.inl ⟨by omega, by omega, by first | rfl | assumption⟩ | exact Or.inr (Or.inl ⟨by omega, by omega, by omega, by first | rfl | assumption⟩) | exact Or.inr (Or.inr (Or.inl ⟨by omega, by omega, by omega, by omega, by first | rfl | assumption⟩)) | exact Or.inr (Or.inr (Or.inr (⟨by omega, by omega, by omega, by omega, by omega, by first | rfl | assumption⟩)))); exact (by first | (exfalso; omega) | exact Or.inl ⟨by omega, by omega, by first | rfl | assumption⟩ | exact Or.inr (Or.inl ⟨by omega, by omega, by omega, by first | rfl | assumption⟩) | exact Or.inr (Or.inr (Or.inl ⟨by omega, by omega, by omega, by omega, by first | rfl | assumption⟩)) | exact Or.inr (Or.inr (Or.inr (⟨by omega, by omega, by omega, by omega, by omega, by first | rfl | assumption⟩)))))⟩
