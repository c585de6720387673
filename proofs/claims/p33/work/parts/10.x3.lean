set_option maxHeartbeats 1000000 in
set_option maxRecDepth 100000 in
theorem c_X8_agree_0 (K : zc_K) (hi : zc_inj shX K.2.2.2.1) (σ0 : zc_S) (p1 : Int64) (p3 : Int32) (p4 : Int32) (p5 : Int32) (hO0 : zc_O okX σ0)  : zc_M shX K yX8_agree cX8_agree 12 (some .int) (zrm 2 49) σ0 [.ref (zk K 0), .long p1, .int p3, .int p4, .int p5] (zc_I (fun r9 σ9 => σ0 = σ9)) := by
  refine zc_start RX8 hi pfX8_agree rfl (Nat.le_of_ble_eq_true rfl) ?_
  intro G hG
  have hB := hG.1
  show zc_V 12 K G (zc_D shX K G σ0) [(0, .ref (zk K 0)), (1, .long p1), (3, .int p3), (4, .int p4), (5, .int p5)] 0 []
  refine zr_lload_n hB 1 dX8_agree_0 rfl ?_
  refine zr_lconst hB dX8_agree_1 (m := 0) rfl (fun c1 ec1 => ?_)
  refine zr_lcmp_lt hB dX8_agree_2 dX8_agree_3 (tgt := 18) rfl (fun c2 => ?_) (fun c2 => ?_)
  · refine zr_iconst hB dX8_agree_18 rfl (fun c3 ec3 => ?_)
    refine zr_istore hB dX8_agree_19 (by decide) (lv' := [(6, .int c3), (0, .ref (zk K 0)), (1, .long p1), (3, .int p3), (4, .int p4), (5, .int p5)]) rfl ?_
    refine zr_iload_n hB 3 dX8_agree_21 rfl ?_
    refine zr_if_lt hB dX8_agree_22 (tgt := 35) rfl (fun c4 => ?_) (fun c4 => ?_)
    · refine zr_iconst hB dX8_agree_35 rfl (fun c5 ec5 => ?_)
      refine zr_istore hB dX8_agree_36 (by decide) (lv' := [(7, .int c5), (6, .int c3), (0, .ref (zk K 0)), (1, .long p1), (3, .int p3), (4, .int p4), (5, .int p5)]) rfl ?_
      refine zr_iload hB 1 dX8_agree_38 rfl ?_
      refine zr_if_eq hB dX8_agree_40 (tgt := 69) rfl (fun c6 => ?_) (fun c6 => ?_)
      · refine zr_ldc hB dX8_agree_69 wc_X8_198 (n := (-100000)) rfl (fun c7 ec7 => ?_)
        exact zr_iret hG dX8_agree_71 rfl
      exfalso; omega
    refine zr_iload_n hB 3 dX8_agree_25 rfl ?_
    refine zr_ldc hB dX8_agree_26 wc_X8_197 (n := 100000000) rfl (fun c8 ec8 => ?_)
    refine zr_icmp_ge hB dX8_agree_28 (tgt := 35) rfl (fun c9 => ?_) (fun c9 => ?_)
    · refine zr_iconst hB dX8_agree_35 rfl (fun c10 ec10 => ?_)
      refine zr_istore hB dX8_agree_36 (by decide) (lv' := [(7, .int c10), (6, .int c3), (0, .ref (zk K 0)), (1, .long p1), (3, .int p3), (4, .int p4), (5, .int p5)]) rfl ?_
      refine zr_iload hB 1 dX8_agree_38 rfl ?_
      refine zr_if_eq hB dX8_agree_40 (tgt := 69) rfl (fun c11 => ?_) (fun c11 => ?_)
      · refine zr_ldc hB dX8_agree_69 wc_X8_198 (n := (-100000)) rfl (fun c12 ec12 => ?_)
        exact zr_iret hG dX8_agree_71 rfl
      exfalso; omega
    refine zr_iconst hB dX8_agree_31 rfl (fun c13 ec13 => ?_)
    refine zr_goto hB dX8_agree_32 (tgt := 36) rfl ?_
    refine zr_istore hB dX8_agree_36 (by decide) (lv' := [(7, .int c13), (6, .int c3), (0, .ref (zk K 0)), (1, .long p1), (3, .int p3), (4, .int p4), (5, .int p5)]) rfl ?_
    refine zr_iload hB 1 dX8_agree_38 rfl ?_
    refine zr_if_eq hB dX8_agree_40 (tgt := 69) rfl (fun c14 => ?_) (fun c14 => ?_)
    · refine zr_ldc hB dX8_agree_69 wc_X8_198 (n := (-100000)) rfl (fun c15 ec15 => ?_)
      exact zr_iret hG dX8_agree_71 rfl
    exfalso; omega
  refine zr_lload_n hB 1 dX8_agree_6 rfl ?_
  refine zr_ldc2 hB dX8_agree_7 wc_X8_195 (n := 1000000000000) rfl (fun c16 ec16 => ?_)
  refine zr_lcmp_ge hB dX8_agree_10 dX8_agree_11 (tgt := 18) rfl (fun c17 => ?_) (fun c17 => ?_)
  · refine zr_iconst hB dX8_agree_18 rfl (fun c18 ec18 => ?_)
    refine zr_istore hB dX8_agree_19 (by decide) (lv' := [(6, .int c18), (0, .ref (zk K 0)), (1, .long p1), (3, .int p3), (4, .int p4), (5, .int p5)]) rfl ?_
    refine zr_iload_n hB 3 dX8_agree_21 rfl ?_
    refine zr_if_lt hB dX8_agree_22 (tgt := 35) rfl (fun c19 => ?_) (fun c19 => ?_)
    · refine zr_iconst hB dX8_agree_35 rfl (fun c20 ec20 => ?_)
      refine zr_istore hB dX8_agree_36 (by decide) (lv' := [(7, .int c20), (6, .int c18), (0, .ref (zk K 0)), (1, .long p1), (3, .int p3), (4, .int p4), (5, .int p5)]) rfl ?_
      refine zr_iload hB 1 dX8_agree_38 rfl ?_
      refine zr_if_eq hB dX8_agree_40 (tgt := 69) rfl (fun c21 => ?_) (fun c21 => ?_)
      · refine zr_ldc hB dX8_agree_69 wc_X8_198 (n := (-100000)) rfl (fun c22 ec22 => ?_)
        exact zr_iret hG dX8_agree_71 rfl
      exfalso; omega
    refine zr_iload_n hB 3 dX8_agree_25 rfl ?_
    refine zr_ldc hB dX8_agree_26 wc_X8_197 (n := 100000000) rfl (fun c23 ec23 => ?_)
    refine zr_icmp_ge hB dX8_agree_28 (tgt := 35) rfl (fun c24 => ?_) (fun c24 => ?_)
    · refine zr_iconst hB dX8_agree_35 rfl (fun c25 ec25 => ?_)
      refine zr_istore hB dX8_agree_36 (by decide) (lv' := [(7, .int c25), (6, .int c18), (0, .ref (zk K 0)), (1, .long p1), (3, .int p3), (4, .int p4), (5, .int p5)]) rfl ?_
      refine zr_iload hB 1 dX8_agree_38 rfl ?_
      refine zr_if_eq hB dX8_agree_40 (tgt := 69) rfl (fun c26 => ?_) (fun c26 => ?_)
      · refine zr_ldc hB dX8_agree_69 wc_X8_198 (n := (-100000)) rfl (fun c27 ec27 => ?_)
        exact zr_iret hG dX8_agree_71 rfl
      exfalso; omega
    refine zr_iconst hB dX8_agree_31 rfl (fun c28 ec28 => ?_)
    refine zr_goto hB dX8_agree_32 (tgt := 36) rfl ?_
    refine zr_istore hB dX8_agree_36 (by decide) (lv' := [(7, .int c28), (6, .int c18), (0, .ref (zk K 0)), (1, .long p1), (3, .int p3), (4, .int p4), (5, .int p5)]) rfl ?_
    refine zr_iload hB 1 dX8_agree_38 rfl ?_
    refine zr_if_eq hB dX8_agree_40 (tgt := 69) rfl (fun c29 => ?_) (fun c29 => ?_)
    · refine zr_ldc hB dX8_agree_69 wc_X8_198 (n := (-100000)) rfl (fun c30 ec30 => ?_)
      exact zr_iret hG dX8_agree_71 rfl
    exfalso; omega
  refine zr_iconst hB dX8_agree_14 rfl (fun c31 ec31 => ?_)
  refine zr_goto hB dX8_agree_15 (tgt := 19) rfl ?_
  refine zr_istore hB dX8_agree_19 (by decide) (lv' := [(6, .int c31), (0, .ref (zk K 0)), (1, .long p1), (3, .int p3), (4, .int p4), (5, .int p5)]) rfl ?_
  refine zr_iload_n hB 3 dX8_agree_21 rfl ?_
  refine zr_if_lt hB dX8_agree_22 (tgt := 35) rfl (fun c32 => ?_) (fun c32 => ?_)
  · refine zr_iconst hB dX8_agree_35 rfl (fun c33 ec33 => ?_)
    refine zr_istore hB dX8_agree_36 (by decide) (lv' := [(7, .int c33), (6, .int c31), (0, .ref (zk K 0)), (1, .long p1), (3, .int p3), (4, .int p4), (5, .int p5)]) rfl ?_
    refine zr_iload hB 1 dX8_agree_38 rfl ?_
    refine zr_if_eq hB dX8_agree_40 (tgt := 69) rfl (fun c34 => ?_) (fun c34 => ?_)
    · exfalso; omega
    refine zr_iload hB 0 dX8_agree_43 rfl ?_
    refine zr_if_eq hB dX8_agree_45 (tgt := 69) rfl (fun c35 => ?_) (fun c35 => ?_)
    · refine zr_ldc hB dX8_agree_69 wc_X8_198 (n := (-100000)) rfl (fun c36 ec36 => ?_)
      exact zr_iret hG dX8_agree_71 rfl
    exfalso; omega
  refine zr_iload_n hB 3 dX8_agree_25 rfl ?_
  refine zr_ldc hB dX8_agree_26 wc_X8_197 (n := 100000000) rfl (fun c37 ec37 => ?_)
  refine zr_icmp_ge hB dX8_agree_28 (tgt := 35) rfl (fun c38 => ?_) (fun c38 => ?_)
  · refine zr_iconst hB dX8_agree_35 rfl (fun c39 ec39 => ?_)
    refine zr_istore hB dX8_agree_36 (by decide) (lv' := [(7, .int c39), (6, .int c31), (0, .ref (zk K 0)), (1, .long p1), (3, .int p3), (4, .int p4), (5, .int p5)]) rfl ?_
    refine zr_iload hB 1 dX8_agree_38 rfl ?_
    refine zr_if_eq hB dX8_agree_40 (tgt := 69) rfl (fun c40 => ?_) (fun c40 => ?_)
    · exfalso; omega
    refine zr_iload hB 0 dX8_agree_43 rfl ?_
    refine zr_if_eq hB dX8_agree_45 (tgt := 69) rfl (fun c41 => ?_) (fun c41 => ?_)
    · refine zr_ldc hB dX8_agree_69 wc_X8_198 (n := (-100000)) rfl (fun c42 ec42 => ?_)
      exact zr_iret hG dX8_agree_71 rfl
    exfalso; omega
  refine zr_iconst hB dX8_agree_31 rfl (fun c43 ec43 => ?_)
  refine zr_goto hB dX8_agree_32 (tgt := 36) rfl ?_
  refine zr_istore hB dX8_agree_36 (by decide) (lv' := [(7, .int c43), (6, .int c31), (0, .ref (zk K 0)), (1, .long p1), (3, .int p3), (4, .int p4), (5, .int p5)]) rfl ?_
  refine zr_iload hB 1 dX8_agree_38 rfl ?_
  refine zr_if_eq hB dX8_agree_40 (tgt := 69) rfl (fun c44 => ?_) (fun c44 => ?_)
  · exfalso; omega
  refine zr_iload hB 0 dX8_agree_43 rfl ?_
  refine zr_if_eq hB dX8_agree_45 (tgt := 69) rfl (fun c45 => ?_) (fun c45 => ?_)
  · exfalso; omega
  refine zr_iload hB 5 dX8_agree_48 rfl ?_
  refine zr_if_lt hB dX8_agree_50 (tgt := 69) rfl (fun c46 => ?_) (fun c46 => ?_)
  · refine zr_ldc hB dX8_agree_69 wc_X8_198 (n := (-100000)) rfl (fun c47 ec47 => ?_)
    exact zr_iret hG dX8_agree_71 rfl
  refine zr_iload hB 5 dX8_agree_53 rfl ?_
  refine zr_sipush hB dX8_agree_55 rfl (fun c48 ec48 => ?_)
  refine zr_icmp_gt hB dX8_agree_58 (tgt := 69) rfl (fun c49 => ?_) (fun c49 => ?_)
  · refine zr_ldc hB dX8_agree_69 wc_X8_198 (n := (-100000)) rfl (fun c50 ec50 => ?_)
    exact zr_iret hG dX8_agree_71 rfl
  refine zr_iload hB 6 dX8_agree_61 rfl ?_
  refine zr_callsi hG (rest := []) dX8_agree_63 wm_X8_70 (c_X8_isShop K hG.2.2.2.2.2.1 σ0 p5 hO0 ) rfl rfl (Nat.le_of_ble_eq_true rfl) ⟨Nat.le_of_ble_eq_true rfl, Nat.le_of_ble_eq_true rfl, rfl, rfl⟩ (fun r51 σ52 h53 => ?_)
  obtain ⟨rfl, r51q⟩ := h53
  have r51z := r51q.b
  refine zr_if_ne hB dX8_agree_66 (tgt := 72) rfl (fun c54 => ?_) (fun c54 => ?_)
  · have q55 := r51q.t c54
    refine zr_iconst hB dX8_agree_72 rfl (fun c56 ec56 => ?_)
    refine zr_istore hB dX8_agree_73 (by decide) (lv' := [(8, .int c56), (7, .int c43), (6, .int c31), (0, .ref (zk K 0)), (1, .long p1), (3, .int p3), (4, .int p4), (5, .int p5)]) rfl ?_
    refine zr_iconst hB dX8_agree_75 rfl (fun c57 ec57 => ?_)
    refine zr_istore hB dX8_agree_76 (by decide) (lv' := [(9, .int c57), (8, .int c56), (7, .int c43), (6, .int c31), (0, .ref (zk K 0)), (1, .long p1), (3, .int p3), (4, .int p4), (5, .int p5)]) rfl ?_
    refine zr_iconst hB dX8_agree_78 rfl (fun c58 ec58 => ?_)
    refine zr_istore hB dX8_agree_79 (by decide) (lv' := [(10, .int c58), (9, .int c57), (8, .int c56), (7, .int c43), (6, .int c31), (0, .ref (zk K 0)), (1, .long p1), (3, .int p3), (4, .int p4), (5, .int p5)]) rfl ?_
    have L81_64 : ∀ (n81 : Nat) (y8_59 : Int32) (y9_60 : Int32) (y10_61 : Int32), 0 ≤ y8_59.toInt → y8_59.toInt ≤ 3996 → 0 ≤ y9_60.toInt → y9_60.toInt ≤ 396 → 0 ≤ y10_61.toInt → y10_61.toInt ≤ 4 → y8_59.toInt ≤ 999 * y10_61.toInt → y9_60.toInt ≤ 99 * y10_61.toInt → 4 - y10_61.toInt < (n81 : Int) → zc_V 12 K G (zc_D shX K G σ0) [(0, .ref (zk K 0)), (1, .long p1), (3, .int p3), (4, .int p4), (5, .int p5), (6, .int c31), (7, .int c43), (8, .int y8_59), (9, .int y9_60), (10, .int y10_61)] 81 [] := by
      intro n81
      induction n81 with
      | zero => intro y8_59 y9_60 y10_61 y8_59a y8_59b y9_60a y9_60b y10_61a y10_61b e62 e63 hn81; exfalso; omega
      | succ n81 ih81 =>
        intro y8_59 y9_60 y10_61 y8_59a y8_59b y9_60a y9_60b y10_61a y10_61b e62 e63 hn81
        refine zr_iload hB 9 dX8_agree_81 rfl ?_
        refine zr_iconst hB dX8_agree_83 rfl (fun c65 ec65 => ?_)
        refine zr_icmp_ge hB dX8_agree_84 (tgt := 115) rfl (fun c66 => ?_) (fun c66 => ?_)
        · refine zr_lload_n hB 1 dX8_agree_115 rfl ?_
          refine zr_iload hB 4 dX8_agree_116 rfl ?_
          refine zr_callsi hG (rest := []) dX8_agree_118 wm_X8_199 (c_X8_numberAt K hG.2.2.2.2.2.1 σ0 p1 p5 hO0 (by omega) (by omega) (by omega) (by omega)) rfl rfl (Nat.le_of_ble_eq_true rfl) ⟨Nat.le_of_ble_eq_true rfl, Nat.le_of_ble_eq_true rfl, rfl, rfl⟩ (fun r67 σ68 h69 => ?_)
          obtain ⟨rfl, r67a, r67b⟩ := h69
          refine zr_istore hB dX8_agree_121 (by decide) (lv' := [(10, .int r67), (0, .ref (zk K 0)), (1, .long p1), (3, .int p3), (4, .int p4), (5, .int p5), (6, .int c31), (7, .int c43), (8, .int y8_59), (9, .int y9_60)]) rfl ?_
          refine zr_iload hB 8 dX8_agree_123 rfl ?_
          refine zr_iload hB 4 dX8_agree_125 rfl ?_
          refine zr_icmp_ne hB dX8_agree_127 (tgt := 133) rfl (fun c70 => ?_) (fun c70 => ?_)
          · refine zr_iload hB 9 dX8_agree_133 rfl ?_
            refine zr_if_ne hB dX8_agree_135 (tgt := 141) rfl (fun c71 => ?_) (fun c71 => ?_)
            · refine zr_iload_n hB 3 dX8_agree_141 rfl ?_
              refine zr_iload hB 9 dX8_agree_142 rfl ?_
              refine zr_iload hB 4 dX8_agree_144 rfl ?_
              refine zr_iload hB 8 dX8_agree_146 rfl ?_
              refine zr_isub hB dX8_agree_148 (by omega) (by omega) (fun x72 ex72 => ?_)
              refine zr_callsi hG (rest := [.int y9_60, .int p3]) dX8_agree_149 wm_X8_207 (c_J9_abs_0f7a4 K hG.2.2.2.2.2.1 σ0 x72 hO0 (by omega)) rfl rfl (Nat.le_of_ble_eq_true rfl) ⟨Nat.le_of_ble_eq_true rfl, Nat.le_of_ble_eq_true rfl, rfl, rfl⟩ (fun r73 σ74 h75 => ?_)
              obtain ⟨rfl, r73a, g76⟩ := h75
              refine zr_iload hB 5 dX8_agree_152 rfl ?_
              refine zr_callsi hG (rest := []) dX8_agree_154 wm_X8_212 (c_X8_shareOf K hG.2.2.2.2.2.1 σ0 p3 y9_60 r73 p5 hO0 (by omega) (by omega) (by omega) (by omega)) rfl rfl (Nat.le_of_ble_eq_true rfl) ⟨Nat.le_of_ble_eq_true rfl, Nat.le_of_ble_eq_true rfl, rfl, rfl⟩ (fun r77 σ78 h79 => ?_)
              obtain rfl := h79
              refine zr_istore hB dX8_agree_157 (by decide) (lv' := [(11, .int r77), (10, .int r67), (0, .ref (zk K 0)), (1, .long p1), (3, .int p3), (4, .int p4), (5, .int p5), (6, .int c31), (7, .int c43), (8, .int y8_59), (9, .int y9_60)]) rfl ?_
              refine zr_iload hB 5 dX8_agree_159 rfl ?_
              refine zr_iload hB 9 dX8_agree_161 rfl ?_
              refine zr_icmp_le hB dX8_agree_163 (tgt := 174) rfl (fun c80 => ?_) (fun c80 => ?_)
              · refine zr_iload hB 1 dX8_agree_174 rfl ?_
                refine zr_iload hB 0 dX8_agree_176 rfl ?_
                refine zr_isubw hB dX8_agree_178 (fun x81 ex81 => ?_)
                exact zr_iret hG dX8_agree_179 rfl
              refine zr_iload hB 1 dX8_agree_166 rfl ?_
              refine zr_iload hB 0 dX8_agree_168 rfl ?_
              refine zr_iaddw hB dX8_agree_170 (fun x82 ex82 => ?_)
              refine zr_goto hB dX8_agree_171 (tgt := 179) rfl ?_
              exact zr_iret hG dX8_agree_179 rfl
            refine zr_ldc hB dX8_agree_138 wc_X8_206 (n := (-100004)) rfl (fun c83 ec83 => ?_)
            exact zr_iret hG dX8_agree_140 rfl
          refine zr_iload hB 0 dX8_agree_130 rfl ?_
          exact zr_iret hG dX8_agree_132 rfl
        refine zr_iload hB 7 dX8_agree_87 rfl ?_
        refine zr_lload_n hB 1 dX8_agree_89 rfl ?_
        refine zr_iload hB 9 dX8_agree_90 rfl ?_
        refine zr_callsi hG (rest := [.int y8_59]) dX8_agree_92 wm_X8_199 (c_X8_numberAt K hG.2.2.2.2.2.1 σ0 p1 y10_61 hO0 (by omega) (by omega) (by omega) (by omega)) rfl rfl (Nat.le_of_ble_eq_true rfl) ⟨Nat.le_of_ble_eq_true rfl, Nat.le_of_ble_eq_true rfl, rfl, rfl⟩ (fun r84 σ85 h86 => ?_)
        obtain ⟨rfl, r84a, r84b⟩ := h86
        refine zr_iadd hB dX8_agree_95 (by omega) (by omega) (fun x87 ex87 => ?_)
        refine zr_istore hB dX8_agree_96 (by decide) (lv' := [(8, .int x87), (0, .ref (zk K 0)), (1, .long p1), (3, .int p3), (4, .int p4), (5, .int p5), (6, .int c31), (7, .int c43), (9, .int y9_60), (10, .int y10_61)]) rfl ?_
        refine zr_iload hB 8 dX8_agree_98 rfl ?_
        refine zr_iload_n hB 3 dX8_agree_100 rfl ?_
        refine zr_iload hB 9 dX8_agree_101 rfl ?_
        refine zr_callsi hG (rest := [.int y9_60]) dX8_agree_103 wm_X8_203 (c_X8_weightAt K hG.2.2.2.2.2.1 σ0 p3 y10_61 hO0 (by omega) (by omega) (by omega) (by omega)) rfl rfl (Nat.le_of_ble_eq_true rfl) ⟨Nat.le_of_ble_eq_true rfl, Nat.le_of_ble_eq_true rfl, rfl, rfl⟩ (fun r88 σ89 h90 => ?_)
        obtain ⟨rfl, r88a, r88b⟩ := h90
        refine zr_iadd hB dX8_agree_106 (by omega) (by omega) (fun x91 ex91 => ?_)
        refine zr_istore hB dX8_agree_107 (by decide) (lv' := [(9, .int x91), (8, .int x87), (0, .ref (zk K 0)), (1, .long p1), (3, .int p3), (4, .int p4), (5, .int p5), (6, .int c31), (7, .int c43), (10, .int y10_61)]) rfl ?_
        refine zr_iinc hB 9 dX8_agree_109 rfl (by decide) rfl (by omega) (by omega) (fun x92 ex92 lv' hlv => ?_)
        obtain rfl : [(10, .int x92), (9, .int x91), (8, .int x87), (0, .ref (zk K 0)), (1, .long p1), (3, .int p3), (4, .int p4), (5, .int p5), (6, .int c31), (7, .int c43)] = lv' := hlv
        refine zr_goto hB dX8_agree_112 (tgt := 81) rfl ?_
        exact zc_sub [3, 4, 5, 6, 7, 8, 9, 2, 1, 0] rfl (ih81 x87 x91 x92 (by omega) (by omega) (by omega) (by omega) (by omega) (by omega) (show x87.toInt ≤ 999 * x92.toInt by omega) (show x91.toInt ≤ 99 * x92.toInt by omega) (by omega))
    exact zc_sub [5, 6, 7, 8, 9, 4, 3, 2, 1, 0] rfl (L81_64 6 c56 c57 c58 (by omega) (by omega) (by omega) (by omega) (by omega) (by omega) (show c56.toInt ≤ 999 * c58.toInt by omega) (show c57.toInt ≤ 99 * c58.toInt by omega) (by omega))
  have q93 := r51q.f c54
  refine zr_ldc hB dX8_agree_69 wc_X8_198 (n := (-100000)) rfl (fun c94 ec94 => ?_)
  exact zr_iret hG dX8_agree_71 rfl

def m_X8_number_0 : zc_ms := [(4, some 3), (4, some 4), (21, none), (9, some 2), (43, none), (22, none), (4, some 7), (4, some 8), (23, none), (4, some 10)]
set_option maxHeartbeats 1000000 in
set_option maxRecDepth 100000 in
theorem c_X8_number_0 (K : zc_K) (hi : zc_inj shX K.2.2.2.1) (σ0 : zc_S) (p1 : Int32) (p2 : Int32) (p3 : Int32) (p4 : Int32) (p5 : Int32) (p6 : Int32) (p7 : Int32) (p8 : Int32) (hO0 : zc_O okX σ0)  : zc_M shX K yX8_number cX8_number 11 (some .int) (zrm 7 190) σ0 [.ref (zk K 0), .int p1, .int p2, .int p3, .int p4, .int p5, .int p6, .int p7, .int p8] (zc_I (fun r9 σ9 => zc_O okX σ9 ∧ zc_Ag m_X8_number_0 σ0 σ9)) := by
  refine zc_start RX8 hi pfX8_number rfl (Nat.le_of_ble_eq_true rfl) ?_
  intro G hG
  have hB := hG.1
  have hA0 : zc_Ag m_X8_number_0 σ0 σ0 := zc_Ag.rf
  show zc_V 11 K G (zc_D shX K G σ0) [(0, .ref (zk K 0)), (1, .int p1), (2, .int p2), (3, .int p3), (4, .int p4), (5, .int p5), (6, .int p6), (7, .int p7), (8, .int p8)] 0 []
  refine zr_aload_n hB 0 dX8_number_0 rfl ?_
  refine zr_iload_n hB 1 dX8_number_1 rfl ?_
  refine zr_iload_n hB 2 dX8_number_2 rfl ?_
  refine zr_iload_n hB 3 dX8_number_3 rfl ?_
  refine zr_callvi hG (rest := []) 0 dX8_number_4 wm_X8_130 rfl rfl (c_X8_isAsked_0 K hG.2.2.2.2.2.1 σ0 p1 p2 p3 hO0 ) rfl rfl (Nat.le_of_ble_eq_true rfl) ⟨Nat.le_of_ble_eq_true rfl, Nat.le_of_ble_eq_true rfl, rfl, rfl⟩ (fun r1 σ2 h3 => ?_)
  obtain ⟨rfl, r1q⟩ := h3
  have r1z := r1q.b
  refine zr_if_eq hB dX8_number_7 (tgt := 31) rfl (fun c4 => ?_) (fun c4 => ?_)
  · have q5 := r1q.f c4
    refine zr_iconst hB dX8_number_31 rfl (fun c6 ec6 => ?_)
    exact zr_iret hG dX8_number_32 ⟨hO0, hA0⟩
  have q7 := r1q.t c4
  refine zr_iload hB 4 dX8_number_10 rfl ?_
  refine zr_iload hB 5 dX8_number_12 rfl ?_
  refine zr_callsi hG (rest := []) dX8_number_14 wm_X8_156 (c_X8_areDays K hG.2.2.2.2.2.1 σ0 p4 p5 hO0 ) rfl rfl (Nat.le_of_ble_eq_true rfl) ⟨Nat.le_of_ble_eq_true rfl, Nat.le_of_ble_eq_true rfl, rfl, rfl⟩ (fun r8 σ9 h10 => ?_)
  obtain ⟨rfl, r8q⟩ := h10
  have r8z := r8q.b
  refine zr_if_eq hB dX8_number_17 (tgt := 31) rfl (fun c11 => ?_) (fun c11 => ?_)
  · have q12 := r8q.f c11
    refine zr_iconst hB dX8_number_31 rfl (fun c13 ec13 => ?_)
    exact zr_iret hG dX8_number_32 ⟨hO0, hA0⟩
  have q14 := r8q.t c11
  refine zr_iload hB 8 dX8_number_20 rfl ?_
  refine zr_if_lt hB dX8_number_22 (tgt := 31) rfl (fun c15 => ?_) (fun c15 => ?_)
  · refine zr_iconst hB dX8_number_31 rfl (fun c16 ec16 => ?_)
    exact zr_iret hG dX8_number_32 ⟨hO0, hA0⟩
  refine zr_iload hB 8 dX8_number_25 rfl ?_
  refine zr_iconst hB dX8_number_27 rfl (fun c17 ec17 => ?_)
  refine zr_icmp_le hB dX8_number_28 (tgt := 33) rfl (fun c18 => ?_) (fun c18 => ?_)
  · refine zr_iload hB 6 dX8_number_33 rfl ?_
    refine zr_callsi hG (rest := []) dX8_number_35 wm_X8_216 (c_X8_isCost K hG.2.2.2.2.2.1 σ0 p6 hO0 ) rfl rfl (Nat.le_of_ble_eq_true rfl) ⟨Nat.le_of_ble_eq_true rfl, Nat.le_of_ble_eq_true rfl, rfl, rfl⟩ (fun r19 σ20 h21 => ?_)
    obtain ⟨rfl, r19q⟩ := h21
    have r19z := r19q.b
    refine zr_if_eq hB dX8_number_38 (tgt := 49) rfl (fun c22 => ?_) (fun c22 => ?_)
    · have q23 := r19q.f c22
      refine zr_iconst hB dX8_number_49 rfl (fun c24 ec24 => ?_)
      exact zr_iret hG dX8_number_50 ⟨hO0, hA0⟩
    have q25 := r19q.t c22
    refine zr_iload hB 7 dX8_number_41 rfl ?_
    refine zr_callsi hG (rest := []) dX8_number_43 wm_X8_216 (c_X8_isCost K hG.2.2.2.2.2.1 σ0 p7 hO0 ) rfl rfl (Nat.le_of_ble_eq_true rfl) ⟨Nat.le_of_ble_eq_true rfl, Nat.le_of_ble_eq_true rfl, rfl, rfl⟩ (fun r26 σ27 h28 => ?_)
    obtain ⟨rfl, r26q⟩ := h28
    have r26z := r26q.b
    refine zr_if_ne hB dX8_number_46 (tgt := 51) rfl (fun c29 => ?_) (fun c29 => ?_)
    · have q30 := r26q.t c29
      refine zr_aload_n hB 0 dX8_number_51 rfl ?_
      refine zr_getr hG 0 3 dX8_number_52 rfl wf_X8_35 rfl ?_
      refine zr_iload_n hB 1 dX8_number_55 rfl ?_
      refine zr_iload_n hB 2 dX8_number_56 rfl ?_
      refine zr_iload_n hB 3 dX8_number_57 rfl ?_
      refine zr_aload_n hB 0 dX8_number_58 rfl ?_
      refine zr_getr hG 0 0 dX8_number_59 rfl wf_X8_15 rfl ?_
      refine zr_geti' hG 1 0 (σ0.1 1 0) dX8_number_62 rfl wf_X8_66 rfl rfl ?_
      have b31 : 0 ≤ (σ0.1 1 0).toInt ∧ (σ0.1 1 0).toInt ≤ 63 := ⟨(hO0 1 0).1, (hO0 1 0).2.1⟩
      refine zr_aload_n hB 0 dX8_number_65 rfl ?_
      refine zr_getr hG 0 0 dX8_number_66 rfl wf_X8_15 rfl ?_
      refine zr_geti' hG 1 0 (σ0.1 1 0) dX8_number_69 rfl wf_X8_66 rfl rfl ?_
      refine zr_callvn hG (rest := []) 4 dX8_number_72 wm_X8_134 rfl rfl (c_X3_run_4 K hG.2.2.2.2.2.1 σ0 p1 p2 p3 (σ0.1 1 0) (σ0.1 1 0) hO0 (by omega) (by omega) (by omega) (by omega)) rfl rfl (Nat.le_of_ble_eq_true rfl) ⟨Nat.le_of_ble_eq_true rfl, Nat.le_of_ble_eq_true rfl, rfl, rfl⟩ (fun σ33 h34 => ?_)
      obtain ⟨hO35, hAc36, g37⟩ := h34
      have hA38 := zc_Ag.tr hA0 hAc36 rfl
      have q39 : (σ33.1 1 0).toInt = (σ0.1 1 0).toInt := congrArg Int32.toInt (hAc36 1 0 rfl).1
      refine zr_aload_n hB 0 dX8_number_75 rfl ?_
      refine zr_getr hG 0 3 dX8_number_76 rfl wf_X8_35 rfl ?_
      refine zr_iload_n hB 2 dX8_number_79 rfl ?_
      refine zr_aload_n hB 0 dX8_number_80 rfl ?_
      refine zr_getr hG 0 0 dX8_number_81 rfl wf_X8_15 rfl ?_
      refine zr_geti' hG 1 0 (σ33.1 1 0) dX8_number_84 rfl wf_X8_66 rfl rfl ?_
      have b40 : 0 ≤ (σ33.1 1 0).toInt ∧ (σ33.1 1 0).toInt ≤ 63 := ⟨(hO35 1 0).1, (hO35 1 0).2.1⟩
      refine zr_callvi hG (rest := []) 4 dX8_number_87 wm_X8_138 rfl rfl (c_X3_toldBy_4 K hG.2.2.2.2.2.1 σ33 p2 (σ33.1 1 0) hO35 ) rfl rfl (Nat.le_of_ble_eq_true rfl) ⟨Nat.le_of_ble_eq_true rfl, Nat.le_of_ble_eq_true rfl, rfl, rfl⟩ (fun r41 σ42 h43 => ?_)
      obtain ⟨rfl, r41a, r41b, r41h, g44⟩ := h43
      refine zr_istore hB dX8_number_90 (by decide) (lv' := [(9, .int r41), (0, .ref (zk K 0)), (1, .int p1), (2, .int p2), (3, .int p3), (4, .int p4), (5, .int p5), (6, .int p6), (7, .int p7), (8, .int p8)]) rfl ?_
      refine zr_aload_n hB 1 dX8_number_92 rfl ?_
      refine zr_getr hG 0 3 dX8_number_93 rfl wf_X8_35 rfl ?_
      refine zr_iload_n hB 2 dX8_number_96 rfl ?_
      refine zr_iload_n hB 3 dX8_number_97 rfl ?_
      refine zr_iload_n hB 4 dX8_number_98 rfl ?_
      refine zr_iload hB 5 dX8_number_99 rfl ?_
      refine zr_iload hB 6 dX8_number_101 rfl ?_
      refine zr_callvn hG (rest := []) 4 dX8_number_103 wm_X8_149 rfl rfl (c_X3_compare_4 K hG.2.2.2.2.2.1 σ33 p1 p2 p3 p4 p5 hO35 (by omega) (by omega) (by omega) (by omega) (by omega) (by omega) (by omega) (by omega)) rfl rfl (Nat.le_of_ble_eq_true rfl) ⟨Nat.le_of_ble_eq_true rfl, Nat.le_of_ble_eq_true rfl, rfl, rfl⟩ (fun σ46 h47 => ?_)
      obtain ⟨hO48, hAc49⟩ := h47
      have hA50 := zc_Ag.tr hA38 hAc49 rfl
      have q51 : (σ46.1 1 0).toInt = (σ33.1 1 0).toInt := congrArg Int32.toInt (hAc49 1 0 rfl).1
      refine zr_iload hB 0 dX8_number_106 rfl ?_
      refine zr_bipush hB dX8_number_108 rfl (fun c52 ec52 => ?_)
      refine zr_icmp_eq hB dX8_number_110 (tgt := 123) rfl (fun c53 => ?_) (fun c53 => ?_)
      · refine zr_bipush hB dX8_number_123 rfl (fun c54 ec54 => ?_)
        exact zr_iret hG dX8_number_125 ⟨hO48, hA50⟩
      refine zr_aload_n hB 1 dX8_number_113 rfl ?_
      refine zr_getr hG 0 3 dX8_number_114 rfl wf_X8_35 rfl ?_
      refine zr_geti' hG 4 7 (σ46.1 4 7) dX8_number_117 rfl wf_X8_159 rfl rfl ?_
      have b55 : 0 ≤ (σ46.1 4 7).toInt ∧ (σ46.1 4 7).toInt ≤ 64 := ⟨(hO48 4 7).1, (hO48 4 7).2.1⟩
      refine zr_if_ne hB dX8_number_120 (tgt := 126) rfl (fun c56 => ?_) (fun c56 => ?_)
      · refine zr_aload_n hB 1 dX8_number_126 rfl ?_
        refine zr_getr hG 0 3 dX8_number_127 rfl wf_X8_35 rfl ?_
        refine zr_iload hB 0 dX8_number_130 rfl ?_
        refine zr_iload hB 5 dX8_number_132 rfl ?_
        refine zr_iload hB 6 dX8_number_134 rfl ?_
        refine zr_iload hB 7 dX8_number_136 rfl ?_
        refine zr_iload hB 8 dX8_number_138 rfl ?_
        refine zr_callvi hG (rest := []) 4 dX8_number_140 wm_X8_219 rfl rfl (c_X3_leastCostly_4 K hG.2.2.2.2.2.1 σ46 r41 p4 p5 p6 p7 hO48 (by omega) (by omega) (by omega) (by omega) (by omega) (by omega) (by omega) (by omega) (by omega) (by omega)) rfl rfl (Nat.le_of_ble_eq_true rfl) ⟨Nat.le_of_ble_eq_true rfl, Nat.le_of_ble_eq_true rfl, rfl, rfl⟩ (fun r57 σ58 h59 => ?_)
        obtain ⟨hO60, hAc61, r57a, r57b⟩ := h59
        have hA62 := zc_Ag.tr hA50 hAc61 rfl
        have q63 : (σ58.1 1 0).toInt = (σ46.1 1 0).toInt := congrArg Int32.toInt (hAc61 1 0 rfl).1
        have q64 : (σ58.1 4 7).toInt = (σ46.1 4 7).toInt := congrArg Int32.toInt (hAc61 4 7 rfl).1
        refine zr_istore hB dX8_number_143 (by decide) (lv' := [(10, .int r57), (9, .int r41), (0, .ref (zk K 0)), (1, .int p1), (2, .int p2), (3, .int p3), (4, .int p4), (5, .int p5), (6, .int p6), (7, .int p7), (8, .int p8)]) rfl ?_
        refine zr_iload hB 10 dX8_number_145 rfl ?_
        refine zr_if_ne hB dX8_number_147 (tgt := 155) rfl (fun c65 => ?_) (fun c65 => ?_)
        · refine zr_aload_n hB 2 dX8_number_155 rfl ?_
          refine zr_getr hG 0 3 dX8_number_156 rfl wf_X8_35 rfl ?_
          refine zr_iload hB 0 dX8_number_159 rfl ?_
          refine zr_iload hB 1 dX8_number_161 rfl ?_
          refine zr_isub hB dX8_number_163 (by omega) (by omega) (fun x66 ex66 => ?_)
          refine zr_iload hB 6 dX8_number_164 rfl ?_
          refine zr_iload hB 7 dX8_number_166 rfl ?_
          refine zr_iload hB 8 dX8_number_168 rfl ?_
          refine zr_iload hB 9 dX8_number_170 rfl ?_
          refine zr_callvi hG (rest := []) 4 dX8_number_172 wm_X8_223 rfl rfl (c_X3_costOf_4 K hG.2.2.2.2.2.1 σ58 x66 p4 p5 p6 p7 hO60 (by omega) (by omega) (by omega) (by omega)) rfl rfl (Nat.le_of_ble_eq_true rfl) ⟨Nat.le_of_ble_eq_true rfl, Nat.le_of_ble_eq_true rfl, rfl, rfl⟩ (fun r67 σ68 h69 => ?_)
          obtain rfl := h69
          exact zr_iret hG dX8_number_175 ⟨hO60, hA62⟩
        refine zr_iload hB 0 dX8_number_150 rfl ?_
        refine zr_goto hB dX8_number_152 (tgt := 175) rfl ?_
        exact zr_iret hG dX8_number_175 ⟨hO60, hA62⟩
      refine zr_bipush hB dX8_number_123 rfl (fun c70 ec70 => ?_)
      exact zr_iret hG dX8_number_125 ⟨hO48, hA50⟩
    have q71 := r26q.f c29
    refine zr_iconst hB dX8_number_49 rfl (fun c72 ec72 => ?_)
    exact zr_iret hG dX8_number_50 ⟨hO0, hA0⟩
  refine zr_iconst hB dX8_number_31 rfl (fun c73 ec73 => ?_)
  exact zr_iret hG dX8_number_32 ⟨hO0, hA0⟩

def m_X8_worth_0 : zc_ms := [(4, some 3), (4, some 4), (21, none), (9, some 2), (43, none), (22, none), (4, some 7), (4, some 8), (24, none), (4, some 12), (4, some 13)]
set_option maxHeartbeats 1000000 in
set_option maxRecDepth 100000 in
theorem c_X8_worth_0 (K : zc_K) (hi : zc_inj shX K.2.2.2.1) (σ0 : zc_S) (p1 : Int32) (p2 : Int32) (p3 : Int32) (p4 : Int32) (p5 : Int32) (hO0 : zc_O okX σ0)  : zc_M shX K yX8_worth cX8_worth 6 (some .int) (zrm 7 190) σ0 [.ref (zk K 0), .int p1, .int p2, .int p3, .int p4, .int p5] (zc_I (fun r9 σ9 => zc_O okX σ9 ∧ zc_Ag m_X8_worth_0 σ0 σ9)) := by
  refine zc_start RX8 hi pfX8_worth rfl (Nat.le_of_ble_eq_true rfl) ?_
  intro G hG
  have hB := hG.1
  have hA0 : zc_Ag m_X8_worth_0 σ0 σ0 := zc_Ag.rf
  show zc_V 6 K G (zc_D shX K G σ0) [(0, .ref (zk K 0)), (1, .int p1), (2, .int p2), (3, .int p3), (4, .int p4), (5, .int p5)] 0 []
  refine zr_aload_n hB 0 dX8_worth_0 rfl ?_
  refine zr_iload_n hB 1 dX8_worth_1 rfl ?_
  refine zr_iload_n hB 2 dX8_worth_2 rfl ?_
  refine zr_iload_n hB 3 dX8_worth_3 rfl ?_
  refine zr_callvi hG (rest := []) 0 dX8_worth_4 wm_X8_130 rfl rfl (c_X8_isAsked_0 K hG.2.2.2.2.2.1 σ0 p1 p2 p3 hO0 ) rfl rfl (Nat.le_of_ble_eq_true rfl) ⟨Nat.le_of_ble_eq_true rfl, Nat.le_of_ble_eq_true rfl, rfl, rfl⟩ (fun r1 σ2 h3 => ?_)
  obtain ⟨rfl, r1q⟩ := h3
  have r1z := r1q.b
  refine zr_if_eq hB dX8_worth_7 (tgt := 20) rfl (fun c4 => ?_) (fun c4 => ?_)
  · have q5 := r1q.f c4
    refine zr_ldc hB dX8_worth_20 wc_X8_198 (n := (-100000)) rfl (fun c6 ec6 => ?_)
    exact zr_iret hG dX8_worth_22 ⟨hO0, hA0⟩
  have q7 := r1q.t c4
  refine zr_iload hB 4 dX8_worth_10 rfl ?_
  refine zr_iload hB 5 dX8_worth_12 rfl ?_
  refine zr_callsi hG (rest := []) dX8_worth_14 wm_X8_156 (c_X8_areDays K hG.2.2.2.2.2.1 σ0 p4 p5 hO0 ) rfl rfl (Nat.le_of_ble_eq_true rfl) ⟨Nat.le_of_ble_eq_true rfl, Nat.le_of_ble_eq_true rfl, rfl, rfl⟩ (fun r8 σ9 h10 => ?_)
  obtain ⟨rfl, r8q⟩ := h10
  have r8z := r8q.b
  refine zr_if_ne hB dX8_worth_17 (tgt := 23) rfl (fun c11 => ?_) (fun c11 => ?_)
  · have q12 := r8q.t c11
    refine zr_aload_n hB 0 dX8_worth_23 rfl ?_
    refine zr_getr hG 0 3 dX8_worth_24 rfl wf_X8_35 rfl ?_
    refine zr_iload_n hB 1 dX8_worth_27 rfl ?_
    refine zr_iload_n hB 2 dX8_worth_28 rfl ?_
    refine zr_iload_n hB 3 dX8_worth_29 rfl ?_
    refine zr_iload hB 4 dX8_worth_30 rfl ?_
    refine zr_iload hB 5 dX8_worth_32 rfl ?_
    refine zr_callvn hG (rest := []) 4 dX8_worth_34 wm_X8_149 rfl rfl (c_X3_compare_4 K hG.2.2.2.2.2.1 σ0 p1 p2 p3 p4 p5 hO0 (by omega) (by omega) (by omega) (by omega) (by omega) (by omega) (by omega) (by omega)) rfl rfl (Nat.le_of_ble_eq_true rfl) ⟨Nat.le_of_ble_eq_true rfl, Nat.le_of_ble_eq_true rfl, rfl, rfl⟩ (fun σ14 h15 => ?_)
    obtain ⟨hO16, hAc17⟩ := h15
    have hA18 := zc_Ag.tr hA0 hAc17 rfl
    refine zr_aload_n hB 0 dX8_worth_37 rfl ?_
    refine zr_getr hG 0 3 dX8_worth_38 rfl wf_X8_35 rfl ?_
    refine zr_iload hB 4 dX8_worth_41 rfl ?_
    refine zr_iload hB 5 dX8_worth_43 rfl ?_
    refine zr_callvn hG (rest := []) 4 dX8_worth_45 wm_X8_226 rfl rfl (c_X3_gather_4 K hG.2.2.2.2.2.1 σ14 p4 p5 hO16 (by omega) (by omega) (by omega) (by omega)) rfl rfl (Nat.le_of_ble_eq_true rfl) ⟨Nat.le_of_ble_eq_true rfl, Nat.le_of_ble_eq_true rfl, rfl, rfl⟩ (fun σ20 h21 => ?_)
    obtain ⟨hO22, hAc23⟩ := h21
    have hA24 := zc_Ag.tr hA18 hAc23 rfl
    refine zr_aload_n hB 0 dX8_worth_48 rfl ?_
    refine zr_getr hG 0 3 dX8_worth_49 rfl wf_X8_35 rfl ?_
    refine zr_geti' hG 4 12 (σ20.1 4 12) dX8_worth_52 rfl wf_X8_230 rfl rfl ?_
    have b25 : 0 ≤ (σ20.1 4 12).toInt ∧ (σ20.1 4 12).toInt ≤ 64 := ⟨(hO22 4 12).1, (hO22 4 12).2.1⟩
    refine zr_if_ne hB dX8_worth_55 (tgt := 63) rfl (fun c26 => ?_) (fun c26 => ?_)
    · refine zr_aload_n hB 0 dX8_worth_63 rfl ?_
      refine zr_getr hG 0 3 dX8_worth_64 rfl wf_X8_35 rfl ?_
      refine zr_geti' hG 4 13 (σ20.1 4 13) dX8_worth_67 rfl wf_X8_233 rfl rfl ?_
      exact zr_iret hG dX8_worth_70 ⟨hO22, hA24⟩
    refine zr_ldc hB dX8_worth_58 wc_X8_206 (n := (-100004)) rfl (fun c27 ec27 => ?_)
    refine zr_goto hB dX8_worth_60 (tgt := 70) rfl ?_
    exact zr_iret hG dX8_worth_70 ⟨hO22, hA24⟩
  have q28 := r8q.f c11
  refine zr_ldc hB dX8_worth_20 wc_X8_198 (n := (-100000)) rfl (fun c29 ec29 => ?_)
  exact zr_iret hG dX8_worth_22 ⟨hO0, hA0⟩

def m_X8_dealt_0 : zc_ms := [(4, some 3), (4, some 4), (21, none), (9, some 2), (43, none), (22, none), (4, some 7), (4, some 8), (24, none), (4, some 12), (4, some 13)]
set_option maxHeartbeats 1000000 in
set_option maxRecDepth 100000 in
theorem c_X8_dealt_0 (K : zc_K) (hi : zc_inj shX K.2.2.2.1) (σ0 : zc_S) (p1 : Int32) (p2 : Int32) (p3 : Int32) (p4 : Int32) (p5 : Int32) (p6 : Int32) (hO0 : zc_O okX σ0)  : zc_M shX K yX8_dealt cX8_dealt 8 (some .int) (zrm 17 408) σ0 [.ref (zk K 0), .int p1, .int p2, .int p3, .int p4, .int p5, .int p6] (zc_I (fun r9 σ9 => zc_O okX σ9 ∧ zc_Ag m_X8_dealt_0 σ0 σ9)) := by
  refine zc_start RX8 hi pfX8_dealt rfl (Nat.le_of_ble_eq_true rfl) ?_
  intro G hG
  have hB := hG.1
  have hA0 : zc_Ag m_X8_dealt_0 σ0 σ0 := zc_Ag.rf
  show zc_V 8 K G (zc_D shX K G σ0) [(0, .ref (zk K 0)), (1, .int p1), (2, .int p2), (3, .int p3), (4, .int p4), (5, .int p5), (6, .int p6)] 0 []
  refine zr_aload_n hB 0 dX8_dealt_0 rfl ?_
  refine zr_iload_n hB 1 dX8_dealt_1 rfl ?_
  refine zr_iload_n hB 2 dX8_dealt_2 rfl ?_
  refine zr_iload_n hB 3 dX8_dealt_3 rfl ?_
  refine zr_callvi hG (rest := []) 0 dX8_dealt_4 wm_X8_130 rfl rfl (c_X8_isAsked_0 K hG.2.2.2.2.2.1 σ0 p1 p2 p3 hO0 ) rfl rfl (Nat.le_of_ble_eq_true rfl) ⟨Nat.le_of_ble_eq_true rfl, Nat.le_of_ble_eq_true rfl, rfl, rfl⟩ (fun r1 σ2 h3 => ?_)
  obtain ⟨rfl, r1q⟩ := h3
  have r1z := r1q.b
  refine zr_if_eq hB dX8_dealt_7 (tgt := 31) rfl (fun c4 => ?_) (fun c4 => ?_)
  · have q5 := r1q.f c4
    refine zr_iconst hB dX8_dealt_31 rfl (fun c6 ec6 => ?_)
    exact zr_iret hG dX8_dealt_32 ⟨hO0, hA0⟩
  have q7 := r1q.t c4
  refine zr_iload hB 4 dX8_dealt_10 rfl ?_
  refine zr_iload hB 5 dX8_dealt_12 rfl ?_
  refine zr_callsi hG (rest := []) dX8_dealt_14 wm_X8_156 (c_X8_areDays K hG.2.2.2.2.2.1 σ0 p4 p5 hO0 ) rfl rfl (Nat.le_of_ble_eq_true rfl) ⟨Nat.le_of_ble_eq_true rfl, Nat.le_of_ble_eq_true rfl, rfl, rfl⟩ (fun r8 σ9 h10 => ?_)
  obtain ⟨rfl, r8q⟩ := h10
  have r8z := r8q.b
  refine zr_if_eq hB dX8_dealt_17 (tgt := 31) rfl (fun c11 => ?_) (fun c11 => ?_)
  · have q12 := r8q.f c11
    refine zr_iconst hB dX8_dealt_31 rfl (fun c13 ec13 => ?_)
    exact zr_iret hG dX8_dealt_32 ⟨hO0, hA0⟩
  have q14 := r8q.t c11
  refine zr_iload hB 6 dX8_dealt_20 rfl ?_
  refine zr_if_lt hB dX8_dealt_22 (tgt := 31) rfl (fun c15 => ?_) (fun c15 => ?_)
  · refine zr_iconst hB dX8_dealt_31 rfl (fun c16 ec16 => ?_)
    exact zr_iret hG dX8_dealt_32 ⟨hO0, hA0⟩
  refine zr_iload hB 6 dX8_dealt_25 rfl ?_
  refine zr_iconst hB dX8_dealt_27 rfl (fun c17 ec17 => ?_)
  refine zr_icmp_le hB dX8_dealt_28 (tgt := 33) rfl (fun c18 => ?_) (fun c18 => ?_)
  · refine zr_aload_n hB 0 dX8_dealt_33 rfl ?_
    refine zr_getr hG 0 3 dX8_dealt_34 rfl wf_X8_35 rfl ?_
    refine zr_iload_n hB 1 dX8_dealt_37 rfl ?_
    refine zr_iload_n hB 2 dX8_dealt_38 rfl ?_
    refine zr_iload_n hB 3 dX8_dealt_39 rfl ?_
    refine zr_iload hB 4 dX8_dealt_40 rfl ?_
    refine zr_iload hB 5 dX8_dealt_42 rfl ?_
    refine zr_callvn hG (rest := []) 4 dX8_dealt_44 wm_X8_149 rfl rfl (c_X3_compare_4 K hG.2.2.2.2.2.1 σ0 p1 p2 p3 p4 p5 hO0 (by omega) (by omega) (by omega) (by omega) (by omega) (by omega) (by omega) (by omega)) rfl rfl (Nat.le_of_ble_eq_true rfl) ⟨Nat.le_of_ble_eq_true rfl, Nat.le_of_ble_eq_true rfl, rfl, rfl⟩ (fun σ20 h21 => ?_)
    obtain ⟨hO22, hAc23⟩ := h21
    have hA24 := zc_Ag.tr hA0 hAc23 rfl
    refine zr_aload_n hB 0 dX8_dealt_47 rfl ?_
    refine zr_getr hG 0 3 dX8_dealt_48 rfl wf_X8_35 rfl ?_
    refine zr_iload hB 4 dX8_dealt_51 rfl ?_
    refine zr_iload hB 5 dX8_dealt_53 rfl ?_
    refine zr_callvn hG (rest := []) 4 dX8_dealt_55 wm_X8_226 rfl rfl (c_X3_gather_4 K hG.2.2.2.2.2.1 σ20 p4 p5 hO22 (by omega) (by omega) (by omega) (by omega)) rfl rfl (Nat.le_of_ble_eq_true rfl) ⟨Nat.le_of_ble_eq_true rfl, Nat.le_of_ble_eq_true rfl, rfl, rfl⟩ (fun σ26 h27 => ?_)
    obtain ⟨hO28, hAc29⟩ := h27
    have hA30 := zc_Ag.tr hA24 hAc29 rfl
    refine zr_aload_n hB 0 dX8_dealt_58 rfl ?_
    refine zr_getr hG 0 3 dX8_dealt_59 rfl wf_X8_35 rfl ?_
    refine zr_geti' hG 4 7 (σ26.1 4 7) dX8_dealt_62 rfl wf_X8_159 rfl rfl ?_
    have b31 : 0 ≤ (σ26.1 4 7).toInt ∧ (σ26.1 4 7).toInt ≤ 64 := ⟨(hO28 4 7).1, (hO28 4 7).2.1⟩
    refine zr_bipush hB dX8_dealt_65 rfl (fun c32 ec32 => ?_)
    refine zr_icmp_le hB dX8_dealt_67 (tgt := 73) rfl (fun c33 => ?_) (fun c33 => ?_)
    · refine zr_iload hB 6 dX8_dealt_73 rfl ?_
      refine zr_iconst hB dX8_dealt_75 rfl (fun c34 ec34 => ?_)
      refine zr_icmp_le hB dX8_dealt_76 (tgt := 103) rfl (fun c35 => ?_) (fun c35 => ?_)
      · refine zr_iload hB 6 dX8_dealt_103 rfl ?_
        have L121_36 : zc_V 8 K G (zc_D shX K G σ26) [(0, .ref (zk K 0)), (1, .int p1), (2, .int p2), (3, .int p3), (4, .int p4), (5, .int p5), (6, .int p6)] 121 [] := by
          refine zr_iload hB 6 dX8_dealt_121 rfl ?_
          refine zr_if_ne hB dX8_dealt_123 (tgt := 136) rfl (fun c37 => ?_) (fun c37 => ?_)
          · refine zr_ldc hB dX8_dealt_136 wc_X8_198 (n := (-100000)) rfl (fun c38 ec38 => ?_)
            refine zr_istore hB dX8_dealt_138 (by decide) (lv' := [(7, .int c38), (0, .ref (zk K 0)), (1, .int p1), (2, .int p2), (3, .int p3), (4, .int p4), (5, .int p5), (6, .int p6)]) rfl ?_
            refine zr_aload_n hB 1 dX8_dealt_140 rfl ?_
            refine zr_getr hG 0 3 dX8_dealt_141 rfl wf_X8_35 rfl ?_
            refine zr_getr hG 4 11 dX8_dealt_144 rfl wf_X8_236 rfl ?_
            refine zr_aload_n hB 1 dX8_dealt_147 rfl ?_
            refine zr_getr hG 0 3 dX8_dealt_148 rfl wf_X8_35 rfl ?_
            refine zr_geti' hG 4 7 (σ26.1 4 7) dX8_dealt_151 rfl wf_X8_159 rfl rfl ?_
            refine zr_iconst hB dX8_dealt_154 rfl (fun c39 ec39 => ?_)
            refine zr_aload_n hB 1 dX8_dealt_155 rfl ?_
            refine zr_getr hG 0 3 dX8_dealt_156 rfl wf_X8_35 rfl ?_
            refine zr_geti' hG 4 12 (σ26.1 4 12) dX8_dealt_159 rfl wf_X8_230 rfl rfl ?_
            have b40 : 0 ≤ (σ26.1 4 12).toInt ∧ (σ26.1 4 12).toInt ≤ 64 := ⟨(hO28 4 12).1, (hO28 4 12).2.1⟩
            refine zr_iload hB 0 dX8_dealt_162 rfl ?_
            refine zr_callsi hG (rest := []) dX8_dealt_164 wm_X8_239 (c_X3_waysFrom_24 K hG.2.2.2.2.2.1 σ26 (σ26.1 4 7) c39 (σ26.1 4 12) c38 hO28 (by omega) (by omega)) rfl rfl (Nat.le_of_ble_eq_true rfl) ⟨Nat.le_of_ble_eq_true rfl, Nat.le_of_ble_eq_true rfl, rfl, rfl⟩ (fun r41 σ42 h43 => ?_)
            obtain rfl := h43
            exact zr_iret hG dX8_dealt_167 ⟨hO28, hA30⟩
          refine zr_aload_n hB 0 dX8_dealt_126 rfl ?_
          refine zr_getr hG 0 3 dX8_dealt_127 rfl wf_X8_35 rfl ?_
          refine zr_geti' hG 4 13 (σ26.1 4 13) dX8_dealt_130 rfl wf_X8_233 rfl rfl ?_
          refine zr_goto hB dX8_dealt_133 (tgt := 138) rfl ?_
          refine zr_istore hB dX8_dealt_138 (by decide) (lv' := [(7, .int (σ26.1 4 13)), (0, .ref (zk K 0)), (1, .int p1), (2, .int p2), (3, .int p3), (4, .int p4), (5, .int p5), (6, .int p6)]) rfl ?_
          refine zr_aload_n hB 1 dX8_dealt_140 rfl ?_
          refine zr_getr hG 0 3 dX8_dealt_141 rfl wf_X8_35 rfl ?_
          refine zr_getr hG 4 11 dX8_dealt_144 rfl wf_X8_236 rfl ?_
          refine zr_aload_n hB 1 dX8_dealt_147 rfl ?_
          refine zr_getr hG 0 3 dX8_dealt_148 rfl wf_X8_35 rfl ?_
          refine zr_geti' hG 4 7 (σ26.1 4 7) dX8_dealt_151 rfl wf_X8_159 rfl rfl ?_
          refine zr_iconst hB dX8_dealt_154 rfl (fun c44 ec44 => ?_)
          refine zr_aload_n hB 1 dX8_dealt_155 rfl ?_
          refine zr_getr hG 0 3 dX8_dealt_156 rfl wf_X8_35 rfl ?_
          refine zr_geti' hG 4 12 (σ26.1 4 12) dX8_dealt_159 rfl wf_X8_230 rfl rfl ?_
          have b45 : 0 ≤ (σ26.1 4 12).toInt ∧ (σ26.1 4 12).toInt ≤ 64 := ⟨(hO28 4 12).1, (hO28 4 12).2.1⟩
          refine zr_iload hB 0 dX8_dealt_162 rfl ?_
          refine zr_callsi hG (rest := []) dX8_dealt_164 wm_X8_239 (c_X3_waysFrom_24 K hG.2.2.2.2.2.1 σ26 (σ26.1 4 7) c44 (σ26.1 4 12) (σ26.1 4 13) hO28 (by omega) (by omega)) rfl rfl (Nat.le_of_ble_eq_true rfl) ⟨Nat.le_of_ble_eq_true rfl, Nat.le_of_ble_eq_true rfl, rfl, rfl⟩ (fun r46 σ47 h48 => ?_)
          obtain rfl := h48
          exact zr_iret hG dX8_dealt_167 ⟨hO28, hA30⟩
        refine zr_if_ne hB dX8_dealt_105 (tgt := 121) rfl (fun c49 => ?_) (fun c49 => ?_)
        · exact L121_36
        refine zr_aload_n hB 0 dX8_dealt_108 rfl ?_
        refine zr_getr hG 0 3 dX8_dealt_109 rfl wf_X8_35 rfl ?_
        refine zr_geti' hG 4 12 (σ26.1 4 12) dX8_dealt_112 rfl wf_X8_230 rfl rfl ?_
        have b50 : 0 ≤ (σ26.1 4 12).toInt ∧ (σ26.1 4 12).toInt ≤ 64 := ⟨(hO28 4 12).1, (hO28 4 12).2.1⟩
        refine zr_if_ne hB dX8_dealt_115 (tgt := 121) rfl (fun c51 => ?_) (fun c51 => ?_)
        · exact L121_36
        refine zr_bipush hB dX8_dealt_118 rfl (fun c52 ec52 => ?_)
        exact zr_iret hG dX8_dealt_120 ⟨hO28, hA30⟩
      refine zr_iload hB 6 dX8_dealt_79 rfl ?_
      refine zr_iconst hB dX8_dealt_81 rfl (fun c53 ec53 => ?_)
      refine zr_icmp_ne hB dX8_dealt_82 (tgt := 95) rfl (fun c54 => ?_) (fun c54 => ?_)
      · refine zr_aload_n hB 0 dX8_dealt_95 rfl ?_
        refine zr_getr hG 0 3 dX8_dealt_96 rfl wf_X8_35 rfl ?_
        refine zr_geti' hG 4 12 (σ26.1 4 12) dX8_dealt_99 rfl wf_X8_230 rfl rfl ?_
        have b55 : 0 ≤ (σ26.1 4 12).toInt ∧ (σ26.1 4 12).toInt ≤ 64 := ⟨(hO28 4 12).1, (hO28 4 12).2.1⟩
        exact zr_iret hG dX8_dealt_102 ⟨hO28, hA30⟩
      refine zr_aload_n hB 0 dX8_dealt_85 rfl ?_
      refine zr_getr hG 0 3 dX8_dealt_86 rfl wf_X8_35 rfl ?_
      refine zr_geti' hG 4 7 (σ26.1 4 7) dX8_dealt_89 rfl wf_X8_159 rfl rfl ?_
      refine zr_goto hB dX8_dealt_92 (tgt := 102) rfl ?_
      exact zr_iret hG dX8_dealt_102 ⟨hO28, hA30⟩
    refine zr_bipush hB dX8_dealt_70 rfl (fun c56 ec56 => ?_)
    exact zr_iret hG dX8_dealt_72 ⟨hO28, hA30⟩
  refine zr_iconst hB dX8_dealt_31 rfl (fun c57 ec57 => ?_)
  exact zr_iret hG dX8_dealt_32 ⟨hO0, hA0⟩

set_option maxHeartbeats 1000000 in
set_option maxRecDepth 100000 in
theorem c_X8_change_0 (K : zc_K) (hi : zc_inj shX K.2.2.2.1) (σ0 : zc_S) (p1 : Int32) (p2 : Int32) (p3 : Int32) (hO0 : zc_O okX σ0)  : zc_M shX K yX8_change cX8_change 4 (some .int) (zrm 3 87) σ0 [.ref (zk K 0), .int p1, .int p2, .int p3] (zc_I (fun r9 σ9 => σ0 = σ9)) := by
  refine zc_start RX8 hi pfX8_change rfl (Nat.le_of_ble_eq_true rfl) ?_
  intro G hG
  have hB := hG.1
  show zc_V 4 K G (zc_D shX K G σ0) [(0, .ref (zk K 0)), (1, .int p1), (2, .int p2), (3, .int p3)] 0 []
  refine zr_iload_n hB 1 dX8_change_0 rfl ?_
  refine zr_callsi hG (rest := []) dX8_change_1 wm_X8_70 (c_X8_isShop K hG.2.2.2.2.2.1 σ0 p1 hO0 ) rfl rfl (Nat.le_of_ble_eq_true rfl) ⟨Nat.le_of_ble_eq_true rfl, Nat.le_of_ble_eq_true rfl, rfl, rfl⟩ (fun r1 σ2 h3 => ?_)
  obtain ⟨rfl, r1q⟩ := h3
  have r1z := r1q.b
  refine zr_if_eq hB dX8_change_4 (tgt := 15) rfl (fun c4 => ?_) (fun c4 => ?_)
  · have q5 := r1q.f c4
    refine zr_iconst hB dX8_change_15 rfl (fun c6 ec6 => ?_)
    exact zr_iret hG dX8_change_16 rfl
  have q7 := r1q.t c4
  refine zr_iload_n hB 2 dX8_change_7 rfl ?_
  refine zr_iload_n hB 3 dX8_change_8 rfl ?_
  refine zr_callsi hG (rest := []) dX8_change_9 wm_X8_156 (c_X8_areDays K hG.2.2.2.2.2.1 σ0 p2 p3 hO0 ) rfl rfl (Nat.le_of_ble_eq_true rfl) ⟨Nat.le_of_ble_eq_true rfl, Nat.le_of_ble_eq_true rfl, rfl, rfl⟩ (fun r8 σ9 h10 => ?_)
  obtain ⟨rfl, r8q⟩ := h10
  have r8z := r8q.b
  refine zr_if_ne hB dX8_change_12 (tgt := 17) rfl (fun c11 => ?_) (fun c11 => ?_)
  · have q12 := r8q.t c11
    refine zr_aload_n hB 0 dX8_change_17 rfl ?_
    refine zr_getr hG 0 0 dX8_change_18 rfl wf_X8_15 rfl ?_
    refine zr_iload_n hB 1 dX8_change_21 rfl ?_
    refine zr_iload_n hB 2 dX8_change_22 rfl ?_
    refine zr_iload_n hB 3 dX8_change_23 rfl ?_
    refine zr_callvi hG (rest := []) 1 dX8_change_24 wm_X8_243 rfl rfl (c_X4_changeOf_1 K hG.2.2.2.2.2.1 σ0 p1 p2 p3 hO0 (by omega) (by omega) (by omega) (by omega)) rfl rfl (Nat.le_of_ble_eq_true rfl) ⟨Nat.le_of_ble_eq_true rfl, Nat.le_of_ble_eq_true rfl, rfl, rfl⟩ (fun r13 σ14 h15 => ?_)
    obtain ⟨rfl, r13a, r13b⟩ := h15
    exact zr_iret hG dX8_change_27 rfl
  have q16 := r8q.f c11
  refine zr_iconst hB dX8_change_15 rfl (fun c17 ec17 => ?_)
  exact zr_iret hG dX8_change_16 rfl

def m_X8_note_0 : zc_ms := [(4, some 3), (4, some 4), (21, none), (9, some 2), (43, none), (6, some 0), (30, none), (31, none), (32, none), (33, none), (34, none), (35, none)]
set_option maxHeartbeats 1000000 in
set_option maxRecDepth 100000 in
theorem c_X8_note_0 (K : zc_K) (hi : zc_inj shX K.2.2.2.1) (σ0 : zc_S) (p1 : Int32) (p2 : Int32) (p3 : Int32) (p4 : Int32) (hO0 : zc_O okX σ0)  : zc_M shX K yX8_note cX8_note 6 (some .int) (zrm 6 162) σ0 [.ref (zk K 0), .int p1, .int p2, .int p3, .int p4] (zc_I (fun r9 σ9 => zc_O okX σ9 ∧ zc_Ag m_X8_note_0 σ0 σ9 ∧ zc_hid ((zp_Z σ0 → zp_nX (0 ≤ p1.toInt ∧ p1.toInt ≤ 3 ∧ 0 ≤ p2.toInt ∧ p2.toInt < (σ0.1 3 0).toInt ∧ 1 ≤ p3.toInt ∧ p3.toInt ≤ 14 ∧ 0 ≤ p4.toInt ∧ p4.toInt ≤ 999) (σ0.1 6 0).toInt r9.toInt (zp_B (zx_A σ0) (zp_f 15 σ0) p1.toInt (zw_TX σ0) p3.toInt p2.toInt.toNat (σ0.1 1 0).toInt) (zp_eX σ0 σ9) (zp_aX σ0 σ9 p1.toInt ((σ0.1 1 0).toInt + p3.toInt)))))) := by
  refine zc_start RX8 hi pfX8_note rfl (Nat.le_of_ble_eq_true rfl) ?_
  intro G hG
  have hB := hG.1
  have hA0 : zc_Ag m_X8_note_0 σ0 σ0 := zc_Ag.rf
  show zc_V 6 K G (zc_D shX K G σ0) [(0, .ref (zk K 0)), (1, .int p1), (2, .int p2), (3, .int p3), (4, .int p4)] 0 []
  have bw3_0 : 0 ≤ (σ0.1 3 0).toInt ∧ (σ0.1 3 0).toInt ≤ 6 := ⟨(hO0 3 0).1, (hO0 3 0).2.1⟩
  have bw6_0 : 0 ≤ (σ0.1 6 0).toInt ∧ (σ0.1 6 0).toInt ≤ 24 := ⟨(hO0 6 0).1, (hO0 6 0).2.1⟩
  have bw1_0 : 0 ≤ (σ0.1 1 0).toInt ∧ (σ0.1 1 0).toInt ≤ 63 := ⟨(hO0 1 0).1, (hO0 1 0).2.1⟩
  refine zr_aload_n hB 0 dX8_note_0 rfl ?_
  refine zr_iload_n hB 1 dX8_note_1 rfl ?_
  refine zr_iload_n hB 2 dX8_note_2 rfl ?_
  refine zr_iload_n hB 3 dX8_note_3 rfl ?_
  refine zr_callvi hG (rest := []) 0 dX8_note_4 wm_X8_130 rfl rfl (c_X8_isAsked_0 K hG.2.2.2.2.2.1 σ0 p1 p2 p3 hO0 ) rfl rfl (Nat.le_of_ble_eq_true rfl) ⟨Nat.le_of_ble_eq_true rfl, Nat.le_of_ble_eq_true rfl, rfl, rfl⟩ (fun r1 σ2 h3 => ?_)
  obtain ⟨rfl, r1q⟩ := h3
  have r1z := r1q.b
  refine zr_if_eq hB dX8_note_7 (tgt := 23) rfl (fun c4 => ?_) (fun c4 => ?_)
  · have q5 := r1q.f c4
    refine zr_iconst hB dX8_note_23 rfl (fun c6 ec6 => ?_)
    exact zr_iret hG dX8_note_24 ⟨hO0, hA0, (fun hz => by first | exact Or.inl ⟨by omega, by omega, ⟨rfl, fun _ => ⟨rfl, rfl, rfl⟩⟩⟩ | exact Or.inr (Or.inl ⟨by omega, by omega, by omega, ⟨rfl, fun _ => ⟨rfl, rfl, rfl⟩⟩⟩))⟩
  have q7 := r1q.t c4
  refine zr_iload hB 4 dX8_note_10 rfl ?_
  refine zr_if_lt hB dX8_note_12 (tgt := 23) rfl (fun c8 => ?_) (fun c8 => ?_)
  · refine zr_iconst hB dX8_note_23 rfl (fun c9 ec9 => ?_)
    exact zr_iret hG dX8_note_24 ⟨hO0, hA0, (fun hz => by first | exact Or.inl ⟨by omega, by omega, ⟨rfl, fun _ => ⟨rfl, rfl, rfl⟩⟩⟩ | exact Or.inr (Or.inl ⟨by omega, by omega, by omega, ⟨rfl, fun _ => ⟨rfl, rfl, rfl⟩⟩⟩))⟩
  refine zr_iload hB 4 dX8_note_15 rfl ?_
  refine zr_sipush hB dX8_note_17 rfl (fun c10 ec10 => ?_)
  refine zr_icmp_le hB dX8_note_20 (tgt := 25) rfl (fun c11 => ?_) (fun c11 => ?_)
  · refine zr_aload_n hB 0 dX8_note_25 rfl ?_
    refine zr_getr hG 0 5 dX8_note_26 rfl wf_X8_51 rfl ?_
    refine zr_geti' hG 6 0 (σ0.1 6 0) dX8_note_29 rfl wf_X8_246 rfl rfl ?_
    refine zr_bipush hB dX8_note_32 rfl (fun c12 ec12 => ?_)
    refine zr_icmp_lt hB dX8_note_34 (tgt := 40) rfl (fun c13 => ?_) (fun c13 => ?_)
    · refine zr_aload_n hB 0 dX8_note_40 rfl ?_
      refine zr_getr hG 0 3 dX8_note_41 rfl wf_X8_35 rfl ?_
      refine zr_iload_n hB 1 dX8_note_44 rfl ?_
      refine zr_iload_n hB 2 dX8_note_45 rfl ?_
      refine zr_iload_n hB 3 dX8_note_46 rfl ?_
      refine zr_aload_n hB 0 dX8_note_47 rfl ?_
      refine zr_getr hG 0 0 dX8_note_48 rfl wf_X8_15 rfl ?_
      refine zr_geti' hG 1 0 (σ0.1 1 0) dX8_note_51 rfl wf_X8_66 rfl rfl ?_
      refine zr_aload_n hB 0 dX8_note_54 rfl ?_
      refine zr_getr hG 0 0 dX8_note_55 rfl wf_X8_15 rfl ?_
      refine zr_geti' hG 1 0 (σ0.1 1 0) dX8_note_58 rfl wf_X8_66 rfl rfl ?_
      refine zr_callvn hG (rest := []) 4 dX8_note_61 wm_X8_134 rfl rfl (c_X3_run_4 K hG.2.2.2.2.2.1 σ0 p1 p2 p3 (σ0.1 1 0) (σ0.1 1 0) hO0 (by omega) (by omega) (by omega) (by omega)) rfl rfl (Nat.le_of_ble_eq_true rfl) ⟨Nat.le_of_ble_eq_true rfl, Nat.le_of_ble_eq_true rfl, rfl, rfl⟩ (fun σ15 h16 => ?_)
      obtain ⟨hO17, hAc18, g19⟩ := h16
      have hA20 := zc_Ag.tr hA0 hAc18 rfl
      have q21 : (σ15.1 3 0).toInt = (σ0.1 3 0).toInt := congrArg Int32.toInt (hAc18 3 0 rfl).1
      have q22 : (σ15.1 6 0).toInt = (σ0.1 6 0).toInt := congrArg Int32.toInt (hAc18 6 0 rfl).1
      have q23 : (σ15.1 1 0).toInt = (σ0.1 1 0).toInt := congrArg Int32.toInt (hAc18 1 0 rfl).1
      have heX : zp_eX σ0 σ15 := ⟨(hAc18 6 0 rfl).1, fun i => ⟨(hAc18 30 i rfl).1, (hAc18 33 i rfl).1, (hAc18 36 i rfl).1⟩⟩
      have hn1 : (σ15.1 1 0).toInt = (σ0.1 1 0).toInt := by rw [(hAc18 1 0 rfl).1]
      have hn6 : (σ15.1 6 0).toInt = (σ0.1 6 0).toInt := by rw [(hAc18 6 0 rfl).1]
      refine zr_aload_n hB 0 dX8_note_64 rfl ?_
      refine zr_getr hG 0 3 dX8_note_65 rfl wf_X8_35 rfl ?_
      refine zr_iload_n hB 2 dX8_note_68 rfl ?_
      refine zr_aload_n hB 0 dX8_note_69 rfl ?_
      refine zr_getr hG 0 0 dX8_note_70 rfl wf_X8_15 rfl ?_
      refine zr_geti' hG 1 0 (σ15.1 1 0) dX8_note_73 rfl wf_X8_66 rfl rfl ?_
      have b24 : 0 ≤ (σ15.1 1 0).toInt ∧ (σ15.1 1 0).toInt ≤ 63 := ⟨(hO17 1 0).1, (hO17 1 0).2.1⟩
      refine zr_callvi hG (rest := []) 4 dX8_note_76 wm_X8_138 rfl rfl (c_X3_toldBy_4 K hG.2.2.2.2.2.1 σ15 p2 (σ15.1 1 0) hO17 ) rfl rfl (Nat.le_of_ble_eq_true rfl) ⟨Nat.le_of_ble_eq_true rfl, Nat.le_of_ble_eq_true rfl, rfl, rfl⟩ (fun r25 σ26 h27 => ?_)
      obtain ⟨rfl, r25a, r25b, r25h, g28⟩ := h27
      have hto : r25.toInt = (σ15.1 21 (p2.toInt.toNat * 64 + (σ0.1 1 0).toInt.toNat)).toInt := by have h9 := zx_or g28 (by omega); rw [show (p2.toInt * 64 + (σ15.1 1 0).toInt).toNat = p2.toInt.toNat * 64 + (σ0.1 1 0).toInt.toNat by omega] at h9; exact h9
      have hbo : zc_hid (zp_Z σ0 → zp_o r25.toInt (zp_B (zx_A σ0) (zp_f 15 σ0) p1.toInt (zw_TX σ0) p3.toInt p2.toInt.toNat (σ0.1 1 0).toInt)) := by intro hz; have h9 := g19 (by omega) (by omega) (σ0.1 1 0).toInt.toNat (by omega) (by omega) (by omega) hz; rw [← hto, show (((σ0.1 1 0).toInt.toNat : Nat) : Int) = (σ0.1 1 0).toInt by omega] at h9; exact h9
      refine zr_istore hB dX8_note_79 (by decide) (lv' := [(5, .int r25), (0, .ref (zk K 0)), (1, .int p1), (2, .int p2), (3, .int p3), (4, .int p4)]) rfl ?_
      refine zr_iload hB 0 dX8_note_81 rfl ?_
      refine zr_bipush hB dX8_note_83 rfl (fun c29 ec29 => ?_)
      refine zr_icmp_ne hB dX8_note_85 (tgt := 91) rfl (fun c30 => ?_) (fun c30 => ?_)
      · refine zr_aload_n hB 1 dX8_note_91 rfl ?_
        refine zr_getr hG 0 5 dX8_note_92 rfl wf_X8_51 rfl ?_
        refine zr_iload_n hB 2 dX8_note_95 rfl ?_
        refine zr_iload_n hB 3 dX8_note_96 rfl ?_
        refine zr_aload_n hB 1 dX8_note_97 rfl ?_
        refine zr_getr hG 0 0 dX8_note_98 rfl wf_X8_15 rfl ?_
        refine zr_geti' hG 1 0 (σ15.1 1 0) dX8_note_101 rfl wf_X8_66 rfl rfl ?_
        refine zr_aload_n hB 1 dX8_note_104 rfl ?_
        refine zr_getr hG 0 0 dX8_note_105 rfl wf_X8_15 rfl ?_
        refine zr_geti' hG 1 0 (σ15.1 1 0) dX8_note_108 rfl wf_X8_66 rfl rfl ?_
        refine zr_iload_n hB 4 dX8_note_111 rfl ?_
        refine zr_iadd hB dX8_note_112 (by omega) (by omega) (fun x31 ex31 => ?_)
        refine zr_iload hB 0 dX8_note_113 rfl ?_
        refine zr_iload hB 5 dX8_note_115 rfl ?_
        refine zr_callvi hG (rest := []) 6 dX8_note_117 wm_X8_247 rfl rfl (c_X2_add_6 K hG.2.2.2.2.2.1 σ15 p1 p2 (σ15.1 1 0) x31 r25 p4 hO17 (by omega) (by omega) (by omega) (by omega) (by omega) (by omega) (by omega) (by omega) (by omega) (by omega) (by omega) (by omega)) rfl rfl (Nat.le_of_ble_eq_true rfl) ⟨Nat.le_of_ble_eq_true rfl, Nat.le_of_ble_eq_true rfl, rfl, rfl⟩ (fun r32 σ33 h34 => ?_)
        obtain ⟨hO35, hAc36, r32a, r32b, g37⟩ := h34
        have hA38 := zc_Ag.tr hA20 hAc36 rfl
        have q39 : (σ33.1 3 0).toInt = (σ15.1 3 0).toInt := congrArg Int32.toInt (hAc36 3 0 rfl).1
        have q40 : (σ33.1 1 0).toInt = (σ15.1 1 0).toInt := congrArg Int32.toInt (hAc36 1 0 rfl).1
        exact zr_iret hG dX8_note_120 ⟨hO35, hA38, (fun hz => Or.inr (Or.inr (Or.inr ⟨by omega, by omega, by omega, (hbo hz).is.mp (by omega), (zp_aX.of (zx_or2 g37 (by omega)) heX (show x31.toInt = (σ0.1 1 0).toInt + p3.toInt by omega))⟩)))⟩
      refine zr_bipush hB dX8_note_88 rfl (fun c41 ec41 => ?_)
      exact zr_iret hG dX8_note_90 ⟨hO17, hA20, (fun hz => Or.inr (Or.inr (Or.inl ⟨by omega, by omega, by omega, (fun h9 => absurd ((hbo hz).is.mpr h9) (by omega)), heX⟩)))⟩
    refine zr_bipush hB dX8_note_37 rfl (fun c42 ec42 => ?_)
    exact zr_iret hG dX8_note_39 ⟨hO0, hA0, (fun hz => by first | exact Or.inl ⟨by omega, by omega, ⟨rfl, fun _ => ⟨rfl, rfl, rfl⟩⟩⟩ | exact Or.inr (Or.inl ⟨by omega, by omega, by omega, ⟨rfl, fun _ => ⟨rfl, rfl, rfl⟩⟩⟩))⟩
  refine zr_iconst hB dX8_note_23 rfl (fun c43 ec43 => ?_)
  exact zr_iret hG dX8_note_24 ⟨hO0, hA0, (fun hz => by first | exact Or.inl ⟨by omega, by omega, ⟨rfl, fun _ => ⟨rfl, rfl, rfl⟩⟩⟩ | exact Or.inr (Or.inl ⟨by omega, by omega, by omega, ⟨rfl, fun _ => ⟨rfl, rfl, rfl⟩⟩⟩))⟩

set_option maxHeartbeats 1000000 in
set_option maxRecDepth 100000 in
theorem c_X8_noteOf_0 (K : zc_K) (hi : zc_inj shX K.2.2.2.1) (σ0 : zc_S) (p1 : Int32) (p2 : Int32) (hO0 : zc_O okX σ0)  : zc_M shX K yX8_noteOf cX8_noteOf 3 (some .int) (zrm 4 88) σ0 [.ref (zk K 0), .int p1, .int p2] (zc_I (fun r9 σ9 => σ0 = σ9)) := by
  refine zc_start RX8 hi pfX8_noteOf rfl (Nat.le_of_ble_eq_true rfl) ?_
  intro G hG
  have hB := hG.1
  show zc_V 3 K G (zc_D shX K G σ0) [(0, .ref (zk K 0)), (1, .int p1), (2, .int p2)] 0 []
  refine zr_iload_n hB 1 dX8_noteOf_0 rfl ?_
  refine zr_if_lt hB dX8_noteOf_1 (tgt := 25) rfl (fun c1 => ?_) (fun c1 => ?_)
  · refine zr_iconst hB dX8_noteOf_25 rfl (fun c2 ec2 => ?_)
    exact zr_iret hG dX8_noteOf_26 rfl
  refine zr_iload_n hB 1 dX8_noteOf_4 rfl ?_
  refine zr_aload_n hB 0 dX8_noteOf_5 rfl ?_
  refine zr_getr hG 0 5 dX8_noteOf_6 rfl wf_X8_51 rfl ?_
  refine zr_geti' hG 6 0 (σ0.1 6 0) dX8_noteOf_9 rfl wf_X8_246 rfl rfl ?_
  have b3 : 0 ≤ (σ0.1 6 0).toInt ∧ (σ0.1 6 0).toInt ≤ 24 := ⟨(hO0 6 0).1, (hO0 6 0).2.1⟩
  refine zr_icmp_ge hB dX8_noteOf_12 (tgt := 25) rfl (fun c4 => ?_) (fun c4 => ?_)
  · refine zr_iconst hB dX8_noteOf_25 rfl (fun c5 ec5 => ?_)
    exact zr_iret hG dX8_noteOf_26 rfl
  refine zr_iload_n hB 2 dX8_noteOf_15 rfl ?_
  refine zr_if_lt hB dX8_noteOf_16 (tgt := 25) rfl (fun c6 => ?_) (fun c6 => ?_)
  · refine zr_iconst hB dX8_noteOf_25 rfl (fun c7 ec7 => ?_)
    exact zr_iret hG dX8_noteOf_26 rfl
  refine zr_iload_n hB 2 dX8_noteOf_19 rfl ?_
  refine zr_bipush hB dX8_noteOf_20 rfl (fun c8 ec8 => ?_)
  refine zr_icmp_le hB dX8_noteOf_22 (tgt := 27) rfl (fun c9 => ?_) (fun c9 => ?_)
  · refine zr_iload_n hB 2 dX8_noteOf_27 rfl ?_
    by_cases c10 : p2.toInt = 0
    · refine zr_tabIn hB 0 dX8_noteOf_28 (by omega) (by omega) (off := 48) rfl (tgt := 76) rfl ?_
      refine zr_aload_n hB 0 dX8_noteOf_76 rfl ?_
      refine zr_getr hG 0 5 dX8_noteOf_77 rfl wf_X8_51 rfl ?_
      refine zr_getr hG 6 1 dX8_noteOf_80 rfl wf_X8_251 rfl ?_
      refine zr_iload_n hB 1 dX8_noteOf_83 rfl ?_
      refine zr_iald hG 30 dX8_noteOf_84 rfl (by omega) (by omega) (fun x11 ex11 => ?_)
      have bx11 : 0 ≤ x11.toInt ∧ x11.toInt ≤ 3 := by rw [ex11]; exact ⟨(hO0 30 _).1, (hO0 30 _).2.1⟩
      exact zr_iret hG dX8_noteOf_85 rfl
    by_cases c12 : p2.toInt = 1
    · refine zr_tabIn hB 1 dX8_noteOf_28 (by omega) (by omega) (off := 58) rfl (tgt := 86) rfl ?_
      refine zr_aload_n hB 0 dX8_noteOf_86 rfl ?_
      refine zr_getr hG 0 5 dX8_noteOf_87 rfl wf_X8_51 rfl ?_
      refine zr_getr hG 6 2 dX8_noteOf_90 rfl wf_X8_254 rfl ?_
      refine zr_iload_n hB 1 dX8_noteOf_93 rfl ?_
      refine zr_iald hG 31 dX8_noteOf_94 rfl (by omega) (by omega) (fun x13 ex13 => ?_)
      have bx13 : 0 ≤ x13.toInt ∧ x13.toInt ≤ 5 := by rw [ex13]; exact ⟨(hO0 31 _).1, (hO0 31 _).2.1⟩
      exact zr_iret hG dX8_noteOf_95 rfl
    by_cases c14 : p2.toInt = 2
    · refine zr_tabIn hB 2 dX8_noteOf_28 (by omega) (by omega) (off := 68) rfl (tgt := 96) rfl ?_
      refine zr_aload_n hB 0 dX8_noteOf_96 rfl ?_
      refine zr_getr hG 0 5 dX8_noteOf_97 rfl wf_X8_51 rfl ?_
      refine zr_getr hG 6 3 dX8_noteOf_100 rfl wf_X8_257 rfl ?_
      refine zr_iload_n hB 1 dX8_noteOf_103 rfl ?_
      refine zr_iald hG 32 dX8_noteOf_104 rfl (by omega) (by omega) (fun x15 ex15 => ?_)
      have bx15 : 0 ≤ x15.toInt ∧ x15.toInt ≤ 63 := by rw [ex15]; exact ⟨(hO0 32 _).1, (hO0 32 _).2.1⟩
      exact zr_iret hG dX8_noteOf_105 rfl
    by_cases c16 : p2.toInt = 3
    · refine zr_tabIn hB 3 dX8_noteOf_28 (by omega) (by omega) (off := 78) rfl (tgt := 106) rfl ?_
      refine zr_aload_n hB 0 dX8_noteOf_106 rfl ?_
      refine zr_getr hG 0 5 dX8_noteOf_107 rfl wf_X8_51 rfl ?_
      refine zr_getr hG 6 4 dX8_noteOf_110 rfl wf_X8_260 rfl ?_
      refine zr_iload_n hB 1 dX8_noteOf_113 rfl ?_
      refine zr_iald hG 33 dX8_noteOf_114 rfl (by omega) (by omega) (fun x17 ex17 => ?_)
      have bx17 : 0 ≤ x17.toInt ∧ x17.toInt ≤ 77 := by rw [ex17]; exact ⟨(hO0 33 _).1, (hO0 33 _).2.1⟩
      exact zr_iret hG dX8_noteOf_115 rfl
    by_cases c18 : p2.toInt = 4
    · refine zr_tabIn hB 4 dX8_noteOf_28 (by omega) (by omega) (off := 88) rfl (tgt := 116) rfl ?_
      refine zr_aload_n hB 0 dX8_noteOf_116 rfl ?_
      refine zr_getr hG 0 5 dX8_noteOf_117 rfl wf_X8_51 rfl ?_
      refine zr_getr hG 6 5 dX8_noteOf_120 rfl wf_X8_263 rfl ?_
      refine zr_iload_n hB 1 dX8_noteOf_123 rfl ?_
      refine zr_iald hG 34 dX8_noteOf_124 rfl (by omega) (by omega) (fun x19 ex19 => ?_)
      have bx19 : (-4) ≤ x19.toInt ∧ x19.toInt ≤ 999 := by rw [ex19]; exact ⟨(hO0 34 _).1, (hO0 34 _).2.1⟩
      exact zr_iret hG dX8_noteOf_125 rfl
    by_cases c20 : p2.toInt = 5
    · refine zr_tabIn hB 5 dX8_noteOf_28 (by omega) (by omega) (off := 98) rfl (tgt := 126) rfl ?_
      refine zr_aload_n hB 0 dX8_noteOf_126 rfl ?_
      refine zr_getr hG 0 5 dX8_noteOf_127 rfl wf_X8_51 rfl ?_
      refine zr_getr hG 6 6 dX8_noteOf_130 rfl wf_X8_266 rfl ?_
      refine zr_iload_n hB 1 dX8_noteOf_133 rfl ?_
      refine zr_iald hG 35 dX8_noteOf_134 rfl (by omega) (by omega) (fun x21 ex21 => ?_)
      have bx21 : 0 ≤ x21.toInt ∧ x21.toInt ≤ 999 := by rw [ex21]; exact ⟨(hO0 35 _).1, (hO0 35 _).2.1⟩
      exact zr_iret hG dX8_noteOf_135 rfl
    by_cases c22 : p2.toInt = 6
    · refine zr_tabIn hB 6 dX8_noteOf_28 (by omega) (by omega) (off := 108) rfl (tgt := 136) rfl ?_
      refine zr_aload_n hB 0 dX8_noteOf_136 rfl ?_
      refine zr_iload_n hB 1 dX8_noteOf_137 rfl ?_
      refine zr_callvi hG (rest := []) 0 dX8_noteOf_138 wm_X8_269 rfl rfl (c_X8_figureOfNote_0 K hG.2.2.2.2.2.1 σ0 p1 hO0 (by omega) (by omega)) rfl rfl (Nat.le_of_ble_eq_true rfl) ⟨Nat.le_of_ble_eq_true rfl, Nat.le_of_ble_eq_true rfl, rfl, rfl⟩ (fun r23 σ24 h25 => ?_)
      obtain ⟨rfl, r23a, r23b, r23h, g26⟩ := h25
      exact zr_iret hG dX8_noteOf_141 rfl
    by_cases c27 : p2.toInt = 7
    · refine zr_tabIn hB 7 dX8_noteOf_28 (by omega) (by omega) (off := 114) rfl (tgt := 142) rfl ?_
      refine zr_aload_n hB 0 dX8_noteOf_142 rfl ?_
      refine zr_iload_n hB 1 dX8_noteOf_143 rfl ?_
      refine zr_callvi hG (rest := []) 0 dX8_noteOf_144 wm_X8_272 rfl rfl (c_X8_heldOfNote_0 K hG.2.2.2.2.2.1 σ0 p1 hO0 (by omega) (by omega)) rfl rfl (Nat.le_of_ble_eq_true rfl) ⟨Nat.le_of_ble_eq_true rfl, Nat.le_of_ble_eq_true rfl, rfl, rfl⟩ (fun r28 σ29 h30 => ?_)
      obtain ⟨rfl, r28a, r28b⟩ := h30
      exact zr_iret hG dX8_noteOf_147 rfl
    refine zr_tabOut hB dX8_noteOf_28 (by omega) (tgt := 148) rfl ?_
    refine zr_aload_n hB 0 dX8_noteOf_148 rfl ?_
    refine zr_getr hG 0 5 dX8_noteOf_149 rfl wf_X8_51 rfl ?_
    refine zr_getr hG 6 7 dX8_noteOf_152 rfl wf_X8_275 rfl ?_
    refine zr_iload_n hB 1 dX8_noteOf_155 rfl ?_
    refine zr_zald hG 36 dX8_noteOf_156 rfl (by omega) (by omega) (fun x31 ex31 => ?_)
    have bx31 : 0 ≤ x31.toInt ∧ x31.toInt ≤ 1 := by rw [ex31]; exact ⟨(hO0 36 _).1, (hO0 36 _).2.1⟩
    refine zr_if_eq hB dX8_noteOf_157 (tgt := 164) rfl (fun c32 => ?_) (fun c32 => ?_)
    · refine zr_iconst hB dX8_noteOf_164 rfl (fun c33 ec33 => ?_)
      exact zr_iret hG dX8_noteOf_165 rfl
    refine zr_iconst hB dX8_noteOf_160 rfl (fun c34 ec34 => ?_)
    refine zr_goto hB dX8_noteOf_161 (tgt := 165) rfl ?_
    exact zr_iret hG dX8_noteOf_165 rfl
  refine zr_iconst hB dX8_noteOf_25 rfl (fun c35 ec35 => ?_)
  exact zr_iret hG dX8_noteOf_26 rfl

def m_X8_acted_0 : zc_ms := [(36, none)]
set_option maxHeartbeats 1000000 in
set_option maxRecDepth 100000 in
theorem c_X8_acted_0 (K : zc_K) (hi : zc_inj shX K.2.2.2.1) (σ0 : zc_S) (p1 : Int32) (hO0 : zc_O okX σ0)  : zc_M shX K yX8_acted cX8_acted 2 (some .int) (zrm 3 66) σ0 [.ref (zk K 0), .int p1] (zc_I (fun r9 σ9 => zc_O okX σ9 ∧ zc_Ag m_X8_acted_0 σ0 σ9 ∧ zp_ac (0 ≤ p1.toInt ∧ p1.toInt < (σ0.1 6 0).toInt) (σ0.1 36 p1.toInt.toNat).toInt r9.toInt (zp_cx σ0 p1.toInt.toNat) (σ9 = σ0) (∃ c : Int32, c.toInt = 1 ∧ σ9 = zc_u σ0 36 p1.toInt.toNat c))) := by
  refine zc_start RX8 hi pfX8_acted rfl (Nat.le_of_ble_eq_true rfl) ?_
  intro G hG
  have hB := hG.1
  have hA0 : zc_Ag m_X8_acted_0 σ0 σ0 := zc_Ag.rf
  show zc_V 2 K G (zc_D shX K G σ0) [(0, .ref (zk K 0)), (1, .int p1)] 0 []
  have bw6_0 : 0 ≤ (σ0.1 6 0).toInt ∧ (σ0.1 6 0).toInt ≤ 24 := ⟨(hO0 6 0).1, (hO0 6 0).2.1⟩
  refine zr_iload_n hB 1 dX8_acted_0 rfl ?_
  refine zr_if_lt hB dX8_acted_1 (tgt := 15) rfl (fun c1 => ?_) (fun c1 => ?_)
  · refine zr_iconst hB dX8_acted_15 rfl (fun c2 ec2 => ?_)
    exact zr_iret hG dX8_acted_16 ⟨hO0, hA0, (by first | exact Or.inl ⟨by omega, by omega, rfl⟩ | exact Or.inr (Or.inl ⟨by omega, Or.inl (by omega), by omega, rfl⟩))⟩
  refine zr_iload_n hB 1 dX8_acted_4 rfl ?_
  refine zr_aload_n hB 0 dX8_acted_5 rfl ?_
  refine zr_getr hG 0 5 dX8_acted_6 rfl wf_X8_51 rfl ?_
  refine zr_geti' hG 6 0 (σ0.1 6 0) dX8_acted_9 rfl wf_X8_246 rfl rfl ?_
  refine zr_icmp_lt hB dX8_acted_12 (tgt := 17) rfl (fun c3 => ?_) (fun c3 => ?_)
  · refine zr_aload_n hB 0 dX8_acted_17 rfl ?_
    refine zr_getr hG 0 5 dX8_acted_18 rfl wf_X8_51 rfl ?_
    refine zr_getr hG 6 7 dX8_acted_21 rfl wf_X8_275 rfl ?_
    refine zr_iload_n hB 1 dX8_acted_24 rfl ?_
    refine zr_zald hG 36 dX8_acted_25 rfl (by omega) (by omega) (fun x4 ex4 => ?_)
    have bx4 : 0 ≤ x4.toInt ∧ x4.toInt ≤ 1 := by rw [ex4]; exact ⟨(hO0 36 _).1, (hO0 36 _).2.1⟩
    refine zr_if_ne hB dX8_acted_26 (tgt := 39) rfl (fun c5 => ?_) (fun c5 => ?_)
    · refine zr_bipush hB dX8_acted_39 rfl (fun c6 ec6 => ?_)
      exact zr_iret hG dX8_acted_41 ⟨hO0, hA0, (by have hqx4 := congrArg Int32.toInt ex4; first | exact Or.inl ⟨by omega, by omega, rfl⟩ | exact Or.inr (Or.inl ⟨by omega, Or.inl (by omega), by omega, rfl⟩))⟩
    refine zr_aload_n hB 0 dX8_acted_29 rfl ?_
    refine zr_iload_n hB 1 dX8_acted_30 rfl ?_
    refine zr_callvi hG (rest := []) 0 dX8_acted_31 wm_X8_269 rfl rfl (c_X8_figureOfNote_0 K hG.2.2.2.2.2.1 σ0 p1 hO0 (by omega) (by omega)) rfl rfl (Nat.le_of_ble_eq_true rfl) ⟨Nat.le_of_ble_eq_true rfl, Nat.le_of_ble_eq_true rfl, rfl, rfl⟩ (fun r7 σ8 h9 => ?_)
    obtain ⟨rfl, r7a, r7b, r7h, g10⟩ := h9
    refine zr_bipush hB dX8_acted_34 rfl (fun c11 ec11 => ?_)
    refine zr_icmp_eq hB dX8_acted_36 (tgt := 42) rfl (fun c12 => ?_) (fun c12 => ?_)
    · refine zr_aload_n hB 0 dX8_acted_42 rfl ?_
      refine zr_getr hG 0 5 dX8_acted_43 rfl wf_X8_51 rfl ?_
      refine zr_getr hG 6 7 dX8_acted_46 rfl wf_X8_275 rfl ?_
      refine zr_iload_n hB 1 dX8_acted_49 rfl ?_
      refine zr_iconst hB dX8_acted_50 rfl (fun c13 ec13 => ?_)
      refine zr_zast hG 36 dX8_acted_51 rfl (by omega) (by omega) (by omega) (by omega) ?_
      have hOw14 := zc_O.u hO0 36 p1.toInt.toNat (v := c13) (show 0 ≤ c13.toInt by omega) (show c13.toInt ≤ 1 by omega) (Or.inr (show 0 ≤ c13.toInt by omega))
      have hAw14 := zc_Ag.u hA0 36 p1.toInt.toNat c13 rfl
      refine zr_iconst hB dX8_acted_52 rfl (fun c15 ec15 => ?_)
      exact zr_iret hG dX8_acted_53 ⟨hOw14, hAw14, (by have hqx4 := congrArg Int32.toInt ex4; exact Or.inr (Or.inr ⟨by omega, by omega, (fun h9 => absurd (g10.is.mpr h9) (by omega)), by omega, ⟨c13, by omega, rfl⟩⟩))⟩
    refine zr_bipush hB dX8_acted_39 rfl (fun c16 ec16 => ?_)
    exact zr_iret hG dX8_acted_41 ⟨hO0, hA0, (by have hqx4 := congrArg Int32.toInt ex4; exact Or.inr (Or.inl ⟨by omega, Or.inr (g10.is.mp (by omega)), by omega, rfl⟩))⟩
  refine zr_iconst hB dX8_acted_15 rfl (fun c17 ec17 => ?_)
  exact zr_iret hG dX8_acted_16 ⟨hO0, hA0, (by first | exact Or.inl ⟨by omega, by omega, rfl⟩ | exact Or.inr (Or.inl ⟨by omega, Or.inl (by omega), by omega, rfl⟩))⟩

set_option maxHeartbeats 1000000 in
set_option maxRecDepth 100000 in
theorem c_X8_notes_0 (K : zc_K) (hi : zc_inj shX K.2.2.2.1) (σ0 : zc_S) (p1 : Int32) (hO0 : zc_O okX σ0)  : zc_M shX K yX8_notes cX8_notes 7 (some .int) (zrm 4 88) σ0 [.ref (zk K 0), .int p1] (zc_I (fun r9 σ9 => σ0 = σ9)) := by
  refine zc_start RX8 hi pfX8_notes rfl (Nat.le_of_ble_eq_true rfl) ?_
  intro G hG
  have hB := hG.1
  show zc_V 7 K G (zc_D shX K G σ0) [(0, .ref (zk K 0)), (1, .int p1)] 0 []
  refine zr_iload_n hB 1 dX8_notes_0 rfl ?_
  refine zr_if_lt hB dX8_notes_1 (tgt := 9) rfl (fun c1 => ?_) (fun c1 => ?_)
  · refine zr_iconst hB dX8_notes_9 rfl (fun c2 ec2 => ?_)
    exact zr_iret hG dX8_notes_10 rfl
  refine zr_iload_n hB 1 dX8_notes_4 rfl ?_
  refine zr_iconst hB dX8_notes_5 rfl (fun c3 ec3 => ?_)
  refine zr_icmp_le hB dX8_notes_6 (tgt := 11) rfl (fun c4 => ?_) (fun c4 => ?_)
  · refine zr_iload_n hB 1 dX8_notes_11 rfl ?_
    refine zr_iconst hB dX8_notes_12 rfl (fun c5 ec5 => ?_)
    refine zr_icmp_eq hB dX8_notes_13 (tgt := 21) rfl (fun c6 => ?_) (fun c6 => ?_)
    · refine zr_iconst hB dX8_notes_21 rfl (fun c7 ec7 => ?_)
      refine zr_goto hB dX8_notes_22 (tgt := 26) rfl ?_
      refine zr_istore_n hB dX8_notes_26 rfl (by decide) (lv' := [(2, .int c7), (0, .ref (zk K 0)), (1, .int p1)]) rfl ?_
      refine zr_iconst hB dX8_notes_27 rfl (fun c8 ec8 => ?_)
      refine zr_istore_n hB dX8_notes_28 rfl (by decide) (lv' := [(3, .int c8), (2, .int c7), (0, .ref (zk K 0)), (1, .int p1)]) rfl ?_
      refine zr_iconst hB dX8_notes_29 rfl (fun c9 ec9 => ?_)
      refine zr_istore hB dX8_notes_30 (by decide) (lv' := [(4, .int c9), (3, .int c8), (2, .int c7), (0, .ref (zk K 0)), (1, .int p1)]) rfl ?_
      have L32_12 : ∀ (n32 : Nat) (y3_10 : Int32) (y4_11 : Int32), 0 ≤ y4_11.toInt → y4_11.toInt ≤ 24 → 24 - y4_11.toInt < (n32 : Int) → zc_V 7 K G (zc_D shX K G σ0) [(0, .ref (zk K 0)), (1, .int p1), (2, .int c7), (3, .int y3_10), (4, .int y4_11)] 32 [] := by
        intro n32
        induction n32 with
        | zero => intro y3_10 y4_11 y4_11a y4_11b hn32; have vy3_10 := And.intro (zn_lo y3_10) (zn_hi y3_10); exfalso; omega
        | succ n32 ih32 =>
          intro y3_10 y4_11 y4_11a y4_11b hn32
          have vy3_10 := And.intro (zn_lo y3_10) (zn_hi y3_10)
          refine zr_iload hB 4 dX8_notes_32 rfl ?_
          refine zr_aload_n hB 0 dX8_notes_34 rfl ?_
          refine zr_getr hG 0 5 dX8_notes_35 rfl wf_X8_51 rfl ?_
          refine zr_geti' hG 6 0 (σ0.1 6 0) dX8_notes_38 rfl wf_X8_246 rfl rfl ?_
          have b13 : 0 ≤ (σ0.1 6 0).toInt ∧ (σ0.1 6 0).toInt ≤ 24 := ⟨(hO0 6 0).1, (hO0 6 0).2.1⟩
          refine zr_icmp_ge hB dX8_notes_41 (tgt := 108) rfl (fun c14 => ?_) (fun c14 => ?_)
          · refine zr_iload_n hB 3 dX8_notes_108 rfl ?_
            exact zr_iret hG dX8_notes_109 rfl
          refine zr_aload_n hB 0 dX8_notes_44 rfl ?_
          refine zr_iload hB 4 dX8_notes_45 rfl ?_
          refine zr_callvi hG (rest := []) 0 dX8_notes_47 wm_X8_272 rfl rfl (c_X8_heldOfNote_0 K hG.2.2.2.2.2.1 σ0 y4_11 hO0 (by omega) (by omega)) rfl rfl (Nat.le_of_ble_eq_true rfl) ⟨Nat.le_of_ble_eq_true rfl, Nat.le_of_ble_eq_true rfl, rfl, rfl⟩ (fun r15 σ16 h17 => ?_)
          obtain ⟨rfl, r15a, r15b⟩ := h17
          refine zr_istore hB dX8_notes_50 (by decide) (lv' := [(5, .int r15), (0, .ref (zk K 0)), (1, .int p1), (2, .int c7), (3, .int y3_10), (4, .int y4_11)]) rfl ?_
          refine zr_iload hB 0 dX8_notes_52 rfl ?_
          refine zr_bipush hB dX8_notes_54 rfl (fun c18 ec18 => ?_)
          refine zr_icmp_eq hB dX8_notes_56 (tgt := 81) rfl (fun c19 => ?_) (fun c19 => ?_)
          · refine zr_iconst hB dX8_notes_81 rfl (fun c20 ec20 => ?_)
            refine zr_istore hB dX8_notes_82 (by decide) (lv' := [(6, .int c20), (5, .int r15), (0, .ref (zk K 0)), (1, .int p1), (2, .int c7), (3, .int y3_10), (4, .int y4_11)]) rfl ?_
            refine zr_iload hB 0 dX8_notes_84 rfl ?_
            refine zr_if_eq hB dX8_notes_86 (tgt := 102) rfl (fun c21 => ?_) (fun c21 => ?_)
            · refine zr_iinc hB 6 dX8_notes_102 rfl (by decide) rfl (by omega) (by omega) (fun x22 ex22 lv' hlv => ?_)
              obtain rfl : [(4, .int x22), (6, .int c20), (5, .int r15), (0, .ref (zk K 0)), (1, .int p1), (2, .int c7), (3, .int y3_10)] = lv' := hlv
              refine zr_goto hB dX8_notes_105 (tgt := 32) rfl ?_
              exact zc_sub [3, 4, 5, 6, 0] rfl (ih32 y3_10 x22 (by omega) (by omega) (by omega))
            exfalso; omega
          refine zr_iload_n hB 2 dX8_notes_59 rfl ?_
          refine zr_iconst hB dX8_notes_60 rfl (fun c23 ec23 => ?_)
          refine zr_icmp_lt hB dX8_notes_61 (tgt := 77) rfl (fun c24 => ?_) (fun c24 => ?_)
          · refine zr_iconst hB dX8_notes_77 rfl (fun c25 ec25 => ?_)
            refine zr_goto hB dX8_notes_78 (tgt := 82) rfl ?_
            refine zr_istore hB dX8_notes_82 (by decide) (lv' := [(6, .int c25), (5, .int r15), (0, .ref (zk K 0)), (1, .int p1), (2, .int c7), (3, .int y3_10), (4, .int y4_11)]) rfl ?_
            refine zr_iload hB 0 dX8_notes_84 rfl ?_
            refine zr_if_eq hB dX8_notes_86 (tgt := 102) rfl (fun c26 => ?_) (fun c26 => ?_)
            · exfalso; omega
            refine zr_iload hB 1 dX8_notes_89 rfl ?_
            refine zr_iconst hB dX8_notes_91 rfl (fun c27 ec27 => ?_)
            refine zr_icmp_eq hB dX8_notes_92 (tgt := 99) rfl (fun c28 => ?_) (fun c28 => ?_)
            · refine zr_iincw hB 5 dX8_notes_99 rfl (by decide) (fun x29 ex29 lv' hlv => ?_)
              obtain rfl : [(3, .int x29), (6, .int c25), (5, .int r15), (0, .ref (zk K 0)), (1, .int p1), (2, .int c7), (4, .int y4_11)] = lv' := hlv
              refine zr_iinc hB 6 dX8_notes_102 rfl (by decide) rfl (by omega) (by omega) (fun x30 ex30 lv' hlv => ?_)
              obtain rfl : [(4, .int x30), (3, .int x29), (6, .int c25), (5, .int r15), (0, .ref (zk K 0)), (1, .int p1), (2, .int c7)] = lv' := hlv
              refine zr_goto hB dX8_notes_105 (tgt := 32) rfl ?_
              exact zc_sub [4, 5, 6, 1, 0] rfl (ih32 x29 x30 (by omega) (by omega) (by omega))
            refine zr_iload_n hB 4 dX8_notes_95 rfl ?_
            refine zr_if_ne hB dX8_notes_96 (tgt := 102) rfl (fun c31 => ?_) (fun c31 => ?_)
            · refine zr_iinc hB 6 dX8_notes_102 rfl (by decide) rfl (by omega) (by omega) (fun x32 ex32 lv' hlv => ?_)
              obtain rfl : [(4, .int x32), (6, .int c25), (5, .int r15), (0, .ref (zk K 0)), (1, .int p1), (2, .int c7), (3, .int y3_10)] = lv' := hlv
              refine zr_goto hB dX8_notes_105 (tgt := 32) rfl ?_
              exact zc_sub [3, 4, 5, 6, 0] rfl (ih32 y3_10 x32 (by omega) (by omega) (by omega))
            exfalso; omega
          exfalso; omega
      exact zc_sub [3, 4, 2, 1, 0] rfl (L32_12 26 c8 c9 (by omega) (by omega) (by omega))
    refine zr_iload_n hB 1 dX8_notes_16 rfl ?_
    refine zr_iconst hB dX8_notes_17 rfl (fun c33 ec33 => ?_)
    refine zr_icmp_ne hB dX8_notes_18 (tgt := 25) rfl (fun c34 => ?_) (fun c34 => ?_)
    · refine zr_iconst hB dX8_notes_25 rfl (fun c35 ec35 => ?_)
      refine zr_istore_n hB dX8_notes_26 rfl (by decide) (lv' := [(2, .int c35), (0, .ref (zk K 0)), (1, .int p1)]) rfl ?_
      refine zr_iconst hB dX8_notes_27 rfl (fun c36 ec36 => ?_)
      refine zr_istore_n hB dX8_notes_28 rfl (by decide) (lv' := [(3, .int c36), (2, .int c35), (0, .ref (zk K 0)), (1, .int p1)]) rfl ?_
      refine zr_iconst hB dX8_notes_29 rfl (fun c37 ec37 => ?_)
      refine zr_istore hB dX8_notes_30 (by decide) (lv' := [(4, .int c37), (3, .int c36), (2, .int c35), (0, .ref (zk K 0)), (1, .int p1)]) rfl ?_
      have L32_40 : ∀ (n32 : Nat) (y3_38 : Int32) (y4_39 : Int32), 0 ≤ y4_39.toInt → y4_39.toInt ≤ 24 → 24 - y4_39.toInt < (n32 : Int) → zc_V 7 K G (zc_D shX K G σ0) [(0, .ref (zk K 0)), (1, .int p1), (2, .int c35), (3, .int y3_38), (4, .int y4_39)] 32 [] := by
        intro n32
        induction n32 with
        | zero => intro y3_38 y4_39 y4_39a y4_39b hn32; have vy3_38 := And.intro (zn_lo y3_38) (zn_hi y3_38); exfalso; omega
        | succ n32 ih32 =>
          intro y3_38 y4_39 y4_39a y4_39b hn32
          have vy3_38 := And.intro (zn_lo y3_38) (zn_hi y3_38)
          refine zr_iload hB 4 dX8_notes_32 rfl ?_
          refine zr_aload_n hB 0 dX8_notes_34 rfl ?_
          refine zr_getr hG 0 5 dX8_notes_35 rfl wf_X8_51 rfl ?_
          refine zr_geti' hG 6 0 (σ0.1 6 0) dX8_notes_38 rfl wf_X8_246 rfl rfl ?_
          have b41 : 0 ≤ (σ0.1 6 0).toInt ∧ (σ0.1 6 0).toInt ≤ 24 := ⟨(hO0 6 0).1, (hO0 6 0).2.1⟩
          refine zr_icmp_ge hB dX8_notes_41 (tgt := 108) rfl (fun c42 => ?_) (fun c42 => ?_)
          · refine zr_iload_n hB 3 dX8_notes_108 rfl ?_
            exact zr_iret hG dX8_notes_109 rfl
          refine zr_aload_n hB 0 dX8_notes_44 rfl ?_
          refine zr_iload hB 4 dX8_notes_45 rfl ?_
          refine zr_callvi hG (rest := []) 0 dX8_notes_47 wm_X8_272 rfl rfl (c_X8_heldOfNote_0 K hG.2.2.2.2.2.1 σ0 y4_39 hO0 (by omega) (by omega)) rfl rfl (Nat.le_of_ble_eq_true rfl) ⟨Nat.le_of_ble_eq_true rfl, Nat.le_of_ble_eq_true rfl, rfl, rfl⟩ (fun r43 σ44 h45 => ?_)
          obtain ⟨rfl, r43a, r43b⟩ := h45
          refine zr_istore hB dX8_notes_50 (by decide) (lv' := [(5, .int r43), (0, .ref (zk K 0)), (1, .int p1), (2, .int c35), (3, .int y3_38), (4, .int y4_39)]) rfl ?_
          refine zr_iload hB 0 dX8_notes_52 rfl ?_
          refine zr_bipush hB dX8_notes_54 rfl (fun c46 ec46 => ?_)
          refine zr_icmp_eq hB dX8_notes_56 (tgt := 81) rfl (fun c47 => ?_) (fun c47 => ?_)
          · refine zr_iconst hB dX8_notes_81 rfl (fun c48 ec48 => ?_)
            refine zr_istore hB dX8_notes_82 (by decide) (lv' := [(6, .int c48), (5, .int r43), (0, .ref (zk K 0)), (1, .int p1), (2, .int c35), (3, .int y3_38), (4, .int y4_39)]) rfl ?_
            refine zr_iload hB 0 dX8_notes_84 rfl ?_
            refine zr_if_eq hB dX8_notes_86 (tgt := 102) rfl (fun c49 => ?_) (fun c49 => ?_)
            · refine zr_iinc hB 6 dX8_notes_102 rfl (by decide) rfl (by omega) (by omega) (fun x50 ex50 lv' hlv => ?_)
              obtain rfl : [(4, .int x50), (6, .int c48), (5, .int r43), (0, .ref (zk K 0)), (1, .int p1), (2, .int c35), (3, .int y3_38)] = lv' := hlv
              refine zr_goto hB dX8_notes_105 (tgt := 32) rfl ?_
              exact zc_sub [3, 4, 5, 6, 0] rfl (ih32 y3_38 x50 (by omega) (by omega) (by omega))
            exfalso; omega
          refine zr_iload_n hB 2 dX8_notes_59 rfl ?_
          refine zr_iconst hB dX8_notes_60 rfl (fun c51 ec51 => ?_)
          refine zr_icmp_lt hB dX8_notes_61 (tgt := 77) rfl (fun c52 => ?_) (fun c52 => ?_)
          · refine zr_iconst hB dX8_notes_77 rfl (fun c53 ec53 => ?_)
            refine zr_goto hB dX8_notes_78 (tgt := 82) rfl ?_
            refine zr_istore hB dX8_notes_82 (by decide) (lv' := [(6, .int c53), (5, .int r43), (0, .ref (zk K 0)), (1, .int p1), (2, .int c35), (3, .int y3_38), (4, .int y4_39)]) rfl ?_
            refine zr_iload hB 0 dX8_notes_84 rfl ?_
            refine zr_if_eq hB dX8_notes_86 (tgt := 102) rfl (fun c54 => ?_) (fun c54 => ?_)
            · exfalso; omega
            refine zr_iload hB 1 dX8_notes_89 rfl ?_
            refine zr_iconst hB dX8_notes_91 rfl (fun c55 ec55 => ?_)
            refine zr_icmp_eq hB dX8_notes_92 (tgt := 99) rfl (fun c56 => ?_) (fun c56 => ?_)
            · refine zr_iincw hB 5 dX8_notes_99 rfl (by decide) (fun x57 ex57 lv' hlv => ?_)
              obtain rfl : [(3, .int x57), (6, .int c53), (5, .int r43), (0, .ref (zk K 0)), (1, .int p1), (2, .int c35), (4, .int y4_39)] = lv' := hlv
              refine zr_iinc hB 6 dX8_notes_102 rfl (by decide) rfl (by omega) (by omega) (fun x58 ex58 lv' hlv => ?_)
              obtain rfl : [(4, .int x58), (3, .int x57), (6, .int c53), (5, .int r43), (0, .ref (zk K 0)), (1, .int p1), (2, .int c35)] = lv' := hlv
              refine zr_goto hB dX8_notes_105 (tgt := 32) rfl ?_
              exact zc_sub [4, 5, 6, 1, 0] rfl (ih32 x57 x58 (by omega) (by omega) (by omega))
            refine zr_iload_n hB 4 dX8_notes_95 rfl ?_
            refine zr_if_ne hB dX8_notes_96 (tgt := 102) rfl (fun c59 => ?_) (fun c59 => ?_)
            · exfalso; omega
            refine zr_iincw hB 5 dX8_notes_99 rfl (by decide) (fun x60 ex60 lv' hlv => ?_)
            obtain rfl : [(3, .int x60), (6, .int c53), (5, .int r43), (0, .ref (zk K 0)), (1, .int p1), (2, .int c35), (4, .int y4_39)] = lv' := hlv
            refine zr_iinc hB 6 dX8_notes_102 rfl (by decide) rfl (by omega) (by omega) (fun x61 ex61 lv' hlv => ?_)
            obtain rfl : [(4, .int x61), (3, .int x60), (6, .int c53), (5, .int r43), (0, .ref (zk K 0)), (1, .int p1), (2, .int c35)] = lv' := hlv
            refine zr_goto hB dX8_notes_105 (tgt := 32) rfl ?_
            exact zc_sub [4, 5, 6, 1, 0] rfl (ih32 x60 x61 (by omega) (by omega) (by omega))
          refine zr_aload_n hB 1 dX8_notes_64 rfl ?_
          refine zr_getr hG 0 5 dX8_notes_65 rfl wf_X8_51 rfl ?_
          refine zr_getr hG 6 7 dX8_notes_68 rfl wf_X8_275 rfl ?_
          refine zr_iload hB 5 dX8_notes_71 rfl ?_
          refine zr_zald hG 36 dX8_notes_73 rfl (by omega) (by omega) (fun x62 ex62 => ?_)
          have bx62 : 0 ≤ x62.toInt ∧ x62.toInt ≤ 1 := by rw [ex62]; exact ⟨(hO0 36 _).1, (hO0 36 _).2.1⟩
          refine zr_if_ne hB dX8_notes_74 (tgt := 81) rfl (fun c63 => ?_) (fun c63 => ?_)
          · refine zr_iconst hB dX8_notes_81 rfl (fun c64 ec64 => ?_)
            refine zr_istore hB dX8_notes_82 (by decide) (lv' := [(6, .int c64), (5, .int r43), (0, .ref (zk K 0)), (1, .int p1), (2, .int c35), (3, .int y3_38), (4, .int y4_39)]) rfl ?_
            refine zr_iload hB 0 dX8_notes_84 rfl ?_
            refine zr_if_eq hB dX8_notes_86 (tgt := 102) rfl (fun c65 => ?_) (fun c65 => ?_)
            · refine zr_iinc hB 6 dX8_notes_102 rfl (by decide) rfl (by omega) (by omega) (fun x66 ex66 lv' hlv => ?_)
              obtain rfl : [(4, .int x66), (6, .int c64), (5, .int r43), (0, .ref (zk K 0)), (1, .int p1), (2, .int c35), (3, .int y3_38)] = lv' := hlv
              refine zr_goto hB dX8_notes_105 (tgt := 32) rfl ?_
              exact zc_sub [3, 4, 5, 6, 0] rfl (ih32 y3_38 x66 (by omega) (by omega) (by omega))
            exfalso; omega
          refine zr_iconst hB dX8_notes_77 rfl (fun c67 ec67 => ?_)
          refine zr_goto hB dX8_notes_78 (tgt := 82) rfl ?_
          refine zr_istore hB dX8_notes_82 (by decide) (lv' := [(6, .int c67), (5, .int r43), (0, .ref (zk K 0)), (1, .int p1), (2, .int c35), (3, .int y3_38), (4, .int y4_39)]) rfl ?_
          refine zr_iload hB 0 dX8_notes_84 rfl ?_
          refine zr_if_eq hB dX8_notes_86 (tgt := 102) rfl (fun c68 => ?_) (fun c68 => ?_)
          · exfalso; omega
          refine zr_iload hB 1 dX8_notes_89 rfl ?_
          refine zr_iconst hB dX8_notes_91 rfl (fun c69 ec69 => ?_)
          refine zr_icmp_eq hB dX8_notes_92 (tgt := 99) rfl (fun c70 => ?_) (fun c70 => ?_)
          · refine zr_iincw hB 5 dX8_notes_99 rfl (by decide) (fun x71 ex71 lv' hlv => ?_)
            obtain rfl : [(3, .int x71), (6, .int c67), (5, .int r43), (0, .ref (zk K 0)), (1, .int p1), (2, .int c35), (4, .int y4_39)] = lv' := hlv
            refine zr_iinc hB 6 dX8_notes_102 rfl (by decide) rfl (by omega) (by omega) (fun x72 ex72 lv' hlv => ?_)
            obtain rfl : [(4, .int x72), (3, .int x71), (6, .int c67), (5, .int r43), (0, .ref (zk K 0)), (1, .int p1), (2, .int c35)] = lv' := hlv
            refine zr_goto hB dX8_notes_105 (tgt := 32) rfl ?_
            exact zc_sub [4, 5, 6, 1, 0] rfl (ih32 x71 x72 (by omega) (by omega) (by omega))
          refine zr_iload_n hB 4 dX8_notes_95 rfl ?_
          refine zr_if_ne hB dX8_notes_96 (tgt := 102) rfl (fun c73 => ?_) (fun c73 => ?_)
          · exfalso; omega
          refine zr_iincw hB 5 dX8_notes_99 rfl (by decide) (fun x74 ex74 lv' hlv => ?_)
          obtain rfl : [(3, .int x74), (6, .int c67), (5, .int r43), (0, .ref (zk K 0)), (1, .int p1), (2, .int c35), (4, .int y4_39)] = lv' := hlv
          refine zr_iinc hB 6 dX8_notes_102 rfl (by decide) rfl (by omega) (by omega) (fun x75 ex75 lv' hlv => ?_)
          obtain rfl : [(4, .int x75), (3, .int x74), (6, .int c67), (5, .int r43), (0, .ref (zk K 0)), (1, .int p1), (2, .int c35)] = lv' := hlv
          refine zr_goto hB dX8_notes_105 (tgt := 32) rfl ?_
          exact zc_sub [4, 5, 6, 1, 0] rfl (ih32 x74 x75 (by omega) (by omega) (by omega))
      exact zc_sub [3, 4, 2, 1, 0] rfl (L32_40 26 c36 c37 (by omega) (by omega) (by omega))
    refine zr_iconst hB dX8_notes_21 rfl (fun c76 ec76 => ?_)
    refine zr_goto hB dX8_notes_22 (tgt := 26) rfl ?_
    refine zr_istore_n hB dX8_notes_26 rfl (by decide) (lv' := [(2, .int c76), (0, .ref (zk K 0)), (1, .int p1)]) rfl ?_
    refine zr_iconst hB dX8_notes_27 rfl (fun c77 ec77 => ?_)
    refine zr_istore_n hB dX8_notes_28 rfl (by decide) (lv' := [(3, .int c77), (2, .int c76), (0, .ref (zk K 0)), (1, .int p1)]) rfl ?_
    refine zr_iconst hB dX8_notes_29 rfl (fun c78 ec78 => ?_)
    refine zr_istore hB dX8_notes_30 (by decide) (lv' := [(4, .int c78), (3, .int c77), (2, .int c76), (0, .ref (zk K 0)), (1, .int p1)]) rfl ?_
    have L32_81 : ∀ (n32 : Nat) (y3_79 : Int32) (y4_80 : Int32), 0 ≤ y4_80.toInt → y4_80.toInt ≤ 24 → 24 - y4_80.toInt < (n32 : Int) → zc_V 7 K G (zc_D shX K G σ0) [(0, .ref (zk K 0)), (1, .int p1), (2, .int c76), (3, .int y3_79), (4, .int y4_80)] 32 [] := by
      intro n32
      induction n32 with
      | zero => intro y3_79 y4_80 y4_80a y4_80b hn32; have vy3_79 := And.intro (zn_lo y3_79) (zn_hi y3_79); exfalso; omega
      | succ n32 ih32 =>
        intro y3_79 y4_80 y4_80a y4_80b hn32
        have vy3_79 := And.intro (zn_lo y3_79) (zn_hi y3_79)
        refine zr_iload hB 4 dX8_notes_32 rfl ?_
        refine zr_aload_n hB 0 dX8_notes_34 rfl ?_
        refine zr_getr hG 0 5 dX8_notes_35 rfl wf_X8_51 rfl ?_
        refine zr_geti' hG 6 0 (σ0.1 6 0) dX8_notes_38 rfl wf_X8_246 rfl rfl ?_
        have b82 : 0 ≤ (σ0.1 6 0).toInt ∧ (σ0.1 6 0).toInt ≤ 24 := ⟨(hO0 6 0).1, (hO0 6 0).2.1⟩
        refine zr_icmp_ge hB dX8_notes_41 (tgt := 108) rfl (fun c83 => ?_) (fun c83 => ?_)
        · refine zr_iload_n hB 3 dX8_notes_108 rfl ?_
          exact zr_iret hG dX8_notes_109 rfl
        refine zr_aload_n hB 0 dX8_notes_44 rfl ?_
        refine zr_iload hB 4 dX8_notes_45 rfl ?_
        refine zr_callvi hG (rest := []) 0 dX8_notes_47 wm_X8_272 rfl rfl (c_X8_heldOfNote_0 K hG.2.2.2.2.2.1 σ0 y4_80 hO0 (by omega) (by omega)) rfl rfl (Nat.le_of_ble_eq_true rfl) ⟨Nat.le_of_ble_eq_true rfl, Nat.le_of_ble_eq_true rfl, rfl, rfl⟩ (fun r84 σ85 h86 => ?_)
        obtain ⟨rfl, r84a, r84b⟩ := h86
        refine zr_istore hB dX8_notes_50 (by decide) (lv' := [(5, .int r84), (0, .ref (zk K 0)), (1, .int p1), (2, .int c76), (3, .int y3_79), (4, .int y4_80)]) rfl ?_
        refine zr_iload hB 0 dX8_notes_52 rfl ?_
        refine zr_bipush hB dX8_notes_54 rfl (fun c87 ec87 => ?_)
        refine zr_icmp_eq hB dX8_notes_56 (tgt := 81) rfl (fun c88 => ?_) (fun c88 => ?_)
        · refine zr_iconst hB dX8_notes_81 rfl (fun c89 ec89 => ?_)
          refine zr_istore hB dX8_notes_82 (by decide) (lv' := [(6, .int c89), (5, .int r84), (0, .ref (zk K 0)), (1, .int p1), (2, .int c76), (3, .int y3_79), (4, .int y4_80)]) rfl ?_
          refine zr_iload hB 0 dX8_notes_84 rfl ?_
          refine zr_if_eq hB dX8_notes_86 (tgt := 102) rfl (fun c90 => ?_) (fun c90 => ?_)
          · refine zr_iinc hB 6 dX8_notes_102 rfl (by decide) rfl (by omega) (by omega) (fun x91 ex91 lv' hlv => ?_)
            obtain rfl : [(4, .int x91), (6, .int c89), (5, .int r84), (0, .ref (zk K 0)), (1, .int p1), (2, .int c76), (3, .int y3_79)] = lv' := hlv
            refine zr_goto hB dX8_notes_105 (tgt := 32) rfl ?_
            exact zc_sub [3, 4, 5, 6, 0] rfl (ih32 y3_79 x91 (by omega) (by omega) (by omega))
          exfalso; omega
        refine zr_iload_n hB 2 dX8_notes_59 rfl ?_
        refine zr_iconst hB dX8_notes_60 rfl (fun c92 ec92 => ?_)
        refine zr_icmp_lt hB dX8_notes_61 (tgt := 77) rfl (fun c93 => ?_) (fun c93 => ?_)
        · exfalso; omega
        refine zr_aload_n hB 1 dX8_notes_64 rfl ?_
        refine zr_getr hG 0 5 dX8_notes_65 rfl wf_X8_51 rfl ?_
        refine zr_getr hG 6 7 dX8_notes_68 rfl wf_X8_275 rfl ?_
        refine zr_iload hB 5 dX8_notes_71 rfl ?_
        refine zr_zald hG 36 dX8_notes_73 rfl (by omega) (by omega) (fun x94 ex94 => ?_)
        have bx94 : 0 ≤ x94.toInt ∧ x94.toInt ≤ 1 := by rw [ex94]; exact ⟨(hO0 36 _).1, (hO0 36 _).2.1⟩
        refine zr_if_ne hB dX8_notes_74 (tgt := 81) rfl (fun c95 => ?_) (fun c95 => ?_)
        · refine zr_iconst hB dX8_notes_81 rfl (fun c96 ec96 => ?_)
          refine zr_istore hB dX8_notes_82 (by decide) (lv' := [(6, .int c96), (5, .int r84), (0, .ref (zk K 0)), (1, .int p1), (2, .int c76), (3, .int y3_79), (4, .int y4_80)]) rfl ?_
          refine zr_iload hB 0 dX8_notes_84 rfl ?_
          refine zr_if_eq hB dX8_notes_86 (tgt := 102) rfl (fun c97 => ?_) (fun c97 => ?_)
          · refine zr_iinc hB 6 dX8_notes_102 rfl (by decide) rfl (by omega) (by omega) (fun x98 ex98 lv' hlv => ?_)
            obtain rfl : [(4, .int x98), (6, .int c96), (5, .int r84), (0, .ref (zk K 0)), (1, .int p1), (2, .int c76), (3, .int y3_79)] = lv' := hlv
            refine zr_goto hB dX8_notes_105 (tgt := 32) rfl ?_
            exact zc_sub [3, 4, 5, 6, 0] rfl (ih32 y3_79 x98 (by omega) (by omega) (by omega))
          exfalso; omega
        refine zr_iconst hB dX8_notes_77 rfl (fun c99 ec99 => ?_)
        refine zr_goto hB dX8_notes_78 (tgt := 82) rfl ?_
        refine zr_istore hB dX8_notes_82 (by decide) (lv' := [(6, .int c99), (5, .int r84), (0, .ref (zk K 0)), (1, .int p1), (2, .int c76), (3, .int y3_79), (4, .int y4_80)]) rfl ?_
        refine zr_iload hB 0 dX8_notes_84 rfl ?_
        refine zr_if_eq hB dX8_notes_86 (tgt := 102) rfl (fun c100 => ?_) (fun c100 => ?_)
        · exfalso; omega
        refine zr_iload hB 1 dX8_notes_89 rfl ?_
        refine zr_iconst hB dX8_notes_91 rfl (fun c101 ec101 => ?_)
        refine zr_icmp_eq hB dX8_notes_92 (tgt := 99) rfl (fun c102 => ?_) (fun c102 => ?_)
        · refine zr_iincw hB 5 dX8_notes_99 rfl (by decide) (fun x103 ex103 lv' hlv => ?_)
          obtain rfl : [(3, .int x103), (6, .int c99), (5, .int r84), (0, .ref (zk K 0)), (1, .int p1), (2, .int c76), (4, .int y4_80)] = lv' := hlv
          refine zr_iinc hB 6 dX8_notes_102 rfl (by decide) rfl (by omega) (by omega) (fun x104 ex104 lv' hlv => ?_)
          obtain rfl : [(4, .int x104), (3, .int x103), (6, .int c99), (5, .int r84), (0, .ref (zk K 0)), (1, .int p1), (2, .int c76)] = lv' := hlv
          refine zr_goto hB dX8_notes_105 (tgt := 32) rfl ?_
          exact zc_sub [4, 5, 6, 1, 0] rfl (ih32 x103 x104 (by omega) (by omega) (by omega))
        refine zr_iload_n hB 4 dX8_notes_95 rfl ?_
        refine zr_if_ne hB dX8_notes_96 (tgt := 102) rfl (fun c105 => ?_) (fun c105 => ?_)
        · refine zr_iinc hB 6 dX8_notes_102 rfl (by decide) rfl (by omega) (by omega) (fun x106 ex106 lv' hlv => ?_)
          obtain rfl : [(4, .int x106), (6, .int c99), (5, .int r84), (0, .ref (zk K 0)), (1, .int p1), (2, .int c76), (3, .int y3_79)] = lv' := hlv
          refine zr_goto hB dX8_notes_105 (tgt := 32) rfl ?_
          exact zc_sub [3, 4, 5, 6, 0] rfl (ih32 y3_79 x106 (by omega) (by omega) (by omega))
        exfalso; omega
    exact zc_sub [3, 4, 2, 1, 0] rfl (L32_81 26 c77 c78 (by omega) (by omega) (by omega))
  refine zr_iconst hB dX8_notes_9 rfl (fun c107 ec107 => ?_)
  exact zr_iret hG dX8_notes_10 rfl

def m_X8_sheet_0 : zc_ms := [(37, none), (38, none), (39, none)]
set_option maxHeartbeats 1000000 in
set_option maxRecDepth 100000 in
theorem c_X8_sheet_0 (K : zc_K) (hi : zc_inj shX K.2.2.2.1) (σ0 : zc_S) (p1 : Int32) (p2 : Int32) (p3 : Int32) (hO0 : zc_O okX σ0)  : zc_M shX K yX8_sheet cX8_sheet 4 (some .int) (zrm 1 24) σ0 [.ref (zk K 0), .int p1, .int p2, .int p3] (zc_I (fun r9 σ9 => zc_O okX σ9 ∧ zc_Ag m_X8_sheet_0 σ0 σ9 ∧ ((¬ (0 ≤ p1.toInt ∧ p1.toInt ≤ 3 ∧ 0 ≤ p2.toInt ∧ p2.toInt ≤ 2 ∧ p3.toInt ≤ 64) ∧ r9.toInt = -1 ∧ σ9.1 37 = σ0.1 37 ∧ σ9.1 38 = σ0.1 38 ∧ σ9.1 39 = σ0.1 39) ∨ ((0 ≤ p1.toInt ∧ p1.toInt ≤ 3 ∧ 0 ≤ p2.toInt ∧ p2.toInt ≤ 2 ∧ p3.toInt ≤ 64) ∧ p3.toInt < 0 ∧ r9.toInt = -14 ∧ σ9.1 37 = σ0.1 37 ∧ σ9.1 38 = σ0.1 38 ∧ σ9.1 39 = σ0.1 39) ∨ ((0 ≤ p1.toInt ∧ p1.toInt ≤ 3 ∧ 0 ≤ p2.toInt ∧ p2.toInt ≤ 2 ∧ p3.toInt ≤ 64) ∧ 0 ≤ p3.toInt ∧ r9.toInt = 1 ∧ σ9.1 37 = upd (σ0.1 37) p1.toInt.toNat p2 ∧ σ9.1 38 = upd (σ0.1 38) p1.toInt.toNat p3 ∧ zv_Z σ0 σ9 39 (64 * p1.toInt) p3.toInt)))) := by
  refine zc_start RX8 hi pfX8_sheet rfl (Nat.le_of_ble_eq_true rfl) ?_
  intro G hG
  have hB := hG.1
  have hA0 : zc_Ag m_X8_sheet_0 σ0 σ0 := zc_Ag.rf
  show zc_V 4 K G (zc_D shX K G σ0) [(0, .ref (zk K 0)), (1, .int p1), (2, .int p2), (3, .int p3)] 0 []
  refine zr_iload_n hB 1 dX8_sheet_0 rfl ?_
  refine zr_callsi hG (rest := []) dX8_sheet_1 wm_X8_278 (c_X8_isSheet K hG.2.2.2.2.2.1 σ0 p1 hO0 ) rfl rfl (Nat.le_of_ble_eq_true rfl) ⟨Nat.le_of_ble_eq_true rfl, Nat.le_of_ble_eq_true rfl, rfl, rfl⟩ (fun r1 σ2 h3 => ?_)
  obtain ⟨rfl, r1q⟩ := h3
  have r1z := r1q.b
  refine zr_if_eq hB dX8_sheet_4 (tgt := 20) rfl (fun c4 => ?_) (fun c4 => ?_)
  · have q5 := r1q.f c4
    refine zr_iconst hB dX8_sheet_20 rfl (fun c6 ec6 => ?_)
    exact zr_iret hG dX8_sheet_21 ⟨hO0, hA0, (by first | (exfalso; omega) | exact Or.inl ⟨by omega, by omega, by first | rfl | assumption, by first | rfl | assumption, by first | rfl | assumption⟩ | exact Or.inr (Or.inl ⟨by omega, by omega, by omega, by first | rfl | assumption, by first | rfl | assumption, by first | rfl | assumption⟩) | exact Or.inr (Or.inr (⟨by omega, by omega, by omega, by first | rfl | assumption, by first | rfl | assumption, by first | rfl | assumption⟩)))⟩
  have q7 := r1q.t c4
  refine zr_iload_n hB 2 dX8_sheet_7 rfl ?_
  refine zr_callsi hG (rest := []) dX8_sheet_8 wm_X8_281 (c_X8_isLane K hG.2.2.2.2.2.1 σ0 p2 hO0 ) rfl rfl (Nat.le_of_ble_eq_true rfl) ⟨Nat.le_of_ble_eq_true rfl, Nat.le_of_ble_eq_true rfl, rfl, rfl⟩ (fun r8 σ9 h10 => ?_)
  obtain ⟨rfl, r8q⟩ := h10
  have r8z := r8q.b
  refine zr_if_eq hB dX8_sheet_11 (tgt := 20) rfl (fun c11 => ?_) (fun c11 => ?_)
  · have q12 := r8q.f c11
    refine zr_iconst hB dX8_sheet_20 rfl (fun c13 ec13 => ?_)
    exact zr_iret hG dX8_sheet_21 ⟨hO0, hA0, (by first | (exfalso; omega) | exact Or.inl ⟨by omega, by omega, by first | rfl | assumption, by first | rfl | assumption, by first | rfl | assumption⟩ | exact Or.inr (Or.inl ⟨by omega, by omega, by omega, by first | rfl | assumption, by first | rfl | assumption, by first | rfl | assumption⟩) | exact Or.inr (Or.inr (⟨by omega, by omega, by omega, by first | rfl | assumption, by first | rfl | assumption, by first | rfl | assumption⟩)))⟩
  have q14 := r8q.t c11
  refine zr_iload_n hB 3 dX8_sheet_14 rfl ?_
  refine zr_bipush hB dX8_sheet_15 rfl (fun c15 ec15 => ?_)
  refine zr_icmp_le hB dX8_sheet_17 (tgt := 22) rfl (fun c16 => ?_) (fun c16 => ?_)
  · refine zr_iload_n hB 3 dX8_sheet_22 rfl ?_
    refine zr_if_ge hB dX8_sheet_23 (tgt := 29) rfl (fun c17 => ?_) (fun c17 => ?_)
    · refine zr_aload_n hB 0 dX8_sheet_29 rfl ?_
      refine zr_getr hG 0 6 dX8_sheet_30 rfl wf_X8_58 rfl ?_
      refine zr_iload_n hB 1 dX8_sheet_33 rfl ?_
      refine zr_iload_n hB 2 dX8_sheet_34 rfl ?_
      refine zr_iload_n hB 3 dX8_sheet_35 rfl ?_
      refine zr_callvn hG (rest := []) 7 dX8_sheet_36 wm_X8_284 rfl rfl (c_X5_renew_7 K hG.2.2.2.2.2.1 σ0 p1 p2 p3 hO0 (by omega) (by omega) (by omega) (by omega) (by omega) (by omega)) rfl rfl (Nat.le_of_ble_eq_true rfl) ⟨Nat.le_of_ble_eq_true rfl, Nat.le_of_ble_eq_true rfl, rfl, rfl⟩ (fun σ19 h20 => ?_)
      obtain ⟨hO21, hAc22, g23, g24, g25⟩ := h20
      have hA26 := zc_Ag.tr hA0 hAc22 rfl
      refine zr_iconst hB dX8_sheet_39 rfl (fun c27 ec27 => ?_)
      exact zr_iret hG dX8_sheet_40 ⟨hO21, hA26, (by first | (exfalso; omega) | exact Or.inl ⟨by omega, by omega, by first | rfl | assumption, by first | rfl | assumption, by first | rfl | assumption⟩ | exact Or.inr (Or.inl ⟨by omega, by omega, by omega, by first | rfl | assumption, by first | rfl | assumption, by first | rfl | assumption⟩) | exact Or.inr (Or.inr (⟨by omega, by omega, by omega, by first | rfl | assumption, by first | rfl | assumption, by first | rfl | assumption⟩)))⟩
    refine zr_bipush hB dX8_sheet_26 rfl (fun c28 ec28 => ?_)
    exact zr_iret hG dX8_sheet_28 ⟨hO0, hA0, (by first | (exfalso; omega) | exact Or.inl ⟨by omega, by omega, by first | rfl | assumption, by first | rfl | assumption, by first | rfl | assumption⟩ | exact Or.inr (Or.inl ⟨by omega, by omega, by omega, by first | rfl | assumption, by first | rfl | assumption, by first | rfl | assumption⟩) | exact Or.inr (Or.inr (⟨by omega, by omega, by omega, by first | rfl | assumption, by first | rfl | assumption, by first | rfl | assumption⟩)))⟩
  refine zr_iconst hB dX8_sheet_20 rfl (fun c29 ec29 => ?_)
  exact zr_iret hG dX8_sheet_21 ⟨hO0, hA0, (by first | (exfalso; omega) | exact Or.inl ⟨by omega, by omega, by first | rfl | assumption, by first | rfl | assumption, by first | rfl | assumption⟩ | exact Or.inr (Or.inl ⟨by omega, by omega, by omega, by first | rfl | assumption, by first | rfl | assumption, by first | rfl | assumption⟩) | exact Or.inr (Or.inr (⟨by omega, by omega, by omega, by first | rfl | assumption, by first | rfl | assumption, by first | rfl | assumption⟩)))⟩

def m_X8_lay_0 : zc_ms := [(39, none)]
set_option maxHeartbeats 1000000 in
set_option maxRecDepth 100000 in
theorem c_X8_lay_0 (K : zc_K) (hi : zc_inj shX K.2.2.2.1) (σ0 : zc_S) (p1 : Int32) (p2 : Int32) (p3 : Int32) (hO0 : zc_O okX σ0)  : zc_M shX K yX8_lay cX8_lay 5 (some .int) (zrm 1 23) σ0 [.ref (zk K 0), .int p1, .int p2, .int p3] (zc_I (fun r9 σ9 => zc_O okX σ9 ∧ zc_Ag m_X8_lay_0 σ0 σ9 ∧ ((¬ (0 ≤ p1.toInt ∧ p1.toInt ≤ 3) ∧ r9.toInt = -1 ∧ σ9 = σ0) ∨ ((0 ≤ p1.toInt ∧ p1.toInt ≤ 3) ∧ (σ0.1 37 p1.toInt.toNat).toInt < 0 ∧ r9.toInt = -11 ∧ σ9 = σ0) ∨ ((0 ≤ p1.toInt ∧ p1.toInt ≤ 3) ∧ ¬ (σ0.1 37 p1.toInt.toNat).toInt < 0 ∧ (p2.toInt < 0 ∨ (σ0.1 38 p1.toInt.toNat).toInt ≤ p2.toInt) ∧ r9.toInt = -12 ∧ σ9 = σ0) ∨ ((0 ≤ p1.toInt ∧ p1.toInt ≤ 3) ∧ ¬ (σ0.1 37 p1.toInt.toNat).toInt < 0 ∧ 0 ≤ p2.toInt ∧ p2.toInt < (σ0.1 38 p1.toInt.toNat).toInt ∧ r9.toInt = 1 ∧ (∃ x9 : Int32, x9.toInt = zv_nr (σ0.1 37 p1.toInt.toNat).toInt p3.toInt ∧ σ9 = zc_u σ0 39 (p1.toInt * 64 + p2.toInt).toNat x9))))) := by
  refine zc_start RX8 hi pfX8_lay rfl (Nat.le_of_ble_eq_true rfl) ?_
  intro G hG
  have hB := hG.1
  have hA0 : zc_Ag m_X8_lay_0 σ0 σ0 := zc_Ag.rf
  show zc_V 5 K G (zc_D shX K G σ0) [(0, .ref (zk K 0)), (1, .int p1), (2, .int p2), (3, .int p3)] 0 []
  refine zr_iload_n hB 1 dX8_lay_0 rfl ?_
  refine zr_callsi hG (rest := []) dX8_lay_1 wm_X8_278 (c_X8_isSheet K hG.2.2.2.2.2.1 σ0 p1 hO0 ) rfl rfl (Nat.le_of_ble_eq_true rfl) ⟨Nat.le_of_ble_eq_true rfl, Nat.le_of_ble_eq_true rfl, rfl, rfl⟩ (fun r1 σ2 h3 => ?_)
  obtain ⟨rfl, r1q⟩ := h3
  have r1z := r1q.b
  refine zr_if_ne hB dX8_lay_4 (tgt := 9) rfl (fun c4 => ?_) (fun c4 => ?_)
  · have q5 := r1q.t c4
    refine zr_aload_n hB 0 dX8_lay_9 rfl ?_
    refine zr_getr hG 0 6 dX8_lay_10 rfl wf_X8_58 rfl ?_
    refine zr_iload_n hB 1 dX8_lay_13 rfl ?_
    refine zr_aload_n hB 0 dX8_lay_14 rfl ?_
    refine zr_getr hG 0 6 dX8_lay_15 rfl wf_X8_58 rfl ?_
    refine zr_getr hG 7 0 dX8_lay_18 rfl wf_X8_287 rfl ?_
    refine zr_iload_n hB 1 dX8_lay_21 rfl ?_
    refine zr_iald hG 37 dX8_lay_22 rfl (by omega) (by omega) (fun x6 ex6 => ?_)
    have bx6 : (-1) ≤ x6.toInt ∧ x6.toInt ≤ 2 := by rw [ex6]; exact ⟨(hO0 37 _).1, (hO0 37 _).2.1⟩
    refine zr_iload_n hB 2 dX8_lay_23 rfl ?_
    refine zr_callvi hG (rest := []) 7 dX8_lay_24 wm_X8_290 rfl rfl (c_X5_faultAt_7 K hG.2.2.2.2.2.1 σ0 p1 x6 p2 hO0 (by omega) (by omega)) rfl rfl (Nat.le_of_ble_eq_true rfl) ⟨Nat.le_of_ble_eq_true rfl, Nat.le_of_ble_eq_true rfl, rfl, rfl⟩ (fun r7 σ8 h9 => ?_)
    obtain ⟨rfl, r7a, r7b, g10, g11⟩ := h9
    refine zr_istore hB dX8_lay_27 (by decide) (lv' := [(4, .int r7), (0, .ref (zk K 0)), (1, .int p1), (2, .int p2), (3, .int p3)]) rfl ?_
    refine zr_iload hB 0 dX8_lay_29 rfl ?_
    refine zr_if_eq hB dX8_lay_31 (tgt := 40) rfl (fun c12 => ?_) (fun c12 => ?_)
    · refine zr_aload_n hB 1 dX8_lay_40 rfl ?_
      refine zr_getr hG 0 6 dX8_lay_41 rfl wf_X8_58 rfl ?_
      refine zr_iload_n hB 2 dX8_lay_44 rfl ?_
      refine zr_iload_n hB 3 dX8_lay_45 rfl ?_
      refine zr_iload_n hB 4 dX8_lay_46 rfl ?_
      refine zr_callvn hG (rest := []) 7 dX8_lay_47 wm_X8_293 rfl rfl (c_X5_put_7 K hG.2.2.2.2.2.1 σ0 p1 p2 p3 hO0 (by omega) (by omega) (by omega) (by omega)) rfl rfl (Nat.le_of_ble_eq_true rfl) ⟨Nat.le_of_ble_eq_true rfl, Nat.le_of_ble_eq_true rfl, rfl, rfl⟩ (fun σ14 h15 => ?_)
      obtain ⟨hO16, hAc17, g18⟩ := h15
      have hA19 := zc_Ag.tr hA0 hAc17 rfl
      refine zr_iconst hB dX8_lay_50 rfl (fun c20 ec20 => ?_)
      exact zr_iret hG dX8_lay_51 ⟨hO16, hA19, (by have hqx6 := congrArg Int32.toInt ex6; first | (exfalso; omega) | exact Or.inl ⟨by omega, by omega, by first | rfl | assumption⟩ | exact Or.inr (Or.inl ⟨by omega, by omega, by omega, by first | rfl | assumption⟩) | exact Or.inr (Or.inr (Or.inl ⟨by omega, by omega, by omega, by omega, by first | rfl | assumption⟩)) | exact Or.inr (Or.inr (Or.inr (⟨by omega, by omega, by omega, by omega, by omega, by first | rfl | assumption⟩))))⟩
    refine zr_bipush hB dX8_lay_34 rfl (fun c21 ec21 => ?_)
    refine zr_iload hB 0 dX8_lay_36 rfl ?_
    refine zr_isub hB dX8_lay_38 (by omega) (by omega) (fun x22 ex22 => ?_)
    exact zr_iret hG dX8_lay_39 ⟨hO0, hA0, (by by_cases h9 : (σ0.1 37 p1.toInt.toNat).toInt < 0; exact (by have hqx6 := congrArg Int32.toInt ex6; first | (exfalso; omega) | exact Or.inl ⟨by omega, by omega, by first | rfl | assumption⟩ | exact Or.inr (Or.inl ⟨by omega, by omega, by omega, by first | rfl | assumption⟩) | exact Or.inr (Or.inr (Or.inl ⟨by omega, by omega, by omega, by omega, by first | rfl | assumption⟩)) | exact Or.inr (Or.inr (Or.inr (⟨by omega, by omega, by omega, by omega, by omega, by first | rfl | assumption⟩)))); exact (by have hqx6 := congrArg Int32.toInt ex6; first | (exfalso; omega) | exact Or.inl ⟨by omega, by omega, by first | rfl | assumption⟩ | exact Or.inr (Or.inl ⟨by omega, by omega, by omega, by first | rfl | assumption⟩) | exact Or.inr (Or.inr (Or.inl ⟨by omega, by omega, by omega, by omega, by first | rfl | assumption⟩)) | exact Or.inr (Or.inr (Or.inr (⟨by omega, by omega, by omega, by omega, by omega, by first | rfl | assumption⟩)))))⟩
  have q23 := r1q.f c4
  refine zr_iconst hB dX8_lay_7 rfl (fun c24 ec24 => ?_)
  exact zr_iret hG dX8_lay_8 ⟨hO0, hA0, (by by_cases h9 : (σ0.1 37 p1.toInt.toNat).toInt < 0; exact (by first | (exfalso; omega) | exact Or.inl ⟨by omega, by omega, by first | rfl | assumption⟩ | exact Or.inr (Or.inl ⟨by omega, by omega, by omega, by first | rfl | assumption⟩) | exact Or.inr (Or.inr (Or.inl ⟨by omega, by omega, by omega, by omega, by first | rfl | assumption⟩)) | exact Or.inr (Or.inr (Or.inr (⟨by omega, by omega, by omega, by omega, by omega, by first | rfl | assumption⟩)))); exact (by first | (exfalso; omega) | exact Or.inl ⟨by omega, by omega, by first | rfl | assumption⟩ | exact Or.inr (Or.inl ⟨by omega, by omega, by omega, by first | rfl | assumption⟩) | exact Or.inr (Or.inr (Or.inl ⟨by omega, by omega, by omega, by omega, by first | rfl | assumption⟩)) | exact Or.inr (Or.inr (Or.inr (⟨by omega, by omega, by omega, by omega, by omega, by first | rfl | assumption⟩)))))⟩

def m_X8_read_0 : zc_ms := [(1, some 1), (11, none), (12, none), (13, none), (14, none), (7, some 3)]
set_option maxHeartbeats 1000000 in
set_option maxRecDepth 100000 in
theorem c_X8_read_0 (K : zc_K) (hi : zc_inj shX K.2.2.2.1) (σ0 : zc_S) (p1 : Int32) (p2 : Int32) (p3 : Int32) (p4 : Int32) (p5 : Int32) (p6 : Int32) (hO0 : zc_O okX σ0) (hC : zx_C σ0) : zc_M shX K yX8_read cX8_read 12 (some .int) (zrm 4 95) σ0 [.ref (zk K 0), .int p1, .int p2, .int p3, .int p4, .int p5, .int p6] (zc_I (fun r9 σ9 => zc_O okX σ9 ∧ zc_Ag m_X8_read_0 σ0 σ9 ∧ ((¬ (0 ≤ p1.toInt ∧ p1.toInt ≤ 3 ∧ 0 ≤ p2.toInt ∧ p2.toInt ≤ 63 ∧ 0 ≤ p3.toInt ∧ p3.toInt ≤ 3 ∧ 0 ≤ p4.toInt ∧ p4.toInt ≤ 2 ∧ 0 ≤ p6.toInt ∧ p6.toInt ≤ 64 ∧ (p6.toInt ≤ 0 ∨ p2.toInt + p6.toInt - 1 ≤ (σ0.1 1 0).toInt)) ∧ σ9 = σ0) ∨ ((0 ≤ p1.toInt ∧ p1.toInt ≤ 3 ∧ 0 ≤ p2.toInt ∧ p2.toInt ≤ 63 ∧ 0 ≤ p3.toInt ∧ p3.toInt ≤ 3 ∧ 0 ≤ p4.toInt ∧ p4.toInt ≤ 2 ∧ 0 ≤ p6.toInt ∧ p6.toInt ≤ 64 ∧ (p6.toInt ≤ 0 ∨ p2.toInt + p6.toInt - 1 ≤ (σ0.1 1 0).toInt)) ∧ zq_E (zx_fl σ0 p3.toInt p4.toInt p5.toInt) (zx_cl σ0 p3.toInt p5.toInt) (zq_cn (σ0.1 1 0).toInt (p1.toInt * 64 + p2.toInt).toNat (zx_cl σ0 p3.toInt p5.toInt) (zx_A σ0)) (σ0.1 1 1).toInt p6.toInt.toNat (σ9 = σ0) (fun R9 => zx_R σ0 σ9 (p1.toInt * 64 + p2.toInt).toNat (zx_cl σ0 p3.toInt p5.toInt) R9))))) := by
  refine zc_start RX8 hi pfX8_read rfl (Nat.le_of_ble_eq_true rfl) ?_
  intro G hG
  have hB := hG.1
  have hA0 : zc_Ag m_X8_read_0 σ0 σ0 := zc_Ag.rf
  show zc_V 12 K G (zc_D shX K G σ0) [(0, .ref (zk K 0)), (1, .int p1), (2, .int p2), (3, .int p3), (4, .int p4), (5, .int p5), (6, .int p6)] 0 []
  refine zr_iload_n hB 1 dX8_read_0 rfl ?_
  refine zr_callsi hG (rest := []) dX8_read_1 wm_X8_70 (c_X8_isShop K hG.2.2.2.2.2.1 σ0 p1 hO0 ) rfl rfl (Nat.le_of_ble_eq_true rfl) ⟨Nat.le_of_ble_eq_true rfl, Nat.le_of_ble_eq_true rfl, rfl, rfl⟩ (fun r1 σ2 h3 => ?_)
  obtain ⟨rfl, r1q⟩ := h3
  have r1z := r1q.b
  refine zr_if_eq hB dX8_read_4 (tgt := 41) rfl (fun c4 => ?_) (fun c4 => ?_)
  · have q5 := r1q.f c4
    refine zr_iconst hB dX8_read_41 rfl (fun c6 ec6 => ?_)
    exact zr_iret hG dX8_read_42 ⟨hO0, hA0, (Or.inl ⟨by omega, rfl⟩)⟩
  have q7 := r1q.t c4
  refine zr_iload_n hB 2 dX8_read_7 rfl ?_
  refine zr_callsi hG (rest := []) dX8_read_8 wm_X8_62 (c_X8_isDay K hG.2.2.2.2.2.1 σ0 p2 hO0 ) rfl rfl (Nat.le_of_ble_eq_true rfl) ⟨Nat.le_of_ble_eq_true rfl, Nat.le_of_ble_eq_true rfl, rfl, rfl⟩ (fun r8 σ9 h10 => ?_)
  obtain ⟨rfl, r8q⟩ := h10
  have r8z := r8q.b
  refine zr_if_eq hB dX8_read_11 (tgt := 41) rfl (fun c11 => ?_) (fun c11 => ?_)
  · have q12 := r8q.f c11
    refine zr_iconst hB dX8_read_41 rfl (fun c13 ec13 => ?_)
    exact zr_iret hG dX8_read_42 ⟨hO0, hA0, (Or.inl ⟨by omega, rfl⟩)⟩
  have q14 := r8q.t c11
  refine zr_iload_n hB 3 dX8_read_14 rfl ?_
  refine zr_callsi hG (rest := []) dX8_read_15 wm_X8_278 (c_X8_isSheet K hG.2.2.2.2.2.1 σ0 p3 hO0 ) rfl rfl (Nat.le_of_ble_eq_true rfl) ⟨Nat.le_of_ble_eq_true rfl, Nat.le_of_ble_eq_true rfl, rfl, rfl⟩ (fun r15 σ16 h17 => ?_)
  obtain ⟨rfl, r15q⟩ := h17
  have r15z := r15q.b
  refine zr_if_eq hB dX8_read_18 (tgt := 41) rfl (fun c18 => ?_) (fun c18 => ?_)
  · have q19 := r15q.f c18
    refine zr_iconst hB dX8_read_41 rfl (fun c20 ec20 => ?_)
    exact zr_iret hG dX8_read_42 ⟨hO0, hA0, (Or.inl ⟨by omega, rfl⟩)⟩
  have q21 := r15q.t c18
  refine zr_iload hB 4 dX8_read_21 rfl ?_
  refine zr_callsi hG (rest := []) dX8_read_23 wm_X8_281 (c_X8_isLane K hG.2.2.2.2.2.1 σ0 p4 hO0 ) rfl rfl (Nat.le_of_ble_eq_true rfl) ⟨Nat.le_of_ble_eq_true rfl, Nat.le_of_ble_eq_true rfl, rfl, rfl⟩ (fun r22 σ23 h24 => ?_)
  obtain ⟨rfl, r22q⟩ := h24
  have r22z := r22q.b
  refine zr_if_eq hB dX8_read_26 (tgt := 41) rfl (fun c25 => ?_) (fun c25 => ?_)
  · have q26 := r22q.f c25
    refine zr_iconst hB dX8_read_41 rfl (fun c27 ec27 => ?_)
    exact zr_iret hG dX8_read_42 ⟨hO0, hA0, (Or.inl ⟨by omega, rfl⟩)⟩
  have q28 := r22q.t c25
  refine zr_iload hB 6 dX8_read_29 rfl ?_
  refine zr_if_lt hB dX8_read_31 (tgt := 41) rfl (fun c29 => ?_) (fun c29 => ?_)
  · refine zr_iconst hB dX8_read_41 rfl (fun c30 ec30 => ?_)
    exact zr_iret hG dX8_read_42 ⟨hO0, hA0, (Or.inl ⟨by omega, rfl⟩)⟩
  refine zr_iload hB 6 dX8_read_34 rfl ?_
  refine zr_bipush hB dX8_read_36 rfl (fun c31 ec31 => ?_)
  refine zr_icmp_le hB dX8_read_38 (tgt := 43) rfl (fun c32 => ?_) (fun c32 => ?_)
  · refine zr_iload hB 6 dX8_read_43 rfl ?_
    have L66_35 : ((p6.toInt ≤ 0 ∨ p2.toInt + p6.toInt ≤ 64)) → ((p6.toInt ≤ 0 ∨ p2.toInt + p6.toInt - 1 ≤ (σ0.1 1 0).toInt)) → zc_V 12 K G (zc_D shX K G σ0) [(0, .ref (zk K 0)), (1, .int p1), (2, .int p2), (3, .int p3), (4, .int p4), (5, .int p5), (6, .int p6)] 66 [] := by
      intro e33 e34
      refine zr_iconst hB dX8_read_66 rfl (fun c36 ec36 => ?_)
      refine zr_istore hB dX8_read_67 (by decide) (lv' := [(7, .int c36), (0, .ref (zk K 0)), (1, .int p1), (2, .int p2), (3, .int p3), (4, .int p4), (5, .int p5), (6, .int p6)]) rfl ?_
      refine zr_iconst hB dX8_read_69 rfl (fun c37 ec37 => ?_)
      refine zr_istore hB dX8_read_70 (by decide) (lv' := [(8, .int c37), (7, .int c36), (0, .ref (zk K 0)), (1, .int p1), (2, .int p2), (3, .int p3), (4, .int p4), (5, .int p5), (6, .int p6)]) rfl ?_
      refine zr_iconst hB dX8_read_72 rfl (fun c38 ec38 => ?_)
      refine zr_istore hB dX8_read_73 (by decide) (lv' := [(9, .int c38), (8, .int c37), (7, .int c36), (0, .ref (zk K 0)), (1, .int p1), (2, .int p2), (3, .int p3), (4, .int p4), (5, .int p5), (6, .int p6)]) rfl ?_
      refine zr_iconst hB dX8_read_75 rfl (fun c39 ec39 => ?_)
      refine zr_istore hB dX8_read_76 (by decide) (lv' := [(10, .int c39), (9, .int c38), (8, .int c37), (7, .int c36), (0, .ref (zk K 0)), (1, .int p1), (2, .int p2), (3, .int p3), (4, .int p4), (5, .int p5), (6, .int p6)]) rfl ?_
      have L78_48 : ∀ (n78 : Nat) (y7_40 : Int32) (y8_41 : Int32) (y9_42 : Int32) (y10_43 : Int32), 0 ≤ y7_40.toInt → y7_40.toInt ≤ 3 → 0 ≤ y8_41.toInt → y8_41.toInt ≤ 64 → 0 ≤ y9_42.toInt → y9_42.toInt ≤ 200 → 0 ≤ y10_43.toInt → y10_43.toInt ≤ 64 → y8_41.toInt ≤ y10_43.toInt → y10_43.toInt ≤ p6.toInt → ((¬ y7_40.toInt = 0 ∨ y8_41.toInt = y10_43.toInt)) → ((y8_41.toInt = 0 ∨ (0 ≤ p5.toInt ∧ p5.toInt + y8_41.toInt ≤ 64))) → (∀ j : Int, 0 ≤ j → j < y8_41.toInt → (σ0.1 39 (p3.toInt * 64 + p5.toInt + j).toNat).toInt ≤ 999) → zq_G (zx_fl σ0 p3.toInt p4.toInt p5.toInt) (zx_cl σ0 p3.toInt p5.toInt) (zq_cn (σ0.1 1 0).toInt (p1.toInt * 64 + p2.toInt).toNat (zx_cl σ0 p3.toInt p5.toInt) (zx_A σ0)) (σ0.1 1 1).toInt y8_41.toInt.toNat → ((¬ y7_40.toInt = 0 → (zx_fl σ0 p3.toInt p4.toInt p5.toInt) y8_41.toInt.toNat)) → y9_42.toInt = (zq_cn (σ0.1 1 0).toInt (p1.toInt * 64 + p2.toInt).toNat (zx_cl σ0 p3.toInt p5.toInt) (zx_A σ0)) y8_41.toInt.toNat → 64 - y10_43.toInt < (n78 : Int) → zc_V 12 K G (zc_D shX K G σ0) [(0, .ref (zk K 0)), (1, .int p1), (2, .int p2), (3, .int p3), (4, .int p4), (5, .int p5), (6, .int p6), (7, .int y7_40), (8, .int y8_41), (9, .int y9_42), (10, .int y10_43)] 78 [] := by
        intro n78
        induction n78 with
        | zero => intro y7_40 y8_41 y9_42 y10_43 y7_40a y7_40b y8_41a y8_41b y9_42a y9_42b y10_43a y10_43b e44 e45 e46 e47 hqr hG9 hF9 hN9 hn78; exfalso; omega
        | succ n78 ih78 =>
          intro y7_40 y8_41 y9_42 y10_43 y7_40a y7_40b y8_41a y8_41b y9_42a y9_42b y10_43a y10_43b e44 e45 e46 e47 hqr hG9 hF9 hN9 hn78
          refine zr_iload hB 10 dX8_read_78 rfl ?_
          refine zr_iload hB 6 dX8_read_80 rfl ?_
          have L193_50 : ((¬ y7_40.toInt = 0 ∨ p6.toInt ≤ y10_43.toInt)) → zc_V 12 K G (zc_D shX K G σ0) [(0, .ref (zk K 0)), (1, .int p1), (2, .int p2), (3, .int p3), (4, .int p4), (5, .int p5), (6, .int p6), (7, .int y7_40), (8, .int y8_41), (9, .int y9_42), (10, .int y10_43)] 193 [] := by
            intro e49
            refine zr_aload_n hB 0 dX8_read_193 rfl ?_
            refine zr_iload_n hB 1 dX8_read_194 rfl ?_
            refine zr_iload_n hB 2 dX8_read_195 rfl ?_
            refine zr_iload_n hB 3 dX8_read_196 rfl ?_
            refine zr_iload hB 5 dX8_read_197 rfl ?_
            refine zr_iload hB 8 dX8_read_199 rfl ?_
            refine zr_callvn hG (rest := []) 0 dX8_read_201 wm_X8_302 rfl rfl (c_X8_tellFromSheet_0 K hG.2.2.2.2.2.1 σ0 p1 p2 p3 p5 y8_41 hO0 (by omega) (by omega) (by omega) (by omega) (by omega) (by omega) (by omega) (by omega) (by omega) (by omega) hqr hC (hG9.le rfl (hO0 1 1).2.1)) rfl rfl (Nat.le_of_ble_eq_true rfl) ⟨Nat.le_of_ble_eq_true rfl, Nat.le_of_ble_eq_true rfl, rfl, rfl⟩ (fun σ52 h53 => ?_)
            obtain ⟨hO54, hAc55, g56⟩ := h53
            have hA57 := zc_Ag.tr hA0 hAc55 rfl
            have hzt := g56
            refine zr_aload_n hB 0 dX8_read_204 rfl ?_
            refine zr_getr hG 0 6 dX8_read_205 rfl wf_X8_58 rfl ?_
            refine zr_iload hB 7 dX8_read_208 rfl ?_
            refine zr_puti hG 7 3 dX8_read_210 rfl wp_X8_305 rfl ?_
            have hOw58 := zc_O.u hO54 7 3 (v := y7_40) (show 0 ≤ y7_40.toInt by omega) (show y7_40.toInt ≤ 3 by omega) (Or.inr (show 0 ≤ y7_40.toInt by omega))
            have hAw58 := zc_Ag.u hA57 7 3 y7_40 rfl
            refine zr_iload hB 9 dX8_read_213 rfl ?_
            exact zr_iret hG dX8_read_215 ⟨hOw58, hAw58, (Or.inr ⟨by omega, ⟨y8_41.toInt.toNat, by omega, hG9, Or.inl ⟨by by_cases h9 : y7_40.toInt = 0; exact Or.inl (by omega); exact Or.inr (hF9 h9), hzt.ag (zc_Ag.u (M := [(7, some 3)]) zc_Ag.rf 7 3 _ rfl) rfl (fun _ => rfl) (fun _ => rfl) (fun _ => rfl) (fun _ => rfl)⟩⟩⟩)⟩
          refine zr_icmp_ge hB dX8_read_82 (tgt := 193) rfl (fun c59 => ?_) (fun c59 => ?_)
          · exact L193_50 (show (¬ y7_40.toInt = 0 ∨ p6.toInt ≤ y10_43.toInt) by omega)
          refine zr_iload hB 7 dX8_read_85 rfl ?_
          refine zr_if_ne hB dX8_read_87 (tgt := 193) rfl (fun c60 => ?_) (fun c60 => ?_)
          · exact L193_50 (show (¬ y7_40.toInt = 0 ∨ p6.toInt ≤ y10_43.toInt) by omega)
          refine zr_aload_n hB 0 dX8_read_90 rfl ?_
          refine zr_getr hG 0 6 dX8_read_91 rfl wf_X8_58 rfl ?_
          refine zr_iload_n hB 3 dX8_read_94 rfl ?_
          refine zr_iload hB 4 dX8_read_95 rfl ?_
          refine zr_iload hB 5 dX8_read_97 rfl ?_
          refine zr_iload hB 10 dX8_read_99 rfl ?_
          refine zr_iaddw hB dX8_read_101 (fun x61 ex61 => ?_)
          refine zr_callvi hG (rest := []) 7 dX8_read_102 wm_X8_290 rfl rfl (c_X5_faultAt_7 K hG.2.2.2.2.2.1 σ0 p3 p4 x61 hO0 (by omega) (by omega)) rfl rfl (Nat.le_of_ble_eq_true rfl) ⟨Nat.le_of_ble_eq_true rfl, Nat.le_of_ble_eq_true rfl, rfl, rfl⟩ (fun r62 σ63 h64 => ?_)
          obtain ⟨rfl, r62a, r62b, g65, g66⟩ := h64
          have q9 := zn_add3 ex61
          have v9 := And.intro (zn_lo p5) (zn_hi p5)
          have t9 := And.intro (zn_lo x61) (zn_hi x61)
          have u9 : (σ0.1 38 p3.toInt.toNat).toInt ≤ 64 := (hO0 38 _).2.1
          have hfl : (r62.toInt = 0 ∧ ¬ (zx_fl σ0 p3.toInt p4.toInt p5.toInt) y8_41.toInt.toNat) ∨ (¬ r62.toInt = 0 ∧ (zx_fl σ0 p3.toInt p4.toInt p5.toInt) y8_41.toInt.toNat) := by unfold zx_fl; omega
          refine zr_istore hB dX8_read_105 (by decide) (lv' := [(7, .int r62), (0, .ref (zk K 0)), (1, .int p1), (2, .int p2), (3, .int p3), (4, .int p4), (5, .int p5), (6, .int p6), (8, .int y8_41), (9, .int y9_42), (10, .int y10_43)]) rfl ?_
          refine zr_iload hB 0 dX8_read_107 rfl ?_
          refine zr_if_ne hB dX8_read_109 (tgt := 187) rfl (fun c67 => ?_) (fun c67 => ?_)
          · refine zr_iinc hB 10 dX8_read_187 rfl (by decide) rfl (by omega) (by omega) (fun x68 ex68 lv' hlv => ?_)
            obtain rfl : [(10, .int x68), (7, .int r62), (0, .ref (zk K 0)), (1, .int p1), (2, .int p2), (3, .int p3), (4, .int p4), (5, .int p5), (6, .int p6), (8, .int y8_41), (9, .int y9_42)] = lv' := hlv
            refine zr_goto hB dX8_read_190 (tgt := 78) rfl ?_
            exact zc_sub [2, 3, 4, 5, 6, 7, 8, 1, 9, 10, 0] rfl (ih78 r62 y8_41 y9_42 x68 (by omega) (by omega) (by omega) (by omega) (by omega) (by omega) (by omega) (by omega) (show y8_41.toInt ≤ x68.toInt by omega) (show x68.toInt ≤ p6.toInt by omega) (show (¬ r62.toInt = 0 ∨ y8_41.toInt = x68.toInt) by omega) (show (y8_41.toInt = 0 ∨ (0 ≤ p5.toInt ∧ p5.toInt + y8_41.toInt ≤ 64)) by omega) (show ∀ j : Int, 0 ≤ j → j < y8_41.toInt → (σ0.1 39 (p3.toInt * 64 + p5.toInt + j).toNat).toInt ≤ 999 by intro j h1 h2; first | (exfalso; omega) | exact hqr j h1 (by omega) | exact (show (σ0.1 39 (p3.toInt * 64 + p5.toInt + j).toNat).toInt ≤ 999 by by_cases hj : j < y10_42.toInt; exact hqr j h1 (by omega); rw [show (p3.toInt * 64 + p5.toInt + j).toNat = (p3.toInt * 64 + x58.toInt).toNat by omega, ← g70]; omega)) (show zq_G (zx_fl σ0 p3.toInt p4.toInt p5.toInt) (zx_cl σ0 p3.toInt p5.toInt) (zq_cn (σ0.1 1 0).toInt (p1.toInt * 64 + p2.toInt).toNat (zx_cl σ0 p3.toInt p5.toInt) (zx_A σ0)) (σ0.1 1 1).toInt y8_41.toInt.toNat by exact hG9) (show (¬ r62.toInt = 0 → (zx_fl σ0 p3.toInt p4.toInt p5.toInt) y8_41.toInt.toNat) by intro _; exact (by rcases hfl with ⟨a, _⟩ | ⟨_, b⟩; (exfalso; omega); exact b)) (show y9_42.toInt = (zq_cn (σ0.1 1 0).toInt (p1.toInt * 64 + p2.toInt).toNat (zx_cl σ0 p3.toInt p5.toInt) (zx_A σ0)) y8_41.toInt.toNat by exact hN9) (by omega))
          refine zr_aload_n hB 1 dX8_read_112 rfl ?_
          refine zr_getr hG 0 6 dX8_read_113 rfl wf_X8_58 rfl ?_
          refine zr_iload_n hB 4 dX8_read_116 rfl ?_
          refine zr_iload hB 6 dX8_read_117 rfl ?_
          refine zr_iload hB 10 dX8_read_119 rfl ?_
          refine zr_iaddw hB dX8_read_121 (fun x69 ex69 => ?_)
          obtain rfl : x61 = x69 := ex61.trans ex69.symm
          refine zr_callvi hG (rest := []) 7 dX8_read_122 wm_X8_296 rfl rfl (c_X5_cell_7 K hG.2.2.2.2.2.1 σ0 p3 x61 hO0 (by omega) (by omega) (by omega) (by omega)) rfl rfl (Nat.le_of_ble_eq_true rfl) ⟨Nat.le_of_ble_eq_true rfl, Nat.le_of_ble_eq_true rfl, rfl, rfl⟩ (fun r70 σ71 h72 => ?_)
          obtain ⟨rfl, g73⟩ := h72
          have hx9 := zn_addnn ex61 (by omega) (by omega) (by omega)
          have hcl : r70.toInt = (zx_cl σ0 p3.toInt p5.toInt) y8_41.toInt.toNat := by unfold zx_cl; rw [g73, show (p3.toInt * 64 + x61.toInt).toNat = (p3.toInt * 64 + p5.toInt + (y8_41.toInt.toNat : Int)).toNat by omega]
          refine zr_istore hB dX8_read_125 (by decide) (lv' := [(11, .int r70), (7, .int r62), (0, .ref (zk K 0)), (1, .int p1), (2, .int p2), (3, .int p3), (4, .int p4), (5, .int p5), (6, .int p6), (8, .int y8_41), (9, .int y9_42), (10, .int y10_43)]) rfl ?_
          refine zr_iload hB 0 dX8_read_127 rfl ?_
          refine zr_sipush hB dX8_read_129 rfl (fun c74 ec74 => ?_)
          refine zr_icmp_le hB dX8_read_132 (tgt := 141) rfl (fun c75 => ?_) (fun c75 => ?_)
          · refine zr_iload hB 10 dX8_read_141 rfl ?_
            refine zr_aload_n hB 2 dX8_read_143 rfl ?_
            refine zr_iload_n hB 3 dX8_read_144 rfl ?_
            refine zr_iload_n hB 4 dX8_read_145 rfl ?_
            refine zr_iload hB 11 dX8_read_146 rfl ?_
            refine zr_iadd hB dX8_read_148 (by omega) (by omega) (fun x76 ex76 => ?_)
            refine zr_iload hB 0 dX8_read_149 rfl ?_
            refine zr_callvi hG (rest := [.int y9_42]) 0 dX8_read_151 wm_X8_299 rfl rfl (c_X8_isKnownSo_0 K hG.2.2.2.2.2.1 σ0 p1 x76 r70 hO0 (by omega) (by omega) (by omega) (by omega)) rfl rfl (Nat.le_of_ble_eq_true rfl) ⟨Nat.le_of_ble_eq_true rfl, Nat.le_of_ble_eq_true rfl, rfl, rfl⟩ (fun r77 σ78 h79 => ?_)
            obtain ⟨rfl, r77a, r77b, g80⟩ := h79
            have hk9 := g80
            rw [show (p1.toInt * 64 + x76.toInt).toNat = (p1.toInt * 64 + p2.toInt).toNat + y8_41.toInt.toNat by omega, hcl] at hk9
            refine zr_if_eq hB dX8_read_154 (tgt := 161) rfl (fun c81 => ?_) (fun c81 => ?_)
            · refine zr_iconst hB dX8_read_161 rfl (fun c82 ec82 => ?_)
              refine zr_iadd hB dX8_read_162 (by omega) (by omega) (fun x83 ex83 => ?_)
              refine zr_istore hB dX8_read_163 (by decide) (lv' := [(9, .int x83), (11, .int r70), (7, .int r62), (0, .ref (zk K 0)), (1, .int p1), (2, .int p2), (3, .int p3), (4, .int p4), (5, .int p5), (6, .int p6), (8, .int y8_41), (10, .int y10_43)]) rfl ?_
              have hc9 : x83.toInt = (zq_cn (σ0.1 1 0).toInt (p1.toInt * 64 + p2.toInt).toNat (zx_cl σ0 p3.toInt p5.toInt) (zx_A σ0)) (y8_41.toInt.toNat + 1) := by rcases hk9 with ⟨a, b⟩ | ⟨a, b⟩; (rw [zq_cnk b]; omega); (rw [zq_cnt b]; omega)
              refine zr_aload_n hB 3 dX8_read_165 rfl ?_
              refine zr_getr hG 0 0 dX8_read_166 rfl wf_X8_15 rfl ?_
              refine zr_geti' hG 1 1 (σ0.1 1 1) dX8_read_169 rfl wf_X8_73 rfl rfl ?_
              have b84 : 0 ≤ (σ0.1 1 1).toInt ∧ (σ0.1 1 1).toInt ≤ 200 := ⟨(hO0 1 1).1, (hO0 1 1).2.1⟩
              refine zr_iload hB 0 dX8_read_172 rfl ?_
              refine zr_iadd hB dX8_read_174 (by omega) (by omega) (fun x85 ex85 => ?_)
              refine zr_sipush hB dX8_read_175 rfl (fun c86 ec86 => ?_)
              refine zr_icmp_le hB dX8_read_178 (tgt := 184) rfl (fun c87 => ?_) (fun c87 => ?_)
              · refine zr_iinc hB 10 dX8_read_184 rfl (by decide) rfl (by omega) (by omega) (fun x88 ex88 lv' hlv => ?_)
                obtain rfl : [(8, .int x88), (9, .int x83), (11, .int r70), (7, .int r62), (0, .ref (zk K 0)), (1, .int p1), (2, .int p2), (3, .int p3), (4, .int p4), (5, .int p5), (6, .int p6), (10, .int y10_43)] = lv' := hlv
                refine zr_iinc hB 11 dX8_read_187 rfl (by decide) rfl (by omega) (by omega) (fun x89 ex89 lv' hlv => ?_)
                obtain rfl : [(10, .int x89), (8, .int x88), (9, .int x83), (11, .int r70), (7, .int r62), (0, .ref (zk K 0)), (1, .int p1), (2, .int p2), (3, .int p3), (4, .int p4), (5, .int p5), (6, .int p6)] = lv' := hlv
                refine zr_goto hB dX8_read_190 (tgt := 78) rfl ?_
                exact zc_sub [5, 6, 7, 8, 9, 10, 11, 4, 1, 2, 0] rfl (ih78 r62 x88 x83 x89 (by omega) (by omega) (by omega) (by omega) (by omega) (by omega) (by omega) (by omega) (show x88.toInt ≤ x89.toInt by omega) (show x89.toInt ≤ p6.toInt by omega) (show (¬ r62.toInt = 0 ∨ x88.toInt = x89.toInt) by omega) (show (x88.toInt = 0 ∨ (0 ≤ p5.toInt ∧ p5.toInt + x88.toInt ≤ 64)) by omega) (show ∀ j : Int, 0 ≤ j → j < x88.toInt → (σ0.1 39 (p3.toInt * 64 + p5.toInt + j).toNat).toInt ≤ 999 by intro j h1 h2; first | (exfalso; omega) | exact hqr j h1 (by omega) | exact (show (σ0.1 39 (p3.toInt * 64 + p5.toInt + j).toNat).toInt ≤ 999 by by_cases hj : j < y10_43.toInt; exact hqr j h1 (by omega); rw [show (p3.toInt * 64 + p5.toInt + j).toNat = (p3.toInt * 64 + x61.toInt).toNat by omega, ← g73]; omega)) (show zq_G (zx_fl σ0 p3.toInt p4.toInt p5.toInt) (zx_cl σ0 p3.toInt p5.toInt) (zq_cn (σ0.1 1 0).toInt (p1.toInt * 64 + p2.toInt).toNat (zx_cl σ0 p3.toInt p5.toInt) (zx_A σ0)) (σ0.1 1 1).toInt x88.toInt.toNat by exact zq_G1 hG9 (by omega) (by rcases hfl with ⟨_, b⟩ | ⟨a, _⟩; exact b; (exfalso; omega)) (by rw [← hcl]; omega) (by rw [← hc9]; omega)) (show (¬ r62.toInt = 0 → (zx_fl σ0 p3.toInt p4.toInt p5.toInt) x88.toInt.toNat) by intro h9; exfalso; omega) (show x83.toInt = (zq_cn (σ0.1 1 0).toInt (p1.toInt * 64 + p2.toInt).toNat (zx_cl σ0 p3.toInt p5.toInt) (zx_A σ0)) x88.toInt.toNat by rw [show x88.toInt.toNat = y8_41.toInt.toNat + 1 by omega]; exact hc9) (by omega))
              refine zr_bipush hB dX8_read_181 rfl (fun c90 ec90 => ?_)
              exact zr_iret hG dX8_read_183 ⟨hO0, hA0, (Or.inr ⟨by omega, ⟨y8_41.toInt.toNat, by omega, hG9, Or.inr ⟨by omega, (by rcases hfl with ⟨_, b⟩ | ⟨a, _⟩; exact b; (exfalso; omega)), Or.inr (by rw [← hc9]; omega), rfl⟩⟩⟩)⟩
            refine zr_iconst hB dX8_read_157 rfl (fun c91 ec91 => ?_)
            refine zr_goto hB dX8_read_158 (tgt := 162) rfl ?_
            refine zr_iadd hB dX8_read_162 (by omega) (by omega) (fun x92 ex92 => ?_)
            refine zr_istore hB dX8_read_163 (by decide) (lv' := [(9, .int x92), (11, .int r70), (7, .int r62), (0, .ref (zk K 0)), (1, .int p1), (2, .int p2), (3, .int p3), (4, .int p4), (5, .int p5), (6, .int p6), (8, .int y8_41), (10, .int y10_43)]) rfl ?_
            have hc9 : x92.toInt = (zq_cn (σ0.1 1 0).toInt (p1.toInt * 64 + p2.toInt).toNat (zx_cl σ0 p3.toInt p5.toInt) (zx_A σ0)) (y8_41.toInt.toNat + 1) := by rcases hk9 with ⟨a, b⟩ | ⟨a, b⟩; (rw [zq_cnk b]; omega); (rw [zq_cnt b]; omega)
            refine zr_aload_n hB 3 dX8_read_165 rfl ?_
            refine zr_getr hG 0 0 dX8_read_166 rfl wf_X8_15 rfl ?_
            refine zr_geti' hG 1 1 (σ0.1 1 1) dX8_read_169 rfl wf_X8_73 rfl rfl ?_
            have b93 : 0 ≤ (σ0.1 1 1).toInt ∧ (σ0.1 1 1).toInt ≤ 200 := ⟨(hO0 1 1).1, (hO0 1 1).2.1⟩
            refine zr_iload hB 0 dX8_read_172 rfl ?_
            refine zr_iadd hB dX8_read_174 (by omega) (by omega) (fun x94 ex94 => ?_)
            refine zr_sipush hB dX8_read_175 rfl (fun c95 ec95 => ?_)
            refine zr_icmp_le hB dX8_read_178 (tgt := 184) rfl (fun c96 => ?_) (fun c96 => ?_)
            · refine zr_iinc hB 10 dX8_read_184 rfl (by decide) rfl (by omega) (by omega) (fun x97 ex97 lv' hlv => ?_)
              obtain rfl : [(8, .int x97), (9, .int x92), (11, .int r70), (7, .int r62), (0, .ref (zk K 0)), (1, .int p1), (2, .int p2), (3, .int p3), (4, .int p4), (5, .int p5), (6, .int p6), (10, .int y10_43)] = lv' := hlv
              refine zr_iinc hB 11 dX8_read_187 rfl (by decide) rfl (by omega) (by omega) (fun x98 ex98 lv' hlv => ?_)
              obtain rfl : [(10, .int x98), (8, .int x97), (9, .int x92), (11, .int r70), (7, .int r62), (0, .ref (zk K 0)), (1, .int p1), (2, .int p2), (3, .int p3), (4, .int p4), (5, .int p5), (6, .int p6)] = lv' := hlv
              refine zr_goto hB dX8_read_190 (tgt := 78) rfl ?_
              exact zc_sub [5, 6, 7, 8, 9, 10, 11, 4, 1, 2, 0] rfl (ih78 r62 x97 x92 x98 (by omega) (by omega) (by omega) (by omega) (by omega) (by omega) (by omega) (by omega) (show x97.toInt ≤ x98.toInt by omega) (show x98.toInt ≤ p6.toInt by omega) (show (¬ r62.toInt = 0 ∨ x97.toInt = x98.toInt) by omega) (show (x97.toInt = 0 ∨ (0 ≤ p5.toInt ∧ p5.toInt + x97.toInt ≤ 64)) by omega) (show ∀ j : Int, 0 ≤ j → j < x97.toInt → (σ0.1 39 (p3.toInt * 64 + p5.toInt + j).toNat).toInt ≤ 999 by intro j h1 h2; first | (exfalso; omega) | exact hqr j h1 (by omega) | exact (show (σ0.1 39 (p3.toInt * 64 + p5.toInt + j).toNat).toInt ≤ 999 by by_cases hj : j < y10_43.toInt; exact hqr j h1 (by omega); rw [show (p3.toInt * 64 + p5.toInt + j).toNat = (p3.toInt * 64 + x61.toInt).toNat by omega, ← g73]; omega)) (show zq_G (zx_fl σ0 p3.toInt p4.toInt p5.toInt) (zx_cl σ0 p3.toInt p5.toInt) (zq_cn (σ0.1 1 0).toInt (p1.toInt * 64 + p2.toInt).toNat (zx_cl σ0 p3.toInt p5.toInt) (zx_A σ0)) (σ0.1 1 1).toInt x97.toInt.toNat by exact zq_G1 hG9 (by omega) (by rcases hfl with ⟨_, b⟩ | ⟨a, _⟩; exact b; (exfalso; omega)) (by rw [← hcl]; omega) (by rw [← hc9]; omega)) (show (¬ r62.toInt = 0 → (zx_fl σ0 p3.toInt p4.toInt p5.toInt) x97.toInt.toNat) by intro h9; exfalso; omega) (show x92.toInt = (zq_cn (σ0.1 1 0).toInt (p1.toInt * 64 + p2.toInt).toNat (zx_cl σ0 p3.toInt p5.toInt) (zx_A σ0)) x97.toInt.toNat by rw [show x97.toInt.toNat = y8_41.toInt.toNat + 1 by omega]; exact hc9) (by omega))
            refine zr_bipush hB dX8_read_181 rfl (fun c99 ec99 => ?_)
            exact zr_iret hG dX8_read_183 ⟨hO0, hA0, (Or.inr ⟨by omega, ⟨y8_41.toInt.toNat, by omega, hG9, Or.inr ⟨by omega, (by rcases hfl with ⟨_, b⟩ | ⟨a, _⟩; exact b; (exfalso; omega)), Or.inr (by rw [← hc9]; omega), rfl⟩⟩⟩)⟩
          refine zr_bipush hB dX8_read_135 rfl (fun c100 ec100 => ?_)
          refine zr_iload hB 11 dX8_read_137 rfl ?_
          refine zr_isub hB dX8_read_139 (by omega) (by omega) (fun x101 ex101 => ?_)
          exact zr_iret hG dX8_read_140 ⟨hO0, hA0, (Or.inr ⟨by omega, ⟨y8_41.toInt.toNat, by omega, hG9, Or.inr ⟨by omega, (by rcases hfl with ⟨_, b⟩ | ⟨a, _⟩; exact b; (exfalso; omega)), Or.inl (by rw [← hcl]; omega), rfl⟩⟩⟩)⟩
      exact zc_sub [4, 5, 6, 7, 8, 9, 10, 3, 2, 1, 0] rfl (L78_48 66 c36 c37 c38 c39 (by omega) (by omega) (by omega) (by omega) (by omega) (by omega) (by omega) (by omega) (show c37.toInt ≤ c39.toInt by omega) (show c39.toInt ≤ p6.toInt by omega) (show (¬ c36.toInt = 0 ∨ c37.toInt = c39.toInt) by omega) (show (c37.toInt = 0 ∨ (0 ≤ p5.toInt ∧ p5.toInt + c37.toInt ≤ 64)) by omega) (show ∀ j : Int, 0 ≤ j → j < c37.toInt → (σ0.1 39 (p3.toInt * 64 + p5.toInt + j).toNat).toInt ≤ 999 by intro j h1 h2; first | (exfalso; omega) | exact hqr j h1 (by omega) | exact (show (σ0.1 39 (p3.toInt * 64 + p5.toInt + j).toNat).toInt ≤ 999 by by_cases hj : j < y10_43.toInt; exact hqr j h1 (by omega); rw [show (p3.toInt * 64 + p5.toInt + j).toNat = (p3.toInt * 64 + x61.toInt).toNat by omega, ← g73]; omega)) (show zq_G (zx_fl σ0 p3.toInt p4.toInt p5.toInt) (zx_cl σ0 p3.toInt p5.toInt) (zq_cn (σ0.1 1 0).toInt (p1.toInt * 64 + p2.toInt).toNat (zx_cl σ0 p3.toInt p5.toInt) (zx_A σ0)) (σ0.1 1 1).toInt c37.toInt.toNat by exact zq_Gz (by omega)) (show (¬ c36.toInt = 0 → (zx_fl σ0 p3.toInt p4.toInt p5.toInt) c37.toInt.toNat) by intro h9; exfalso; omega) (show c38.toInt = (zq_cn (σ0.1 1 0).toInt (p1.toInt * 64 + p2.toInt).toNat (zx_cl σ0 p3.toInt p5.toInt) (zx_A σ0)) c37.toInt.toNat by show _ = zq_cn _ _ _ _ _; rw [show c37.toInt.toNat = 0 by omega]; show _ = (0 : Int); omega) (by omega))
    refine zr_if_le hB dX8_read_45 (tgt := 66) rfl (fun c102 => ?_) (fun c102 => ?_)
    · exact L66_35 (show (p6.toInt ≤ 0 ∨ p2.toInt + p6.toInt ≤ 64) by omega) (show (p6.toInt ≤ 0 ∨ p2.toInt + p6.toInt - 1 ≤ (σ0.1 1 0).toInt) by omega)
    refine zr_iload_n hB 2 dX8_read_48 rfl ?_
    refine zr_iload hB 6 dX8_read_49 rfl ?_
    refine zr_iadd hB dX8_read_51 (by omega) (by omega) (fun x103 ex103 => ?_)
    refine zr_iconst hB dX8_read_52 rfl (fun c104 ec104 => ?_)
    refine zr_isub hB dX8_read_53 (by omega) (by omega) (fun x105 ex105 => ?_)
    refine zr_aload_n hB 0 dX8_read_54 rfl ?_
    refine zr_getr hG 0 0 dX8_read_55 rfl wf_X8_15 rfl ?_
    refine zr_geti' hG 1 0 (σ0.1 1 0) dX8_read_58 rfl wf_X8_66 rfl rfl ?_
    have b106 : 0 ≤ (σ0.1 1 0).toInt ∧ (σ0.1 1 0).toInt ≤ 63 := ⟨(hO0 1 0).1, (hO0 1 0).2.1⟩
    refine zr_icmp_le hB dX8_read_61 (tgt := 66) rfl (fun c107 => ?_) (fun c107 => ?_)
    · exact L66_35 (show (p6.toInt ≤ 0 ∨ p2.toInt + p6.toInt ≤ 64) by omega) (show (p6.toInt ≤ 0 ∨ p2.toInt + p6.toInt - 1 ≤ (σ0.1 1 0).toInt) by omega)
    refine zr_iconst hB dX8_read_64 rfl (fun c108 ec108 => ?_)
    exact zr_iret hG dX8_read_65 ⟨hO0, hA0, (Or.inl ⟨by omega, rfl⟩)⟩
  refine zr_iconst hB dX8_read_41 rfl (fun c109 ec109 => ?_)
  exact zr_iret hG dX8_read_42 ⟨hO0, hA0, (Or.inl ⟨by omega, rfl⟩)⟩

set_option maxHeartbeats 1000000 in
set_option maxRecDepth 100000 in
theorem c_X8_torn_0 (K : zc_K) (hi : zc_inj shX K.2.2.2.1) (σ0 : zc_S)  (hO0 : zc_O okX σ0)  : zc_M shX K yX8_torn cX8_torn 1 (some .int) (zrm 0 0) σ0 [.ref (zk K 0)] (zc_I (fun r9 σ9 => σ0 = σ9 ∧ 0 ≤ r9.toInt ∧ r9.toInt ≤ 3)) := by
  refine zc_start RX8 hi pfX8_torn rfl (Nat.le_of_ble_eq_true rfl) ?_
  intro G hG
  have hB := hG.1
  show zc_V 1 K G (zc_D shX K G σ0) [(0, .ref (zk K 0))] 0 []
  refine zr_aload_n hB 0 dX8_torn_0 rfl ?_
  refine zr_getr hG 0 6 dX8_torn_1 rfl wf_X8_58 rfl ?_
  refine zr_geti' hG 7 3 (σ0.1 7 3) dX8_torn_4 rfl wf_X8_305 rfl rfl ?_
  have b1 : 0 ≤ (σ0.1 7 3).toInt ∧ (σ0.1 7 3).toInt ≤ 3 := ⟨(hO0 7 3).1, (hO0 7 3).2.1⟩
  exact zr_iret hG dX8_torn_7 ⟨rfl, by omega, by omega⟩

set_option maxHeartbeats 1000000 in
set_option maxRecDepth 100000 in
theorem c_X8_count_0 (K : zc_K) (hi : zc_inj shX K.2.2.2.1) (σ0 : zc_S) (p1 : Int32) (hO0 : zc_O okX σ0)  : zc_M shX K yX8_count cX8_count 2 (some .int) (zrm 3 68) σ0 [.ref (zk K 0), .int p1] (zc_I (fun r9 σ9 => σ0 = σ9 ∧ ((p1.toInt = 0 ∧ r9.toInt = (σ0.1 1 0).toInt) ∨ (p1.toInt = 1 ∧ r9.toInt = (σ0.1 1 1).toInt) ∨ (p1.toInt = 2 ∧ r9.toInt = zp_ct (zp_mk 15 σ0) 64) ∨ (p1.toInt = 3 ∧ r9.toInt = zp_ct (zp_mk 16 σ0) 64) ∨ (p1.toInt = 4 ∧ r9.toInt = (σ0.1 3 0).toInt) ∨ (p1.toInt = 5 ∧ r9.toInt = (σ0.1 6 0).toInt) ∨ (p1.toInt = 6 ∧ r9.toInt = zp_g (zp_u (zx_A σ0) (σ0.1 1 0).toInt) ((σ0.1 1 0).toInt + 1).toNat 4) ∨ (p1.toInt = 7 ∧ r9.toInt = (σ0.1 2 1).toInt) ∨ (p1.toInt = 8 ∧ (σ0.1 37 0).toInt < 0 ∧ r9.toInt = -4) ∨ (p1.toInt = 8 ∧ ¬ (σ0.1 37 0).toInt < 0 ∧ r9.toInt = (σ0.1 38 0).toInt) ∨ ((p1.toInt < 0 ∨ 8 < p1.toInt) ∧ r9.toInt = -1)))) := by
  refine zc_start RX8 hi pfX8_count rfl (Nat.le_of_ble_eq_true rfl) ?_
  intro G hG
  have hB := hG.1
  show zc_V 2 K G (zc_D shX K G σ0) [(0, .ref (zk K 0)), (1, .int p1)] 0 []
  have bw1_0 : 0 ≤ (σ0.1 1 0).toInt ∧ (σ0.1 1 0).toInt ≤ 63 := ⟨(hO0 1 0).1, (hO0 1 0).2.1⟩
  have bw1_1 : 0 ≤ (σ0.1 1 1).toInt ∧ (σ0.1 1 1).toInt ≤ 200 := ⟨(hO0 1 1).1, (hO0 1 1).2.1⟩
  have bw3_0 : 0 ≤ (σ0.1 3 0).toInt ∧ (σ0.1 3 0).toInt ≤ 6 := ⟨(hO0 3 0).1, (hO0 3 0).2.1⟩
  have bw6_0 : 0 ≤ (σ0.1 6 0).toInt ∧ (σ0.1 6 0).toInt ≤ 24 := ⟨(hO0 6 0).1, (hO0 6 0).2.1⟩
  have bw2_1 : 0 ≤ (σ0.1 2 1).toInt ∧ (σ0.1 2 1).toInt ≤ 120 := ⟨(hO0 2 1).1, (hO0 2 1).2.1⟩
  refine zr_iload_n hB 1 dX8_count_0 rfl ?_
  by_cases c1 : p1.toInt = 0
  · refine zr_tabIn hB 0 dX8_count_1 (by omega) (by omega) (off := 51) rfl (tgt := 52) rfl ?_
    refine zr_aload_n hB 0 dX8_count_52 rfl ?_
    refine zr_getr hG 0 0 dX8_count_53 rfl wf_X8_15 rfl ?_
    refine zr_geti' hG 1 0 (σ0.1 1 0) dX8_count_56 rfl wf_X8_66 rfl rfl ?_
    exact zr_iret hG dX8_count_59 ⟨rfl, (by exact Or.inl ⟨by omega, by omega⟩)⟩
  by_cases c2 : p1.toInt = 1
  · refine zr_tabIn hB 1 dX8_count_1 (by omega) (by omega) (off := 59) rfl (tgt := 60) rfl ?_
    refine zr_aload_n hB 0 dX8_count_60 rfl ?_
    refine zr_getr hG 0 0 dX8_count_61 rfl wf_X8_15 rfl ?_
    refine zr_geti' hG 1 1 (σ0.1 1 1) dX8_count_64 rfl wf_X8_73 rfl rfl ?_
    exact zr_iret hG dX8_count_67 ⟨rfl, (by exact Or.inr (Or.inl ⟨by omega, by omega⟩))⟩
  by_cases c3 : p1.toInt = 2
  · refine zr_tabIn hB 2 dX8_count_1 (by omega) (by omega) (off := 67) rfl (tgt := 68) rfl ?_
    refine zr_aload_n hB 0 dX8_count_68 rfl ?_
    refine zr_getr hG 0 0 dX8_count_69 rfl wf_X8_15 rfl ?_
    refine zr_getr hG 1 6 dX8_count_72 rfl wf_X8_84 rfl ?_
    refine zr_callsi hG (rest := []) dX8_count_75 wm_X8_308 (c_X8_marked_15 K hG.2.2.2.2.2.1 σ0  hO0 ) rfl rfl (Nat.le_of_ble_eq_true rfl) ⟨Nat.le_of_ble_eq_true rfl, Nat.le_of_ble_eq_true rfl, rfl, rfl⟩ (fun r4 σ5 h6 => ?_)
    obtain ⟨rfl, g7⟩ := h6
    exact zr_iret hG dX8_count_78 ⟨rfl, (by exact Or.inr (Or.inr (Or.inl ⟨by omega, by omega⟩)))⟩
  by_cases c8 : p1.toInt = 3
  · refine zr_tabIn hB 3 dX8_count_1 (by omega) (by omega) (off := 78) rfl (tgt := 79) rfl ?_
    refine zr_aload_n hB 0 dX8_count_79 rfl ?_
    refine zr_getr hG 0 0 dX8_count_80 rfl wf_X8_15 rfl ?_
    refine zr_getr hG 1 7 dX8_count_83 rfl wf_X8_88 rfl ?_
    refine zr_callsi hG (rest := []) dX8_count_86 wm_X8_308 (c_X8_marked_16 K hG.2.2.2.2.2.1 σ0  hO0 ) rfl rfl (Nat.le_of_ble_eq_true rfl) ⟨Nat.le_of_ble_eq_true rfl, Nat.le_of_ble_eq_true rfl, rfl, rfl⟩ (fun r9 σ10 h11 => ?_)
    obtain ⟨rfl, g12⟩ := h11
    exact zr_iret hG dX8_count_89 ⟨rfl, (by exact Or.inr (Or.inr (Or.inr (Or.inl ⟨by omega, by omega⟩))))⟩
  by_cases c13 : p1.toInt = 4
  · refine zr_tabIn hB 4 dX8_count_1 (by omega) (by omega) (off := 89) rfl (tgt := 90) rfl ?_
    refine zr_aload_n hB 0 dX8_count_90 rfl ?_
    refine zr_getr hG 0 2 dX8_count_91 rfl wf_X8_26 rfl ?_
    refine zr_geti' hG 3 0 (σ0.1 3 0) dX8_count_94 rfl wf_X8_114 rfl rfl ?_
    exact zr_iret hG dX8_count_97 ⟨rfl, (by exact Or.inr (Or.inr (Or.inr (Or.inr (Or.inl ⟨by omega, by omega⟩)))))⟩
  by_cases c14 : p1.toInt = 5
  · refine zr_tabIn hB 5 dX8_count_1 (by omega) (by omega) (off := 97) rfl (tgt := 98) rfl ?_
    refine zr_aload_n hB 0 dX8_count_98 rfl ?_
    refine zr_getr hG 0 5 dX8_count_99 rfl wf_X8_51 rfl ?_
    refine zr_geti' hG 6 0 (σ0.1 6 0) dX8_count_102 rfl wf_X8_246 rfl rfl ?_
    exact zr_iret hG dX8_count_105 ⟨rfl, (by exact Or.inr (Or.inr (Or.inr (Or.inr (Or.inr (Or.inl ⟨by omega, by omega⟩))))))⟩
  by_cases c15 : p1.toInt = 6
  · refine zr_tabIn hB 6 dX8_count_1 (by omega) (by omega) (off := 105) rfl (tgt := 106) rfl ?_
    refine zr_aload_n hB 0 dX8_count_106 rfl ?_
    refine zr_getr hG 0 0 dX8_count_107 rfl wf_X8_15 rfl ?_
    refine zr_callvi hG (rest := []) 1 dX8_count_110 wm_X8_312 rfl rfl (c_X4_gaps_1 K hG.2.2.2.2.2.1 σ0  hO0 ) rfl rfl (Nat.le_of_ble_eq_true rfl) ⟨Nat.le_of_ble_eq_true rfl, Nat.le_of_ble_eq_true rfl, rfl, rfl⟩ (fun r16 σ17 h18 => ?_)
    obtain ⟨rfl, g19⟩ := h18
    exact zr_iret hG dX8_count_113 ⟨rfl, (by exact Or.inr (Or.inr (Or.inr (Or.inr (Or.inr (Or.inr (Or.inl ⟨by omega, by omega⟩)))))))⟩
  by_cases c20 : p1.toInt = 7
  · refine zr_tabIn hB 7 dX8_count_1 (by omega) (by omega) (off := 113) rfl (tgt := 114) rfl ?_
    refine zr_aload_n hB 0 dX8_count_114 rfl ?_
    refine zr_getr hG 0 1 dX8_count_115 rfl wf_X8_22 rfl ?_
    refine zr_geti' hG 2 1 (σ0.1 2 1) dX8_count_118 rfl wf_X8_95 rfl rfl ?_
    exact zr_iret hG dX8_count_121 ⟨rfl, (by exact Or.inr (Or.inr (Or.inr (Or.inr (Or.inr (Or.inr (Or.inr (Or.inl ⟨by omega, by omega⟩))))))))⟩
  by_cases c21 : p1.toInt = 8
  · refine zr_tabIn hB 8 dX8_count_1 (by omega) (by omega) (off := 121) rfl (tgt := 122) rfl ?_
    refine zr_aload_n hB 0 dX8_count_122 rfl ?_
    refine zr_getr hG 0 6 dX8_count_123 rfl wf_X8_58 rfl ?_
    refine zr_getr hG 7 0 dX8_count_126 rfl wf_X8_287 rfl ?_
    refine zr_iconst hB dX8_count_129 rfl (fun c22 ec22 => ?_)
    refine zr_iald hG 37 dX8_count_130 rfl (by omega) (by omega) (fun x23 ex23 => ?_)
    have bx23 : (-1) ≤ x23.toInt ∧ x23.toInt ≤ 2 := by rw [ex23]; exact ⟨(hO0 37 _).1, (hO0 37 _).2.1⟩
    refine zr_if_ge hB dX8_count_131 (tgt := 139) rfl (fun c24 => ?_) (fun c24 => ?_)
    · refine zr_aload_n hB 0 dX8_count_139 rfl ?_
      refine zr_getr hG 0 6 dX8_count_140 rfl wf_X8_58 rfl ?_
      refine zr_getr hG 7 1 dX8_count_143 rfl wf_X8_315 rfl ?_
      refine zr_iconst hB dX8_count_146 rfl (fun c25 ec25 => ?_)
      refine zr_iald hG 38 dX8_count_147 rfl (by omega) (by omega) (fun x26 ex26 => ?_)
      have bx26 : 0 ≤ x26.toInt ∧ x26.toInt ≤ 64 := by rw [ex26]; exact ⟨(hO0 38 _).1, (hO0 38 _).2.1⟩
      exact zr_iret hG dX8_count_148 ⟨rfl, (by have hqx23 : x23.toInt = (σ0.1 37 0).toInt := (by rw [ex23, show c22.toInt.toNat = 0 by omega]); have hqx26 : x26.toInt = (σ0.1 38 0).toInt := (by rw [ex26, show c25.toInt.toNat = 0 by omega]); first | exact Or.inr (Or.inr (Or.inr (Or.inr (Or.inr (Or.inr (Or.inr (Or.inr (Or.inl ⟨by omega, by omega, by omega⟩)))))))) | exact Or.inr (Or.inr (Or.inr (Or.inr (Or.inr (Or.inr (Or.inr (Or.inr (Or.inr (Or.inl ⟨by omega, by omega, by omega⟩))))))))))⟩
    refine zr_bipush hB dX8_count_134 rfl (fun c27 ec27 => ?_)
    refine zr_goto hB dX8_count_136 (tgt := 148) rfl ?_
    exact zr_iret hG dX8_count_148 ⟨rfl, (by have hqx23 : x23.toInt = (σ0.1 37 0).toInt := (by rw [ex23, show c22.toInt.toNat = 0 by omega]); first | exact Or.inr (Or.inr (Or.inr (Or.inr (Or.inr (Or.inr (Or.inr (Or.inr (Or.inl ⟨by omega, by omega, by omega⟩)))))))) | exact Or.inr (Or.inr (Or.inr (Or.inr (Or.inr (Or.inr (Or.inr (Or.inr (Or.inr (Or.inl ⟨by omega, by omega, by omega⟩))))))))))⟩
  refine zr_tabOut hB dX8_count_1 (by omega) (tgt := 149) rfl ?_
  refine zr_iconst hB dX8_count_149 rfl (fun c28 ec28 => ?_)
  exact zr_iret hG dX8_count_150 ⟨rfl, (by exact Or.inr (Or.inr (Or.inr (Or.inr (Or.inr (Or.inr (Or.inr (Or.inr (Or.inr (Or.inr (⟨by omega, by omega⟩)))))))))))⟩
