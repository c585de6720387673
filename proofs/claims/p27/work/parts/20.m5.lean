set_option maxHeartbeats 1000000 in
set_option maxRecDepth 100000 in
theorem c_M_torn (K : zc_K) (hi : zc_inj shM K.2.2.2.1) (σ0 : zc_S)  (hO0 : zc_O okM σ0)  : zc_M shM K yX9_torn cX9_torn 1 (some .int) (zrm 0 0) σ0 [.ref (zk K 0)] (zc_I (fun r9 σ9 => σ0 = σ9 ∧ 0 ≤ r9.toInt ∧ r9.toInt ≤ 3)) := by
  refine zc_start RX9 hi pfX9_torn rfl (Nat.le_of_ble_eq_true rfl) ?_
  intro G hG
  have hB := hG.1
  show zc_V 1 K G (zc_D shM K G σ0) [(0, .ref (zk K 0))] 0 []
  refine zr_aload_n hB 0 dX9_torn_0 rfl ?_
  refine zr_geti' hG 0 39 (σ0.1 0 39) dX9_torn_1 rfl wf_X9_282 rfl rfl ?_
  have b1 : 0 ≤ (σ0.1 0 39).toInt ∧ (σ0.1 0 39).toInt ≤ 3 := ⟨(hO0 0 39).1, (hO0 0 39).2.1⟩
  exact zr_iret hG dX9_torn_4 ⟨rfl, by omega, by omega⟩

set_option maxHeartbeats 1000000 in
set_option maxRecDepth 100000 in
theorem c_M_count (K : zc_K) (hi : zc_inj shM K.2.2.2.1) (σ0 : zc_S) (p1 : Int32) (hO0 : zc_O okM σ0)  : zc_M shM K yX9_count cX9_count 7 (some .int) (zrm 3 68) σ0 [.ref (zk K 0), .int p1] (zc_I (fun r9 σ9 => σ0 = σ9)) := by
  refine zc_start RX9 hi pfX9_count rfl (Nat.le_of_ble_eq_true rfl) ?_
  intro G hG
  have hB := hG.1
  show zc_V 7 K G (zc_D shM K G σ0) [(0, .ref (zk K 0)), (1, .int p1)] 0 []
  refine zr_iconst hB dX9_count_0 rfl (fun c1 ec1 => ?_)
  refine zr_istore_n hB dX9_count_1 rfl (by decide) (lv' := [(2, .int c1), (0, .ref (zk K 0)), (1, .int p1)]) rfl ?_
  refine zr_iconst hB dX9_count_2 rfl (fun c2 ec2 => ?_)
  refine zr_istore_n hB dX9_count_3 rfl (by decide) (lv' := [(3, .int c2), (2, .int c1), (0, .ref (zk K 0)), (1, .int p1)]) rfl ?_
  refine zr_iconst hB dX9_count_4 rfl (fun c3 ec3 => ?_)
  refine zr_istore hB dX9_count_5 (by decide) (lv' := [(4, .int c3), (3, .int c2), (2, .int c1), (0, .ref (zk K 0)), (1, .int p1)]) rfl ?_
  refine zr_iconst hB dX9_count_7 rfl (fun c4 ec4 => ?_)
  refine zr_istore hB dX9_count_8 (by decide) (lv' := [(5, .int c4), (4, .int c3), (3, .int c2), (2, .int c1), (0, .ref (zk K 0)), (1, .int p1)]) rfl ?_
  have L10_9 : ∀ (n10 : Nat) (y2_5 : Int32) (y3_6 : Int32) (y4_7 : Int32) (y5_8 : Int32), 0 ≤ y5_8.toInt → y5_8.toInt ≤ 64 → 64 - y5_8.toInt < (n10 : Int) → zc_V 7 K G (zc_D shM K G σ0) [(0, .ref (zk K 0)), (1, .int p1), (2, .int y2_5), (3, .int y3_6), (4, .int y4_7), (5, .int y5_8)] 10 [] := by
    intro n10
    induction n10 with
    | zero => intro y2_5 y3_6 y4_7 y5_8 y5_8a y5_8b hn10; have vy2_5 := And.intro (zn_lo y2_5) (zn_hi y2_5); have vy3_6 := And.intro (zn_lo y3_6) (zn_hi y3_6); have vy4_7 := And.intro (zn_lo y4_7) (zn_hi y4_7); exfalso; omega
    | succ n10 ih10 =>
      intro y2_5 y3_6 y4_7 y5_8 y5_8a y5_8b hn10
      have vy2_5 := And.intro (zn_lo y2_5) (zn_hi y2_5)
      have vy3_6 := And.intro (zn_lo y3_6) (zn_hi y3_6)
      have vy4_7 := And.intro (zn_lo y4_7) (zn_hi y4_7)
      refine zr_iload hB 5 dX9_count_10 rfl ?_
      refine zr_bipush hB dX9_count_12 rfl (fun c10 ec10 => ?_)
      refine zr_icmp_ge hB dX9_count_14 (tgt := 108) rfl (fun c11 => ?_) (fun c11 => ?_)
      · refine zr_iload_n hB 1 dX9_count_108 rfl ?_
        by_cases c12 : p1.toInt = 0
        · refine zr_tabIn hB 0 dX9_count_109 (by omega) (by omega) (off := 51) rfl (tgt := 160) rfl ?_
          refine zr_aload_n hB 0 dX9_count_160 rfl ?_
          refine zr_geti' hG 0 1 (σ0.1 0 1) dX9_count_161 rfl wf_X9_101 rfl rfl ?_
          have b13 : 0 ≤ (σ0.1 0 1).toInt ∧ (σ0.1 0 1).toInt ≤ 63 := ⟨(hO0 0 1).1, (hO0 0 1).2.1⟩
          exact zr_iret hG dX9_count_164 rfl
        by_cases c14 : p1.toInt = 1
        · refine zr_tabIn hB 1 dX9_count_109 (by omega) (by omega) (off := 56) rfl (tgt := 165) rfl ?_
          refine zr_aload_n hB 0 dX9_count_165 rfl ?_
          refine zr_geti' hG 0 2 (σ0.1 0 2) dX9_count_166 rfl wf_X9_105 rfl rfl ?_
          have b15 : 0 ≤ (σ0.1 0 2).toInt ∧ (σ0.1 0 2).toInt ≤ 200 := ⟨(hO0 0 2).1, (hO0 0 2).2.1⟩
          exact zr_iret hG dX9_count_169 rfl
        by_cases c16 : p1.toInt = 2
        · refine zr_tabIn hB 2 dX9_count_109 (by omega) (by omega) (off := 61) rfl (tgt := 170) rfl ?_
          refine zr_iload_n hB 2 dX9_count_170 rfl ?_
          exact zr_iret hG dX9_count_171 rfl
        by_cases c17 : p1.toInt = 3
        · refine zr_tabIn hB 3 dX9_count_109 (by omega) (by omega) (off := 63) rfl (tgt := 172) rfl ?_
          refine zr_iload_n hB 3 dX9_count_172 rfl ?_
          exact zr_iret hG dX9_count_173 rfl
        by_cases c18 : p1.toInt = 4
        · refine zr_tabIn hB 4 dX9_count_109 (by omega) (by omega) (off := 65) rfl (tgt := 174) rfl ?_
          refine zr_aload_n hB 0 dX9_count_174 rfl ?_
          refine zr_geti' hG 0 17 (σ0.1 0 17) dX9_count_175 rfl wf_X9_181 rfl rfl ?_
          have b19 : 0 ≤ (σ0.1 0 17).toInt ∧ (σ0.1 0 17).toInt ≤ 6 := ⟨(hO0 0 17).1, (hO0 0 17).2.1⟩
          exact zr_iret hG dX9_count_178 rfl
        by_cases c20 : p1.toInt = 5
        · refine zr_tabIn hB 5 dX9_count_109 (by omega) (by omega) (off := 70) rfl (tgt := 179) rfl ?_
          refine zr_aload_n hB 0 dX9_count_179 rfl ?_
          refine zr_geti' hG 0 28 (σ0.1 0 28) dX9_count_180 rfl wf_X9_271 rfl rfl ?_
          have b21 : 0 ≤ (σ0.1 0 28).toInt ∧ (σ0.1 0 28).toInt ≤ 24 := ⟨(hO0 0 28).1, (hO0 0 28).2.1⟩
          exact zr_iret hG dX9_count_183 rfl
        by_cases c22 : p1.toInt = 6
        · refine zr_tabIn hB 6 dX9_count_109 (by omega) (by omega) (off := 75) rfl (tgt := 184) rfl ?_
          refine zr_iload hB 4 dX9_count_184 rfl ?_
          exact zr_iret hG dX9_count_186 rfl
        by_cases c23 : p1.toInt = 7
        · refine zr_tabIn hB 7 dX9_count_109 (by omega) (by omega) (off := 78) rfl (tgt := 187) rfl ?_
          refine zr_aload_n hB 0 dX9_count_187 rfl ?_
          refine zr_geti' hG 0 6 (σ0.1 0 6) dX9_count_188 rfl wf_X9_125 rfl rfl ?_
          have b24 : 0 ≤ (σ0.1 0 6).toInt ∧ (σ0.1 0 6).toInt ≤ 120 := ⟨(hO0 0 6).1, (hO0 0 6).2.1⟩
          exact zr_iret hG dX9_count_191 rfl
        by_cases c25 : p1.toInt = 8
        · refine zr_tabIn hB 8 dX9_count_109 (by omega) (by omega) (off := 83) rfl (tgt := 192) rfl ?_
          refine zr_aload_n hB 0 dX9_count_192 rfl ?_
          refine zr_getr hG 0 36 dX9_count_193 rfl wf_X9_80 rfl ?_
          refine zr_iconst hB dX9_count_196 rfl (fun c26 ec26 => ?_)
          refine zr_iald hG 24 dX9_count_197 rfl (by omega) (by omega) (fun x27 ex27 => ?_)
          have bx27 : (-4) ≤ x27.toInt ∧ x27.toInt ≤ 2 := by rw [ex27]; exact ⟨(hO0 24 _).1, (hO0 24 _).2.1⟩
          refine zr_bipush hB dX9_count_198 rfl (fun c28 ec28 => ?_)
          refine zr_icmp_ne hB dX9_count_200 (tgt := 208) rfl (fun c29 => ?_) (fun c29 => ?_)
          · refine zr_aload_n hB 0 dX9_count_208 rfl ?_
            refine zr_getr hG 0 37 dX9_count_209 rfl wf_X9_83 rfl ?_
            refine zr_iconst hB dX9_count_212 rfl (fun c30 ec30 => ?_)
            refine zr_iald hG 25 dX9_count_213 rfl (by omega) (by omega) (fun x31 ex31 => ?_)
            have bx31 : 0 ≤ x31.toInt ∧ x31.toInt ≤ 64 := by rw [ex31]; exact ⟨(hO0 25 _).1, (hO0 25 _).2.1⟩
            exact zr_iret hG dX9_count_214 rfl
          refine zr_bipush hB dX9_count_203 rfl (fun c32 ec32 => ?_)
          refine zr_goto hB dX9_count_205 (tgt := 214) rfl ?_
          exact zr_iret hG dX9_count_214 rfl
        refine zr_tabOut hB dX9_count_109 (by omega) (tgt := 215) rfl ?_
        refine zr_iconst hB dX9_count_215 rfl (fun c33 ec33 => ?_)
        exact zr_iret hG dX9_count_216 rfl
      refine zr_iload_n hB 2 dX9_count_17 rfl ?_
      refine zr_aload_n hB 0 dX9_count_18 rfl ?_
      refine zr_getr hG 0 3 dX9_count_19 rfl wf_X9_13 rfl ?_
      refine zr_iload hB 5 dX9_count_22 rfl ?_
      refine zr_zald hG 2 dX9_count_24 rfl (by omega) (by omega) (fun x34 ex34 => ?_)
      have bx34 : 0 ≤ x34.toInt ∧ x34.toInt ≤ 1 := by rw [ex34]; exact ⟨(hO0 2 _).1, (hO0 2 _).2.1⟩
      refine zr_if_eq hB dX9_count_25 (tgt := 32) rfl (fun c35 => ?_) (fun c35 => ?_)
      · refine zr_iconst hB dX9_count_32 rfl (fun c36 ec36 => ?_)
        have v38 := And.intro (zn_lo y2_5) (zn_hi y2_5)
        refine zr_iadd hB dX9_count_33 (by omega) (by omega) (fun x37 ex37 => ?_)
        refine zr_istore_n hB dX9_count_34 rfl (by decide) (lv' := [(2, .int x37), (0, .ref (zk K 0)), (1, .int p1), (3, .int y3_6), (4, .int y4_7), (5, .int y5_8)]) rfl ?_
        refine zr_iload_n hB 3 dX9_count_35 rfl ?_
        refine zr_aload_n hB 1 dX9_count_36 rfl ?_
        refine zr_getr hG 0 4 dX9_count_37 rfl wf_X9_17 rfl ?_
        refine zr_iload hB 5 dX9_count_40 rfl ?_
        refine zr_zald hG 3 dX9_count_42 rfl (by omega) (by omega) (fun x39 ex39 => ?_)
        have bx39 : 0 ≤ x39.toInt ∧ x39.toInt ≤ 1 := by rw [ex39]; exact ⟨(hO0 3 _).1, (hO0 3 _).2.1⟩
        refine zr_if_eq hB dX9_count_43 (tgt := 50) rfl (fun c40 => ?_) (fun c40 => ?_)
        · refine zr_iconst hB dX9_count_50 rfl (fun c41 ec41 => ?_)
          have v43 := And.intro (zn_lo y3_6) (zn_hi y3_6)
          refine zr_iadd hB dX9_count_51 (by omega) (by omega) (fun x42 ex42 => ?_)
          refine zr_istore_n hB dX9_count_52 rfl (by decide) (lv' := [(3, .int x42), (2, .int x37), (0, .ref (zk K 0)), (1, .int p1), (4, .int y4_7), (5, .int y5_8)]) rfl ?_
          refine zr_iconst hB dX9_count_53 rfl (fun c44 ec44 => ?_)
          refine zr_istore hB dX9_count_54 (by decide) (lv' := [(6, .int c44), (3, .int x42), (2, .int x37), (0, .ref (zk K 0)), (1, .int p1), (4, .int y4_7), (5, .int y5_8)]) rfl ?_
          have L56_47 : ∀ (n56 : Nat) (y4_45 : Int32) (y6_46 : Int32), 0 ≤ y6_46.toInt → y6_46.toInt ≤ 4 → 4 - y6_46.toInt < (n56 : Int) → zc_V 7 K G (zc_D shM K G σ0) [(0, .ref (zk K 0)), (1, .int p1), (2, .int x37), (3, .int x42), (4, .int y4_45), (5, .int y5_8), (6, .int y6_46)] 56 [] := by
            intro n56
            induction n56 with
            | zero => intro y4_45 y6_46 y6_46a y6_46b hn56; have vy4_45 := And.intro (zn_lo y4_45) (zn_hi y4_45); exfalso; omega
            | succ n56 ih56 =>
              intro y4_45 y6_46 y6_46a y6_46b hn56
              have vy4_45 := And.intro (zn_lo y4_45) (zn_hi y4_45)
              refine zr_iload hB 6 dX9_count_56 rfl ?_
              refine zr_iconst hB dX9_count_58 rfl (fun c48 ec48 => ?_)
              refine zr_icmp_ge hB dX9_count_59 (tgt := 102) rfl (fun c49 => ?_) (fun c49 => ?_)
              · refine zr_iinc hB 5 dX9_count_102 rfl (by decide) rfl (by omega) (by omega) (fun x50 ex50 lv' hlv => ?_)
                obtain rfl : [(5, .int x50), (0, .ref (zk K 0)), (1, .int p1), (2, .int x37), (3, .int x42), (4, .int y4_45), (6, .int y6_46)] = lv' := hlv
                refine zr_goto hB dX9_count_105 (tgt := 10) rfl ?_
                exact zc_sub [1, 2, 3, 4, 5, 0] rfl (ih10 x37 x42 y4_45 x50 (by omega) (by omega) (by omega))
              refine zr_iload hB 4 dX9_count_62 rfl ?_
              refine zr_iload hB 5 dX9_count_64 rfl ?_
              refine zr_aload_n hB 0 dX9_count_66 rfl ?_
              refine zr_geti' hG 0 1 (σ0.1 0 1) dX9_count_67 rfl wf_X9_101 rfl rfl ?_
              have b51 : 0 ≤ (σ0.1 0 1).toInt ∧ (σ0.1 0 1).toInt ≤ 63 := ⟨(hO0 0 1).1, (hO0 0 1).2.1⟩
              refine zr_icmp_gt hB dX9_count_70 (tgt := 92) rfl (fun c52 => ?_) (fun c52 => ?_)
              · refine zr_iconst hB dX9_count_92 rfl (fun c53 ec53 => ?_)
                have v55 := And.intro (zn_lo y4_45) (zn_hi y4_45)
                refine zr_iadd hB dX9_count_93 (by omega) (by omega) (fun x54 ex54 => ?_)
                refine zr_istore hB dX9_count_94 (by decide) (lv' := [(4, .int x54), (0, .ref (zk K 0)), (1, .int p1), (2, .int x37), (3, .int x42), (5, .int y5_8), (6, .int y6_46)]) rfl ?_
                refine zr_iinc hB 6 dX9_count_96 rfl (by decide) rfl (by omega) (by omega) (fun x56 ex56 lv' hlv => ?_)
                obtain rfl : [(6, .int x56), (4, .int x54), (0, .ref (zk K 0)), (1, .int p1), (2, .int x37), (3, .int x42), (5, .int y5_8)] = lv' := hlv
                refine zr_goto hB dX9_count_99 (tgt := 56) rfl ?_
                exact zc_sub [2, 3, 4, 5, 1, 6, 0] rfl (ih56 x54 x56 (by omega) (by omega) (by omega))
              refine zr_aload_n hB 0 dX9_count_73 rfl ?_
              refine zr_iload hB 6 dX9_count_74 rfl ?_
              refine zr_iload hB 5 dX9_count_76 rfl ?_
              refine zr_aload_n hB 0 dX9_count_78 rfl ?_
              refine zr_geti' hG 0 1 (σ0.1 0 1) dX9_count_79 rfl wf_X9_101 rfl rfl ?_
              refine zr_callvi hG (rest := [.int y4_45]) 0 dX9_count_82 wm_X9_113 rfl rfl (c_M_knownOn K hG.2.2.2.2.2.1 σ0 y6_46 y5_8 (σ0.1 0 1) hO0 (by omega) (by omega) (by omega) (by omega)) rfl rfl (Nat.le_of_ble_eq_true rfl) ⟨Nat.le_of_ble_eq_true rfl, Nat.le_of_ble_eq_true rfl, rfl, rfl⟩ (fun r57 σ58 h59 => ?_)
              obtain ⟨rfl, r57a, r57b, g60⟩ := h59
              refine zr_if_ge hB dX9_count_85 (tgt := 92) rfl (fun c61 => ?_) (fun c61 => ?_)
              · refine zr_iconst hB dX9_count_92 rfl (fun c62 ec62 => ?_)
                have v64 := And.intro (zn_lo y4_45) (zn_hi y4_45)
                refine zr_iadd hB dX9_count_93 (by omega) (by omega) (fun x63 ex63 => ?_)
                refine zr_istore hB dX9_count_94 (by decide) (lv' := [(4, .int x63), (0, .ref (zk K 0)), (1, .int p1), (2, .int x37), (3, .int x42), (5, .int y5_8), (6, .int y6_46)]) rfl ?_
                refine zr_iinc hB 6 dX9_count_96 rfl (by decide) rfl (by omega) (by omega) (fun x65 ex65 lv' hlv => ?_)
                obtain rfl : [(6, .int x65), (4, .int x63), (0, .ref (zk K 0)), (1, .int p1), (2, .int x37), (3, .int x42), (5, .int y5_8)] = lv' := hlv
                refine zr_goto hB dX9_count_99 (tgt := 56) rfl ?_
                exact zc_sub [2, 3, 4, 5, 1, 6, 0] rfl (ih56 x63 x65 (by omega) (by omega) (by omega))
              refine zr_iconst hB dX9_count_88 rfl (fun c66 ec66 => ?_)
              refine zr_goto hB dX9_count_89 (tgt := 93) rfl ?_
              refine zr_iaddw hB dX9_count_93 (fun x67 ex67 => ?_)
              refine zr_istore hB dX9_count_94 (by decide) (lv' := [(4, .int x67), (0, .ref (zk K 0)), (1, .int p1), (2, .int x37), (3, .int x42), (5, .int y5_8), (6, .int y6_46)]) rfl ?_
              refine zr_iinc hB 6 dX9_count_96 rfl (by decide) rfl (by omega) (by omega) (fun x68 ex68 lv' hlv => ?_)
              obtain rfl : [(6, .int x68), (4, .int x67), (0, .ref (zk K 0)), (1, .int p1), (2, .int x37), (3, .int x42), (5, .int y5_8)] = lv' := hlv
              refine zr_goto hB dX9_count_99 (tgt := 56) rfl ?_
              exact zc_sub [2, 3, 4, 5, 1, 6, 0] rfl (ih56 x67 x68 (by omega) (by omega) (by omega))
          exact zc_sub [3, 4, 2, 1, 5, 6, 0] rfl (L56_47 6 y4_7 c44 (by omega) (by omega) (by omega))
        refine zr_iconst hB dX9_count_46 rfl (fun c69 ec69 => ?_)
        refine zr_goto hB dX9_count_47 (tgt := 51) rfl ?_
        refine zr_iaddw hB dX9_count_51 (fun x70 ex70 => ?_)
        refine zr_istore_n hB dX9_count_52 rfl (by decide) (lv' := [(3, .int x70), (2, .int x37), (0, .ref (zk K 0)), (1, .int p1), (4, .int y4_7), (5, .int y5_8)]) rfl ?_
        refine zr_iconst hB dX9_count_53 rfl (fun c71 ec71 => ?_)
        refine zr_istore hB dX9_count_54 (by decide) (lv' := [(6, .int c71), (3, .int x70), (2, .int x37), (0, .ref (zk K 0)), (1, .int p1), (4, .int y4_7), (5, .int y5_8)]) rfl ?_
        have L56_74 : ∀ (n56 : Nat) (y4_72 : Int32) (y6_73 : Int32), 0 ≤ y6_73.toInt → y6_73.toInt ≤ 4 → 4 - y6_73.toInt < (n56 : Int) → zc_V 7 K G (zc_D shM K G σ0) [(0, .ref (zk K 0)), (1, .int p1), (2, .int x37), (3, .int x70), (4, .int y4_72), (5, .int y5_8), (6, .int y6_73)] 56 [] := by
          intro n56
          induction n56 with
          | zero => intro y4_72 y6_73 y6_73a y6_73b hn56; have vy4_72 := And.intro (zn_lo y4_72) (zn_hi y4_72); exfalso; omega
          | succ n56 ih56 =>
            intro y4_72 y6_73 y6_73a y6_73b hn56
            have vy4_72 := And.intro (zn_lo y4_72) (zn_hi y4_72)
            refine zr_iload hB 6 dX9_count_56 rfl ?_
            refine zr_iconst hB dX9_count_58 rfl (fun c75 ec75 => ?_)
            refine zr_icmp_ge hB dX9_count_59 (tgt := 102) rfl (fun c76 => ?_) (fun c76 => ?_)
            · refine zr_iinc hB 5 dX9_count_102 rfl (by decide) rfl (by omega) (by omega) (fun x77 ex77 lv' hlv => ?_)
              obtain rfl : [(5, .int x77), (0, .ref (zk K 0)), (1, .int p1), (2, .int x37), (3, .int x70), (4, .int y4_72), (6, .int y6_73)] = lv' := hlv
              refine zr_goto hB dX9_count_105 (tgt := 10) rfl ?_
              exact zc_sub [1, 2, 3, 4, 5, 0] rfl (ih10 x37 x70 y4_72 x77 (by omega) (by omega) (by omega))
            refine zr_iload hB 4 dX9_count_62 rfl ?_
            refine zr_iload hB 5 dX9_count_64 rfl ?_
            refine zr_aload_n hB 0 dX9_count_66 rfl ?_
            refine zr_geti' hG 0 1 (σ0.1 0 1) dX9_count_67 rfl wf_X9_101 rfl rfl ?_
            have b78 : 0 ≤ (σ0.1 0 1).toInt ∧ (σ0.1 0 1).toInt ≤ 63 := ⟨(hO0 0 1).1, (hO0 0 1).2.1⟩
            refine zr_icmp_gt hB dX9_count_70 (tgt := 92) rfl (fun c79 => ?_) (fun c79 => ?_)
            · refine zr_iconst hB dX9_count_92 rfl (fun c80 ec80 => ?_)
              have v82 := And.intro (zn_lo y4_72) (zn_hi y4_72)
              refine zr_iadd hB dX9_count_93 (by omega) (by omega) (fun x81 ex81 => ?_)
              refine zr_istore hB dX9_count_94 (by decide) (lv' := [(4, .int x81), (0, .ref (zk K 0)), (1, .int p1), (2, .int x37), (3, .int x70), (5, .int y5_8), (6, .int y6_73)]) rfl ?_
              refine zr_iinc hB 6 dX9_count_96 rfl (by decide) rfl (by omega) (by omega) (fun x83 ex83 lv' hlv => ?_)
              obtain rfl : [(6, .int x83), (4, .int x81), (0, .ref (zk K 0)), (1, .int p1), (2, .int x37), (3, .int x70), (5, .int y5_8)] = lv' := hlv
              refine zr_goto hB dX9_count_99 (tgt := 56) rfl ?_
              exact zc_sub [2, 3, 4, 5, 1, 6, 0] rfl (ih56 x81 x83 (by omega) (by omega) (by omega))
            refine zr_aload_n hB 0 dX9_count_73 rfl ?_
            refine zr_iload hB 6 dX9_count_74 rfl ?_
            refine zr_iload hB 5 dX9_count_76 rfl ?_
            refine zr_aload_n hB 0 dX9_count_78 rfl ?_
            refine zr_geti' hG 0 1 (σ0.1 0 1) dX9_count_79 rfl wf_X9_101 rfl rfl ?_
            refine zr_callvi hG (rest := [.int y4_72]) 0 dX9_count_82 wm_X9_113 rfl rfl (c_M_knownOn K hG.2.2.2.2.2.1 σ0 y6_73 y5_8 (σ0.1 0 1) hO0 (by omega) (by omega) (by omega) (by omega)) rfl rfl (Nat.le_of_ble_eq_true rfl) ⟨Nat.le_of_ble_eq_true rfl, Nat.le_of_ble_eq_true rfl, rfl, rfl⟩ (fun r84 σ85 h86 => ?_)
            obtain ⟨rfl, r84a, r84b, g87⟩ := h86
            refine zr_if_ge hB dX9_count_85 (tgt := 92) rfl (fun c88 => ?_) (fun c88 => ?_)
            · refine zr_iconst hB dX9_count_92 rfl (fun c89 ec89 => ?_)
              have v91 := And.intro (zn_lo y4_72) (zn_hi y4_72)
              refine zr_iadd hB dX9_count_93 (by omega) (by omega) (fun x90 ex90 => ?_)
              refine zr_istore hB dX9_count_94 (by decide) (lv' := [(4, .int x90), (0, .ref (zk K 0)), (1, .int p1), (2, .int x37), (3, .int x70), (5, .int y5_8), (6, .int y6_73)]) rfl ?_
              refine zr_iinc hB 6 dX9_count_96 rfl (by decide) rfl (by omega) (by omega) (fun x92 ex92 lv' hlv => ?_)
              obtain rfl : [(6, .int x92), (4, .int x90), (0, .ref (zk K 0)), (1, .int p1), (2, .int x37), (3, .int x70), (5, .int y5_8)] = lv' := hlv
              refine zr_goto hB dX9_count_99 (tgt := 56) rfl ?_
              exact zc_sub [2, 3, 4, 5, 1, 6, 0] rfl (ih56 x90 x92 (by omega) (by omega) (by omega))
            refine zr_iconst hB dX9_count_88 rfl (fun c93 ec93 => ?_)
            refine zr_goto hB dX9_count_89 (tgt := 93) rfl ?_
            refine zr_iaddw hB dX9_count_93 (fun x94 ex94 => ?_)
            refine zr_istore hB dX9_count_94 (by decide) (lv' := [(4, .int x94), (0, .ref (zk K 0)), (1, .int p1), (2, .int x37), (3, .int x70), (5, .int y5_8), (6, .int y6_73)]) rfl ?_
            refine zr_iinc hB 6 dX9_count_96 rfl (by decide) rfl (by omega) (by omega) (fun x95 ex95 lv' hlv => ?_)
            obtain rfl : [(6, .int x95), (4, .int x94), (0, .ref (zk K 0)), (1, .int p1), (2, .int x37), (3, .int x70), (5, .int y5_8)] = lv' := hlv
            refine zr_goto hB dX9_count_99 (tgt := 56) rfl ?_
            exact zc_sub [2, 3, 4, 5, 1, 6, 0] rfl (ih56 x94 x95 (by omega) (by omega) (by omega))
        exact zc_sub [3, 4, 2, 1, 5, 6, 0] rfl (L56_74 6 y4_7 c71 (by omega) (by omega) (by omega))
      refine zr_iconst hB dX9_count_28 rfl (fun c96 ec96 => ?_)
      refine zr_goto hB dX9_count_29 (tgt := 33) rfl ?_
      refine zr_iaddw hB dX9_count_33 (fun x97 ex97 => ?_)
      refine zr_istore_n hB dX9_count_34 rfl (by decide) (lv' := [(2, .int x97), (0, .ref (zk K 0)), (1, .int p1), (3, .int y3_6), (4, .int y4_7), (5, .int y5_8)]) rfl ?_
      refine zr_iload_n hB 3 dX9_count_35 rfl ?_
      refine zr_aload_n hB 1 dX9_count_36 rfl ?_
      refine zr_getr hG 0 4 dX9_count_37 rfl wf_X9_17 rfl ?_
      refine zr_iload hB 5 dX9_count_40 rfl ?_
      refine zr_zald hG 3 dX9_count_42 rfl (by omega) (by omega) (fun x98 ex98 => ?_)
      have bx98 : 0 ≤ x98.toInt ∧ x98.toInt ≤ 1 := by rw [ex98]; exact ⟨(hO0 3 _).1, (hO0 3 _).2.1⟩
      refine zr_if_eq hB dX9_count_43 (tgt := 50) rfl (fun c99 => ?_) (fun c99 => ?_)
      · refine zr_iconst hB dX9_count_50 rfl (fun c100 ec100 => ?_)
        have v102 := And.intro (zn_lo y3_6) (zn_hi y3_6)
        refine zr_iadd hB dX9_count_51 (by omega) (by omega) (fun x101 ex101 => ?_)
        refine zr_istore_n hB dX9_count_52 rfl (by decide) (lv' := [(3, .int x101), (2, .int x97), (0, .ref (zk K 0)), (1, .int p1), (4, .int y4_7), (5, .int y5_8)]) rfl ?_
        refine zr_iconst hB dX9_count_53 rfl (fun c103 ec103 => ?_)
        refine zr_istore hB dX9_count_54 (by decide) (lv' := [(6, .int c103), (3, .int x101), (2, .int x97), (0, .ref (zk K 0)), (1, .int p1), (4, .int y4_7), (5, .int y5_8)]) rfl ?_
        have L56_106 : ∀ (n56 : Nat) (y4_104 : Int32) (y6_105 : Int32), 0 ≤ y6_105.toInt → y6_105.toInt ≤ 4 → 4 - y6_105.toInt < (n56 : Int) → zc_V 7 K G (zc_D shM K G σ0) [(0, .ref (zk K 0)), (1, .int p1), (2, .int x97), (3, .int x101), (4, .int y4_104), (5, .int y5_8), (6, .int y6_105)] 56 [] := by
          intro n56
          induction n56 with
          | zero => intro y4_104 y6_105 y6_105a y6_105b hn56; have vy4_104 := And.intro (zn_lo y4_104) (zn_hi y4_104); exfalso; omega
          | succ n56 ih56 =>
            intro y4_104 y6_105 y6_105a y6_105b hn56
            have vy4_104 := And.intro (zn_lo y4_104) (zn_hi y4_104)
            refine zr_iload hB 6 dX9_count_56 rfl ?_
            refine zr_iconst hB dX9_count_58 rfl (fun c107 ec107 => ?_)
            refine zr_icmp_ge hB dX9_count_59 (tgt := 102) rfl (fun c108 => ?_) (fun c108 => ?_)
            · refine zr_iinc hB 5 dX9_count_102 rfl (by decide) rfl (by omega) (by omega) (fun x109 ex109 lv' hlv => ?_)
              obtain rfl : [(5, .int x109), (0, .ref (zk K 0)), (1, .int p1), (2, .int x97), (3, .int x101), (4, .int y4_104), (6, .int y6_105)] = lv' := hlv
              refine zr_goto hB dX9_count_105 (tgt := 10) rfl ?_
              exact zc_sub [1, 2, 3, 4, 5, 0] rfl (ih10 x97 x101 y4_104 x109 (by omega) (by omega) (by omega))
            refine zr_iload hB 4 dX9_count_62 rfl ?_
            refine zr_iload hB 5 dX9_count_64 rfl ?_
            refine zr_aload_n hB 0 dX9_count_66 rfl ?_
            refine zr_geti' hG 0 1 (σ0.1 0 1) dX9_count_67 rfl wf_X9_101 rfl rfl ?_
            have b110 : 0 ≤ (σ0.1 0 1).toInt ∧ (σ0.1 0 1).toInt ≤ 63 := ⟨(hO0 0 1).1, (hO0 0 1).2.1⟩
            refine zr_icmp_gt hB dX9_count_70 (tgt := 92) rfl (fun c111 => ?_) (fun c111 => ?_)
            · refine zr_iconst hB dX9_count_92 rfl (fun c112 ec112 => ?_)
              have v114 := And.intro (zn_lo y4_104) (zn_hi y4_104)
              refine zr_iadd hB dX9_count_93 (by omega) (by omega) (fun x113 ex113 => ?_)
              refine zr_istore hB dX9_count_94 (by decide) (lv' := [(4, .int x113), (0, .ref (zk K 0)), (1, .int p1), (2, .int x97), (3, .int x101), (5, .int y5_8), (6, .int y6_105)]) rfl ?_
              refine zr_iinc hB 6 dX9_count_96 rfl (by decide) rfl (by omega) (by omega) (fun x115 ex115 lv' hlv => ?_)
              obtain rfl : [(6, .int x115), (4, .int x113), (0, .ref (zk K 0)), (1, .int p1), (2, .int x97), (3, .int x101), (5, .int y5_8)] = lv' := hlv
              refine zr_goto hB dX9_count_99 (tgt := 56) rfl ?_
              exact zc_sub [2, 3, 4, 5, 1, 6, 0] rfl (ih56 x113 x115 (by omega) (by omega) (by omega))
            refine zr_aload_n hB 0 dX9_count_73 rfl ?_
            refine zr_iload hB 6 dX9_count_74 rfl ?_
            refine zr_iload hB 5 dX9_count_76 rfl ?_
            refine zr_aload_n hB 0 dX9_count_78 rfl ?_
            refine zr_geti' hG 0 1 (σ0.1 0 1) dX9_count_79 rfl wf_X9_101 rfl rfl ?_
            refine zr_callvi hG (rest := [.int y4_104]) 0 dX9_count_82 wm_X9_113 rfl rfl (c_M_knownOn K hG.2.2.2.2.2.1 σ0 y6_105 y5_8 (σ0.1 0 1) hO0 (by omega) (by omega) (by omega) (by omega)) rfl rfl (Nat.le_of_ble_eq_true rfl) ⟨Nat.le_of_ble_eq_true rfl, Nat.le_of_ble_eq_true rfl, rfl, rfl⟩ (fun r116 σ117 h118 => ?_)
            obtain ⟨rfl, r116a, r116b, g119⟩ := h118
            refine zr_if_ge hB dX9_count_85 (tgt := 92) rfl (fun c120 => ?_) (fun c120 => ?_)
            · refine zr_iconst hB dX9_count_92 rfl (fun c121 ec121 => ?_)
              have v123 := And.intro (zn_lo y4_104) (zn_hi y4_104)
              refine zr_iadd hB dX9_count_93 (by omega) (by omega) (fun x122 ex122 => ?_)
              refine zr_istore hB dX9_count_94 (by decide) (lv' := [(4, .int x122), (0, .ref (zk K 0)), (1, .int p1), (2, .int x97), (3, .int x101), (5, .int y5_8), (6, .int y6_105)]) rfl ?_
              refine zr_iinc hB 6 dX9_count_96 rfl (by decide) rfl (by omega) (by omega) (fun x124 ex124 lv' hlv => ?_)
              obtain rfl : [(6, .int x124), (4, .int x122), (0, .ref (zk K 0)), (1, .int p1), (2, .int x97), (3, .int x101), (5, .int y5_8)] = lv' := hlv
              refine zr_goto hB dX9_count_99 (tgt := 56) rfl ?_
              exact zc_sub [2, 3, 4, 5, 1, 6, 0] rfl (ih56 x122 x124 (by omega) (by omega) (by omega))
            refine zr_iconst hB dX9_count_88 rfl (fun c125 ec125 => ?_)
            refine zr_goto hB dX9_count_89 (tgt := 93) rfl ?_
            refine zr_iaddw hB dX9_count_93 (fun x126 ex126 => ?_)
            refine zr_istore hB dX9_count_94 (by decide) (lv' := [(4, .int x126), (0, .ref (zk K 0)), (1, .int p1), (2, .int x97), (3, .int x101), (5, .int y5_8), (6, .int y6_105)]) rfl ?_
            refine zr_iinc hB 6 dX9_count_96 rfl (by decide) rfl (by omega) (by omega) (fun x127 ex127 lv' hlv => ?_)
            obtain rfl : [(6, .int x127), (4, .int x126), (0, .ref (zk K 0)), (1, .int p1), (2, .int x97), (3, .int x101), (5, .int y5_8)] = lv' := hlv
            refine zr_goto hB dX9_count_99 (tgt := 56) rfl ?_
            exact zc_sub [2, 3, 4, 5, 1, 6, 0] rfl (ih56 x126 x127 (by omega) (by omega) (by omega))
        exact zc_sub [3, 4, 2, 1, 5, 6, 0] rfl (L56_106 6 y4_7 c103 (by omega) (by omega) (by omega))
      refine zr_iconst hB dX9_count_46 rfl (fun c128 ec128 => ?_)
      refine zr_goto hB dX9_count_47 (tgt := 51) rfl ?_
      refine zr_iaddw hB dX9_count_51 (fun x129 ex129 => ?_)
      refine zr_istore_n hB dX9_count_52 rfl (by decide) (lv' := [(3, .int x129), (2, .int x97), (0, .ref (zk K 0)), (1, .int p1), (4, .int y4_7), (5, .int y5_8)]) rfl ?_
      refine zr_iconst hB dX9_count_53 rfl (fun c130 ec130 => ?_)
      refine zr_istore hB dX9_count_54 (by decide) (lv' := [(6, .int c130), (3, .int x129), (2, .int x97), (0, .ref (zk K 0)), (1, .int p1), (4, .int y4_7), (5, .int y5_8)]) rfl ?_
      have L56_133 : ∀ (n56 : Nat) (y4_131 : Int32) (y6_132 : Int32), 0 ≤ y6_132.toInt → y6_132.toInt ≤ 4 → 4 - y6_132.toInt < (n56 : Int) → zc_V 7 K G (zc_D shM K G σ0) [(0, .ref (zk K 0)), (1, .int p1), (2, .int x97), (3, .int x129), (4, .int y4_131), (5, .int y5_8), (6, .int y6_132)] 56 [] := by
        intro n56
        induction n56 with
        | zero => intro y4_131 y6_132 y6_132a y6_132b hn56; have vy4_131 := And.intro (zn_lo y4_131) (zn_hi y4_131); exfalso; omega
        | succ n56 ih56 =>
          intro y4_131 y6_132 y6_132a y6_132b hn56
          have vy4_131 := And.intro (zn_lo y4_131) (zn_hi y4_131)
          refine zr_iload hB 6 dX9_count_56 rfl ?_
          refine zr_iconst hB dX9_count_58 rfl (fun c134 ec134 => ?_)
          refine zr_icmp_ge hB dX9_count_59 (tgt := 102) rfl (fun c135 => ?_) (fun c135 => ?_)
          · refine zr_iinc hB 5 dX9_count_102 rfl (by decide) rfl (by omega) (by omega) (fun x136 ex136 lv' hlv => ?_)
            obtain rfl : [(5, .int x136), (0, .ref (zk K 0)), (1, .int p1), (2, .int x97), (3, .int x129), (4, .int y4_131), (6, .int y6_132)] = lv' := hlv
            refine zr_goto hB dX9_count_105 (tgt := 10) rfl ?_
            exact zc_sub [1, 2, 3, 4, 5, 0] rfl (ih10 x97 x129 y4_131 x136 (by omega) (by omega) (by omega))
          refine zr_iload hB 4 dX9_count_62 rfl ?_
          refine zr_iload hB 5 dX9_count_64 rfl ?_
          refine zr_aload_n hB 0 dX9_count_66 rfl ?_
          refine zr_geti' hG 0 1 (σ0.1 0 1) dX9_count_67 rfl wf_X9_101 rfl rfl ?_
          have b137 : 0 ≤ (σ0.1 0 1).toInt ∧ (σ0.1 0 1).toInt ≤ 63 := ⟨(hO0 0 1).1, (hO0 0 1).2.1⟩
          refine zr_icmp_gt hB dX9_count_70 (tgt := 92) rfl (fun c138 => ?_) (fun c138 => ?_)
          · refine zr_iconst hB dX9_count_92 rfl (fun c139 ec139 => ?_)
            have v141 := And.intro (zn_lo y4_131) (zn_hi y4_131)
            refine zr_iadd hB dX9_count_93 (by omega) (by omega) (fun x140 ex140 => ?_)
            refine zr_istore hB dX9_count_94 (by decide) (lv' := [(4, .int x140), (0, .ref (zk K 0)), (1, .int p1), (2, .int x97), (3, .int x129), (5, .int y5_8), (6, .int y6_132)]) rfl ?_
            refine zr_iinc hB 6 dX9_count_96 rfl (by decide) rfl (by omega) (by omega) (fun x142 ex142 lv' hlv => ?_)
            obtain rfl : [(6, .int x142), (4, .int x140), (0, .ref (zk K 0)), (1, .int p1), (2, .int x97), (3, .int x129), (5, .int y5_8)] = lv' := hlv
            refine zr_goto hB dX9_count_99 (tgt := 56) rfl ?_
            exact zc_sub [2, 3, 4, 5, 1, 6, 0] rfl (ih56 x140 x142 (by omega) (by omega) (by omega))
          refine zr_aload_n hB 0 dX9_count_73 rfl ?_
          refine zr_iload hB 6 dX9_count_74 rfl ?_
          refine zr_iload hB 5 dX9_count_76 rfl ?_
          refine zr_aload_n hB 0 dX9_count_78 rfl ?_
          refine zr_geti' hG 0 1 (σ0.1 0 1) dX9_count_79 rfl wf_X9_101 rfl rfl ?_
          refine zr_callvi hG (rest := [.int y4_131]) 0 dX9_count_82 wm_X9_113 rfl rfl (c_M_knownOn K hG.2.2.2.2.2.1 σ0 y6_132 y5_8 (σ0.1 0 1) hO0 (by omega) (by omega) (by omega) (by omega)) rfl rfl (Nat.le_of_ble_eq_true rfl) ⟨Nat.le_of_ble_eq_true rfl, Nat.le_of_ble_eq_true rfl, rfl, rfl⟩ (fun r143 σ144 h145 => ?_)
          obtain ⟨rfl, r143a, r143b, g146⟩ := h145
          refine zr_if_ge hB dX9_count_85 (tgt := 92) rfl (fun c147 => ?_) (fun c147 => ?_)
          · refine zr_iconst hB dX9_count_92 rfl (fun c148 ec148 => ?_)
            have v150 := And.intro (zn_lo y4_131) (zn_hi y4_131)
            refine zr_iadd hB dX9_count_93 (by omega) (by omega) (fun x149 ex149 => ?_)
            refine zr_istore hB dX9_count_94 (by decide) (lv' := [(4, .int x149), (0, .ref (zk K 0)), (1, .int p1), (2, .int x97), (3, .int x129), (5, .int y5_8), (6, .int y6_132)]) rfl ?_
            refine zr_iinc hB 6 dX9_count_96 rfl (by decide) rfl (by omega) (by omega) (fun x151 ex151 lv' hlv => ?_)
            obtain rfl : [(6, .int x151), (4, .int x149), (0, .ref (zk K 0)), (1, .int p1), (2, .int x97), (3, .int x129), (5, .int y5_8)] = lv' := hlv
            refine zr_goto hB dX9_count_99 (tgt := 56) rfl ?_
            exact zc_sub [2, 3, 4, 5, 1, 6, 0] rfl (ih56 x149 x151 (by omega) (by omega) (by omega))
          refine zr_iconst hB dX9_count_88 rfl (fun c152 ec152 => ?_)
          refine zr_goto hB dX9_count_89 (tgt := 93) rfl ?_
          refine zr_iaddw hB dX9_count_93 (fun x153 ex153 => ?_)
          refine zr_istore hB dX9_count_94 (by decide) (lv' := [(4, .int x153), (0, .ref (zk K 0)), (1, .int p1), (2, .int x97), (3, .int x129), (5, .int y5_8), (6, .int y6_132)]) rfl ?_
          refine zr_iinc hB 6 dX9_count_96 rfl (by decide) rfl (by omega) (by omega) (fun x154 ex154 lv' hlv => ?_)
          obtain rfl : [(6, .int x154), (4, .int x153), (0, .ref (zk K 0)), (1, .int p1), (2, .int x97), (3, .int x129), (5, .int y5_8)] = lv' := hlv
          refine zr_goto hB dX9_count_99 (tgt := 56) rfl ?_
          exact zc_sub [2, 3, 4, 5, 1, 6, 0] rfl (ih56 x153 x154 (by omega) (by omega) (by omega))
      exact zc_sub [3, 4, 2, 1, 5, 6, 0] rfl (L56_133 6 y4_7 c130 (by omega) (by omega) (by omega))
  exact zc_sub [4, 5, 3, 2, 1, 0] rfl (L10_9 66 c1 c2 c3 c4 (by omega) (by omega) (by omega))
