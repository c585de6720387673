set_option maxHeartbeats 1000000 in
set_option maxRecDepth 100000 in
theorem c_M_torn (K : zc_K) (hi : zc_inj shM K.2.2.2.1) (σ0 : zc_S)  (hO0 : zc_O okM σ0)  : zc_M shM K yX9_torn cX9_torn 1 (some .int) (zrm 0 0) σ0 [.ref (zk K 0)] (zc_I (fun r9 σ9 => σ0 = σ9 ∧ 0 ≤ r9.toInt ∧ r9.toInt ≤ 3)) := by
  refine zc_start RX9 hi pfX9_torn rfl (Nat.le_of_ble_eq_true rfl) ?_
  intro G hG
  have hB := hG.1
  show zc_V 1 K G (zc_D shM K G σ0) [(0, .ref (zk K 0))] 0 []
  refine zr_aload_n hB 0 dX9_torn_0 rfl ?_
  refine zr_geti' hG 0 39 (σ0.1 0 39) dX9_torn_1 rfl wf_X9_282 rfl rfl ?_
  have b1 : 0 ≤ (σ0.1 0 39).toInt ∧ (σ0.1 0 39).toInt ≤ 3 := ⟨(hO0 0 39).1, (hO0 0 39).2.1⟩
  exact zr_iret hG dX9_torn_4 ⟨rfl, by omega, by omega⟩

set_option maxHeartbeats 1000000 in
set_option maxRecDepth 100000 in
theorem c_M_count (K : zc_K) (hi : zc_inj shM K.2.2.2.1) (σ0 : zc_S) (p1 : Int32) (hO0 : zc_O okM σ0)  : zc_M shM K yX9_count cX9_count 7 (some .int) (zrm 3 68) σ0 [.ref (zk K 0), .int p1] (zc_I (fun r9 σ9 => σ0 = σ9 ∧ ((p1.toInt = 0 ∧ r9.toInt = (σ0.1 0 1).toInt) ∨ (p1.toInt = 1 ∧ r9.toInt = (σ0.1 0 2).toInt) ∨ (p1.toInt = 2 ∧ r9.toInt = zp_ct (zp_mk 2 σ0) 64) ∨ (p1.toInt = 3 ∧ r9.toInt = zp_ct (zp_mk 3 σ0) 64) ∨ (p1.toInt = 4 ∧ r9.toInt = (σ0.1 0 17).toInt) ∨ (p1.toInt = 5 ∧ r9.toInt = (σ0.1 0 28).toInt) ∨ (p1.toInt = 6 ∧ r9.toInt = zp_g (zp_u (zy_A σ0) (σ0.1 0 1).toInt) ((σ0.1 0 1).toInt + 1).toNat 4) ∨ (p1.toInt = 7 ∧ r9.toInt = (σ0.1 0 6).toInt) ∨ (p1.toInt = 8 ∧ (σ0.1 24 0).toInt = -4 ∧ r9.toInt = -4) ∨ (p1.toInt = 8 ∧ ¬ (σ0.1 24 0).toInt = -4 ∧ r9.toInt = (σ0.1 25 0).toInt) ∨ ((p1.toInt < 0 ∨ 8 < p1.toInt) ∧ r9.toInt = -1)))) := by
  refine zc_start RX9 hi pfX9_count rfl (Nat.le_of_ble_eq_true rfl) ?_
  intro G hG
  have hB := hG.1
  show zc_V 7 K G (zc_D shM K G σ0) [(0, .ref (zk K 0)), (1, .int p1)] 0 []
  have bw0_1 : 0 ≤ (σ0.1 0 1).toInt ∧ (σ0.1 0 1).toInt ≤ 63 := ⟨(hO0 0 1).1, (hO0 0 1).2.1⟩
  have bw0_2 : 0 ≤ (σ0.1 0 2).toInt ∧ (σ0.1 0 2).toInt ≤ 200 := ⟨(hO0 0 2).1, (hO0 0 2).2.1⟩
  have bw0_17 : 0 ≤ (σ0.1 0 17).toInt ∧ (σ0.1 0 17).toInt ≤ 6 := ⟨(hO0 0 17).1, (hO0 0 17).2.1⟩
  have bw0_28 : 0 ≤ (σ0.1 0 28).toInt ∧ (σ0.1 0 28).toInt ≤ 24 := ⟨(hO0 0 28).1, (hO0 0 28).2.1⟩
  have bw0_6 : 0 ≤ (σ0.1 0 6).toInt ∧ (σ0.1 0 6).toInt ≤ 120 := ⟨(hO0 0 6).1, (hO0 0 6).2.1⟩
  refine zr_iconst hB dX9_count_0 rfl (fun c1 ec1 => ?_)
  refine zr_istore_n hB dX9_count_1 rfl (by decide) (lv' := [(2, .int c1), (0, .ref (zk K 0)), (1, .int p1)]) rfl ?_
  refine zr_iconst hB dX9_count_2 rfl (fun c2 ec2 => ?_)
  refine zr_istore_n hB dX9_count_3 rfl (by decide) (lv' := [(3, .int c2), (2, .int c1), (0, .ref (zk K 0)), (1, .int p1)]) rfl ?_
  refine zr_iconst hB dX9_count_4 rfl (fun c3 ec3 => ?_)
  refine zr_istore hB dX9_count_5 (by decide) (lv' := [(4, .int c3), (3, .int c2), (2, .int c1), (0, .ref (zk K 0)), (1, .int p1)]) rfl ?_
  refine zr_iconst hB dX9_count_7 rfl (fun c4 ec4 => ?_)
  refine zr_istore hB dX9_count_8 (by decide) (lv' := [(5, .int c4), (4, .int c3), (3, .int c2), (2, .int c1), (0, .ref (zk K 0)), (1, .int p1)]) rfl ?_
  have L10_12 : ∀ (n10 : Nat) (y2_5 : Int32) (y3_6 : Int32) (y4_7 : Int32) (y5_8 : Int32), 0 ≤ y2_5.toInt → y2_5.toInt ≤ 64 → 0 ≤ y3_6.toInt → y3_6.toInt ≤ 64 → 0 ≤ y4_7.toInt → y4_7.toInt ≤ 256 → 0 ≤ y5_8.toInt → y5_8.toInt ≤ 64 → y2_5.toInt ≤ y5_8.toInt → y3_6.toInt ≤ y5_8.toInt → y4_7.toInt ≤ 4 * y5_8.toInt → y2_5.toInt = zp_ct (zp_mk 2 σ0) y5_8.toInt.toNat → y3_6.toInt = zp_ct (zp_mk 3 σ0) y5_8.toInt.toNat → y4_7.toInt = zp_g (zp_u (zy_A σ0) (σ0.1 0 1).toInt) (zp_m y5_8.toInt (σ0.1 0 1).toInt) 4 → 64 - y5_8.toInt < (n10 : Int) → zc_V 7 K G (zc_D shM K G σ0) [(0, .ref (zk K 0)), (1, .int p1), (2, .int y2_5), (3, .int y3_6), (4, .int y4_7), (5, .int y5_8)] 10 [] := by
    intro n10
    induction n10 with
    | zero => intro y2_5 y3_6 y4_7 y5_8 y2_5a y2_5b y3_6a y3_6b y4_7a y4_7b y5_8a y5_8b e9 e10 e11 hc2 hc3 hg4 hn10; exfalso; omega
    | succ n10 ih10 =>
      intro y2_5 y3_6 y4_7 y5_8 y2_5a y2_5b y3_6a y3_6b y4_7a y4_7b y5_8a y5_8b e9 e10 e11 hc2 hc3 hg4 hn10
      refine zr_iload hB 5 dX9_count_10 rfl ?_
      refine zr_bipush hB dX9_count_12 rfl (fun c13 ec13 => ?_)
      refine zr_icmp_ge hB dX9_count_14 (tgt := 108) rfl (fun c14 => ?_) (fun c14 => ?_)
      · have t2 : y2_5.toInt = zp_ct (zp_mk 2 σ0) 64 := by rw [show (64 : Nat) = y5_8.toInt.toNat by omega]; exact hc2
        have t3 : y3_6.toInt = zp_ct (zp_mk 3 σ0) 64 := by rw [show (64 : Nat) = y5_8.toInt.toNat by omega]; exact hc3
        have t4 : y4_7.toInt = zp_g (zp_u (zy_A σ0) (σ0.1 0 1).toInt) ((σ0.1 0 1).toInt + 1).toNat 4 := by have h9 := hg4; rw [show y5_8.toInt = 64 by omega, zp_mz (by omega) (by omega)] at h9; exact h9
        refine zr_iload_n hB 1 dX9_count_108 rfl ?_
        by_cases c15 : p1.toInt = 0
        · refine zr_tabIn hB 0 dX9_count_109 (by omega) (by omega) (off := 51) rfl (tgt := 160) rfl ?_
          refine zr_aload_n hB 0 dX9_count_160 rfl ?_
          refine zr_geti' hG 0 1 (σ0.1 0 1) dX9_count_161 rfl wf_X9_101 rfl rfl ?_
          exact zr_iret hG dX9_count_164 ⟨rfl, (by exact Or.inl ⟨by omega, by omega⟩)⟩
        by_cases c16 : p1.toInt = 1
        · refine zr_tabIn hB 1 dX9_count_109 (by omega) (by omega) (off := 56) rfl (tgt := 165) rfl ?_
          refine zr_aload_n hB 0 dX9_count_165 rfl ?_
          refine zr_geti' hG 0 2 (σ0.1 0 2) dX9_count_166 rfl wf_X9_105 rfl rfl ?_
          exact zr_iret hG dX9_count_169 ⟨rfl, (by exact Or.inr (Or.inl ⟨by omega, by omega⟩))⟩
        by_cases c17 : p1.toInt = 2
        · refine zr_tabIn hB 2 dX9_count_109 (by omega) (by omega) (off := 61) rfl (tgt := 170) rfl ?_
          refine zr_iload_n hB 2 dX9_count_170 rfl ?_
          exact zr_iret hG dX9_count_171 ⟨rfl, (by exact Or.inr (Or.inr (Or.inl ⟨by omega, by omega⟩)))⟩
        by_cases c18 : p1.toInt = 3
        · refine zr_tabIn hB 3 dX9_count_109 (by omega) (by omega) (off := 63) rfl (tgt := 172) rfl ?_
          refine zr_iload_n hB 3 dX9_count_172 rfl ?_
          exact zr_iret hG dX9_count_173 ⟨rfl, (by exact Or.inr (Or.inr (Or.inr (Or.inl ⟨by omega, by omega⟩))))⟩
        by_cases c19 : p1.toInt = 4
        · refine zr_tabIn hB 4 dX9_count_109 (by omega) (by omega) (off := 65) rfl (tgt := 174) rfl ?_
          refine zr_aload_n hB 0 dX9_count_174 rfl ?_
          refine zr_geti' hG 0 17 (σ0.1 0 17) dX9_count_175 rfl wf_X9_181 rfl rfl ?_
          exact zr_iret hG dX9_count_178 ⟨rfl, (by exact Or.inr (Or.inr (Or.inr (Or.inr (Or.inl ⟨by omega, by omega⟩)))))⟩
        by_cases c20 : p1.toInt = 5
        · refine zr_tabIn hB 5 dX9_count_109 (by omega) (by omega) (off := 70) rfl (tgt := 179) rfl ?_
          refine zr_aload_n hB 0 dX9_count_179 rfl ?_
          refine zr_geti' hG 0 28 (σ0.1 0 28) dX9_count_180 rfl wf_X9_271 rfl rfl ?_
          exact zr_iret hG dX9_count_183 ⟨rfl, (by exact Or.inr (Or.inr (Or.inr (Or.inr (Or.inr (Or.inl ⟨by omega, by omega⟩))))))⟩
        by_cases c21 : p1.toInt = 6
        · refine zr_tabIn hB 6 dX9_count_109 (by omega) (by omega) (off := 75) rfl (tgt := 184) rfl ?_
          refine zr_iload hB 4 dX9_count_184 rfl ?_
          exact zr_iret hG dX9_count_186 ⟨rfl, (by exact Or.inr (Or.inr (Or.inr (Or.inr (Or.inr (Or.inr (Or.inl ⟨by omega, by omega⟩)))))))⟩
        by_cases c22 : p1.toInt = 7
        · refine zr_tabIn hB 7 dX9_count_109 (by omega) (by omega) (off := 78) rfl (tgt := 187) rfl ?_
          refine zr_aload_n hB 0 dX9_count_187 rfl ?_
          refine zr_geti' hG 0 6 (σ0.1 0 6) dX9_count_188 rfl wf_X9_125 rfl rfl ?_
          exact zr_iret hG dX9_count_191 ⟨rfl, (by exact Or.inr (Or.inr (Or.inr (Or.inr (Or.inr (Or.inr (Or.inr (Or.inl ⟨by omega, by omega⟩))))))))⟩
        by_cases c23 : p1.toInt = 8
        · refine zr_tabIn hB 8 dX9_count_109 (by omega) (by omega) (off := 83) rfl (tgt := 192) rfl ?_
          refine zr_aload_n hB 0 dX9_count_192 rfl ?_
          refine zr_getr hG 0 36 dX9_count_193 rfl wf_X9_80 rfl ?_
          refine zr_iconst hB dX9_count_196 rfl (fun c24 ec24 => ?_)
          refine zr_iald hG 24 dX9_count_197 rfl (by omega) (by omega) (fun x25 ex25 => ?_)
          have bx25 : (-4) ≤ x25.toInt ∧ x25.toInt ≤ 2 := by rw [ex25]; exact ⟨(hO0 24 _).1, (hO0 24 _).2.1⟩
          refine zr_bipush hB dX9_count_198 rfl (fun c26 ec26 => ?_)
          refine zr_icmp_ne hB dX9_count_200 (tgt := 208) rfl (fun c27 => ?_) (fun c27 => ?_)
          · refine zr_aload_n hB 0 dX9_count_208 rfl ?_
            refine zr_getr hG 0 37 dX9_count_209 rfl wf_X9_83 rfl ?_
            refine zr_iconst hB dX9_count_212 rfl (fun c28 ec28 => ?_)
            refine zr_iald hG 25 dX9_count_213 rfl (by omega) (by omega) (fun x29 ex29 => ?_)
            have bx29 : 0 ≤ x29.toInt ∧ x29.toInt ≤ 64 := by rw [ex29]; exact ⟨(hO0 25 _).1, (hO0 25 _).2.1⟩
            exact zr_iret hG dX9_count_214 ⟨rfl, (by have hqx25 : x25.toInt = (σ0.1 24 0).toInt := (by rw [ex25, show c24.toInt.toNat = 0 by omega]); have hqx29 : x29.toInt = (σ0.1 25 0).toInt := (by rw [ex29, show c28.toInt.toNat = 0 by omega]); first | exact Or.inr (Or.inr (Or.inr (Or.inr (Or.inr (Or.inr (Or.inr (Or.inr (Or.inl ⟨by omega, by omega, by omega⟩)))))))) | exact Or.inr (Or.inr (Or.inr (Or.inr (Or.inr (Or.inr (Or.inr (Or.inr (Or.inr (Or.inl ⟨by omega, by omega, by omega⟩))))))))))⟩
          refine zr_bipush hB dX9_count_203 rfl (fun c30 ec30 => ?_)
          refine zr_goto hB dX9_count_205 (tgt := 214) rfl ?_
          exact zr_iret hG dX9_count_214 ⟨rfl, (by have hqx25 : x25.toInt = (σ0.1 24 0).toInt := (by rw [ex25, show c24.toInt.toNat = 0 by omega]); first | exact Or.inr (Or.inr (Or.inr (Or.inr (Or.inr (Or.inr (Or.inr (Or.inr (Or.inl ⟨by omega, by omega, by omega⟩)))))))) | exact Or.inr (Or.inr (Or.inr (Or.inr (Or.inr (Or.inr (Or.inr (Or.inr (Or.inr (Or.inl ⟨by omega, by omega, by omega⟩))))))))))⟩
        refine zr_tabOut hB dX9_count_109 (by omega) (tgt := 215) rfl ?_
        refine zr_iconst hB dX9_count_215 rfl (fun c31 ec31 => ?_)
        exact zr_iret hG dX9_count_216 ⟨rfl, (by exact Or.inr (Or.inr (Or.inr (Or.inr (Or.inr (Or.inr (Or.inr (Or.inr (Or.inr (Or.inr (⟨by omega, by omega⟩)))))))))))⟩
      refine zr_iload_n hB 2 dX9_count_17 rfl ?_
      refine zr_aload_n hB 0 dX9_count_18 rfl ?_
      refine zr_getr hG 0 3 dX9_count_19 rfl wf_X9_13 rfl ?_
      refine zr_iload hB 5 dX9_count_22 rfl ?_
      refine zr_zald hG 2 dX9_count_24 rfl (by omega) (by omega) (fun x32 ex32 => ?_)
      have bx32 : 0 ≤ x32.toInt ∧ x32.toInt ≤ 1 := by rw [ex32]; exact ⟨(hO0 2 _).1, (hO0 2 _).2.1⟩
      refine zr_if_eq hB dX9_count_25 (tgt := 32) rfl (fun c33 => ?_) (fun c33 => ?_)
      · refine zr_iconst hB dX9_count_32 rfl (fun c34 ec34 => ?_)
        refine zr_iadd hB dX9_count_33 (by omega) (by omega) (fun x35 ex35 => ?_)
        refine zr_istore_n hB dX9_count_34 rfl (by decide) (lv' := [(2, .int x35), (0, .ref (zk K 0)), (1, .int p1), (3, .int y3_6), (4, .int y4_7), (5, .int y5_8)]) rfl ?_
        refine zr_iload_n hB 3 dX9_count_35 rfl ?_
        refine zr_aload_n hB 1 dX9_count_36 rfl ?_
        refine zr_getr hG 0 4 dX9_count_37 rfl wf_X9_17 rfl ?_
        refine zr_iload hB 5 dX9_count_40 rfl ?_
        refine zr_zald hG 3 dX9_count_42 rfl (by omega) (by omega) (fun x36 ex36 => ?_)
        have bx36 : 0 ≤ x36.toInt ∧ x36.toInt ≤ 1 := by rw [ex36]; exact ⟨(hO0 3 _).1, (hO0 3 _).2.1⟩
        refine zr_if_eq hB dX9_count_43 (tgt := 50) rfl (fun c37 => ?_) (fun c37 => ?_)
        · refine zr_iconst hB dX9_count_50 rfl (fun c38 ec38 => ?_)
          refine zr_iadd hB dX9_count_51 (by omega) (by omega) (fun x39 ex39 => ?_)
          refine zr_istore_n hB dX9_count_52 rfl (by decide) (lv' := [(3, .int x39), (2, .int x35), (0, .ref (zk K 0)), (1, .int p1), (4, .int y4_7), (5, .int y5_8)]) rfl ?_
          have k2 : x35.toInt = zp_ct (zp_mk 2 σ0) (y5_8.toInt + 1).toNat := by first | (rw [zp_cy (k := (zp_mk 2 σ0)) (n := y5_8.toInt.toNat) (by omega) (show ¬ (σ0.1 2 y5_8.toInt.toNat).toInt = 0 by rw [← ex32]; omega)]; omega) | (rw [zp_cn (k := (zp_mk 2 σ0)) (n := y5_8.toInt.toNat) (by omega) (fun h9 => h9 (show (σ0.1 2 y5_8.toInt.toNat).toInt = 0 by rw [← ex32]; omega))]; omega)
          have k3 : x39.toInt = zp_ct (zp_mk 3 σ0) (y5_8.toInt + 1).toNat := by first | (rw [zp_cy (k := (zp_mk 3 σ0)) (n := y5_8.toInt.toNat) (by omega) (show ¬ (σ0.1 3 y5_8.toInt.toNat).toInt = 0 by rw [← ex36]; omega)]; omega) | (rw [zp_cn (k := (zp_mk 3 σ0)) (n := y5_8.toInt.toNat) (by omega) (fun h9 => h9 (show (σ0.1 3 y5_8.toInt.toNat).toInt = 0 by rw [← ex36]; omega))]; omega)
          refine zr_iconst hB dX9_count_53 rfl (fun c40 ec40 => ?_)
          refine zr_istore hB dX9_count_54 (by decide) (lv' := [(6, .int c40), (3, .int x39), (2, .int x35), (0, .ref (zk K 0)), (1, .int p1), (4, .int y4_7), (5, .int y5_8)]) rfl ?_
          have L56_44 : ∀ (n56 : Nat) (y4_41 : Int32) (y6_42 : Int32), 0 ≤ y4_41.toInt → y4_41.toInt ≤ 256 → 0 ≤ y6_42.toInt → y6_42.toInt ≤ 4 → y4_41.toInt ≤ 4 * y5_8.toInt + y6_42.toInt → y4_41.toInt = zp_h (zp_u (zy_A σ0) (σ0.1 0 1).toInt) y5_8.toInt (σ0.1 0 1).toInt y6_42.toInt.toNat → 4 - y6_42.toInt < (n56 : Int) → zc_V 7 K G (zc_D shM K G σ0) [(0, .ref (zk K 0)), (1, .int p1), (2, .int x35), (3, .int x39), (4, .int y4_41), (5, .int y5_8), (6, .int y6_42)] 56 [] := by
            intro n56
            induction n56 with
            | zero => intro y4_41 y6_42 y4_41a y4_41b y6_42a y6_42b e43 hh hn56; exfalso; omega
            | succ n56 ih56 =>
              intro y4_41 y6_42 y4_41a y4_41b y6_42a y6_42b e43 hh hn56
              refine zr_iload hB 6 dX9_count_56 rfl ?_
              refine zr_iconst hB dX9_count_58 rfl (fun c45 ec45 => ?_)
              refine zr_icmp_ge hB dX9_count_59 (tgt := 102) rfl (fun c46 => ?_) (fun c46 => ?_)
              · refine zr_iinc hB 5 dX9_count_102 rfl (by decide) rfl (by omega) (by omega) (fun x47 ex47 lv' hlv => ?_)
                obtain rfl : [(5, .int x47), (0, .ref (zk K 0)), (1, .int p1), (2, .int x35), (3, .int x39), (4, .int y4_41), (6, .int y6_42)] = lv' := hlv
                refine zr_goto hB dX9_count_105 (tgt := 10) rfl ?_
                exact zc_sub [1, 2, 3, 4, 5, 0] rfl (ih10 x35 x39 y4_41 x47 (by omega) (by omega) (by omega) (by omega) (by omega) (by omega) (by omega) (by omega) (show x35.toInt ≤ x47.toInt by omega) (show x39.toInt ≤ x47.toInt by omega) (show y4_41.toInt ≤ 4 * x47.toInt by omega) (show x35.toInt = zp_ct (zp_mk 2 σ0) x47.toInt.toNat by rw [show x47.toInt.toNat = (y5_8.toInt + 1).toNat by omega]; exact k2) (show x39.toInt = zp_ct (zp_mk 3 σ0) x47.toInt.toNat by rw [show x47.toInt.toNat = (y5_8.toInt + 1).toNat by omega]; exact k3) (show y4_41.toInt = zp_g (zp_u (zy_A σ0) (σ0.1 0 1).toInt) (zp_m x47.toInt (σ0.1 0 1).toInt) 4 by rw [show x47.toInt = y5_8.toInt + 1 by omega, ← zp_h4 (show y6_42.toInt.toNat = 4 by omega)]; exact hh) (by omega))
              refine zr_iload hB 4 dX9_count_62 rfl ?_
              refine zr_iload hB 5 dX9_count_64 rfl ?_
              refine zr_aload_n hB 0 dX9_count_66 rfl ?_
              refine zr_geti' hG 0 1 (σ0.1 0 1) dX9_count_67 rfl wf_X9_101 rfl rfl ?_
              refine zr_icmp_gt hB dX9_count_70 (tgt := 92) rfl (fun c48 => ?_) (fun c48 => ?_)
              · refine zr_iconst hB dX9_count_92 rfl (fun c49 ec49 => ?_)
                refine zr_iadd hB dX9_count_93 (by omega) (by omega) (fun x50 ex50 => ?_)
                refine zr_istore hB dX9_count_94 (by decide) (lv' := [(4, .int x50), (0, .ref (zk K 0)), (1, .int p1), (2, .int x35), (3, .int x39), (5, .int y5_8), (6, .int y6_42)]) rfl ?_
                refine zr_iinc hB 6 dX9_count_96 rfl (by decide) rfl (by omega) (by omega) (fun x51 ex51 lv' hlv => ?_)
                obtain rfl : [(6, .int x51), (4, .int x50), (0, .ref (zk K 0)), (1, .int p1), (2, .int x35), (3, .int x39), (5, .int y5_8)] = lv' := hlv
                refine zr_goto hB dX9_count_99 (tgt := 56) rfl ?_
                exact zc_sub [2, 3, 4, 5, 1, 6, 0] rfl (ih56 x50 x51 (by omega) (by omega) (by omega) (by omega) (show x50.toInt ≤ 4 * y5_8.toInt + x51.toInt by omega) (show x50.toInt = zp_h (zp_u (zy_A σ0) (σ0.1 0 1).toInt) y5_8.toInt (σ0.1 0 1).toInt x51.toInt.toNat by first | (rw [zp_hy (s := y6_42.toInt.toNat) (by omega) (by omega) (by omega) (hu.mp (by omega))]; omega) | (rw [zp_hn (s := y6_42.toInt.toNat) (by omega) (by omega) (Or.inr (fun h9 => absurd (hu.mpr h9) (by omega)))]; omega) | (rw [zp_hn (s := y6_42.toInt.toNat) (by omega) (by omega) (Or.inl (by omega))]; omega)) (by omega))
              refine zr_aload_n hB 0 dX9_count_73 rfl ?_
              refine zr_iload hB 6 dX9_count_74 rfl ?_
              refine zr_iload hB 5 dX9_count_76 rfl ?_
              refine zr_aload_n hB 0 dX9_count_78 rfl ?_
              refine zr_geti' hG 0 1 (σ0.1 0 1) dX9_count_79 rfl wf_X9_101 rfl rfl ?_
              refine zr_callvi hG (rest := [.int y4_41]) 0 dX9_count_82 wm_X9_113 rfl rfl (c_M_knownOn K hG.2.2.2.2.2.1 σ0 y6_42 y5_8 (σ0.1 0 1) hO0 (by omega) (by omega) (by omega) (by omega)) rfl rfl (Nat.le_of_ble_eq_true rfl) ⟨Nat.le_of_ble_eq_true rfl, Nat.le_of_ble_eq_true rfl, rfl, rfl⟩ (fun r52 σ53 h54 => ?_)
              obtain ⟨rfl, r52a, r52b, g55⟩ := h54
              have hu : r52.toInt < 0 ↔ (zp_u (zy_A σ0) (σ0.1 0 1).toInt) y6_42.toInt.toNat y5_8.toInt.toNat := zp_uM (zx_or g55 (by omega)) (by omega) (by omega) (by omega)
              refine zr_if_ge hB dX9_count_85 (tgt := 92) rfl (fun c56 => ?_) (fun c56 => ?_)
              · refine zr_iconst hB dX9_count_92 rfl (fun c57 ec57 => ?_)
                refine zr_iadd hB dX9_count_93 (by omega) (by omega) (fun x58 ex58 => ?_)
                refine zr_istore hB dX9_count_94 (by decide) (lv' := [(4, .int x58), (0, .ref (zk K 0)), (1, .int p1), (2, .int x35), (3, .int x39), (5, .int y5_8), (6, .int y6_42)]) rfl ?_
                refine zr_iinc hB 6 dX9_count_96 rfl (by decide) rfl (by omega) (by omega) (fun x59 ex59 lv' hlv => ?_)
                obtain rfl : [(6, .int x59), (4, .int x58), (0, .ref (zk K 0)), (1, .int p1), (2, .int x35), (3, .int x39), (5, .int y5_8)] = lv' := hlv
                refine zr_goto hB dX9_count_99 (tgt := 56) rfl ?_
                exact zc_sub [2, 3, 4, 5, 1, 6, 0] rfl (ih56 x58 x59 (by omega) (by omega) (by omega) (by omega) (show x58.toInt ≤ 4 * y5_8.toInt + x59.toInt by omega) (show x58.toInt = zp_h (zp_u (zy_A σ0) (σ0.1 0 1).toInt) y5_8.toInt (σ0.1 0 1).toInt x59.toInt.toNat by first | (rw [zp_hy (s := y6_42.toInt.toNat) (by omega) (by omega) (by omega) (hu.mp (by omega))]; omega) | (rw [zp_hn (s := y6_42.toInt.toNat) (by omega) (by omega) (Or.inr (fun h9 => absurd (hu.mpr h9) (by omega)))]; omega) | (rw [zp_hn (s := y6_42.toInt.toNat) (by omega) (by omega) (Or.inl (by omega))]; omega)) (by omega))
              refine zr_iconst hB dX9_count_88 rfl (fun c60 ec60 => ?_)
              refine zr_goto hB dX9_count_89 (tgt := 93) rfl ?_
              refine zr_iadd hB dX9_count_93 (by omega) (by omega) (fun x61 ex61 => ?_)
              refine zr_istore hB dX9_count_94 (by decide) (lv' := [(4, .int x61), (0, .ref (zk K 0)), (1, .int p1), (2, .int x35), (3, .int x39), (5, .int y5_8), (6, .int y6_42)]) rfl ?_
              refine zr_iinc hB 6 dX9_count_96 rfl (by decide) rfl (by omega) (by omega) (fun x62 ex62 lv' hlv => ?_)
              obtain rfl : [(6, .int x62), (4, .int x61), (0, .ref (zk K 0)), (1, .int p1), (2, .int x35), (3, .int x39), (5, .int y5_8)] = lv' := hlv
              refine zr_goto hB dX9_count_99 (tgt := 56) rfl ?_
              exact zc_sub [2, 3, 4, 5, 1, 6, 0] rfl (ih56 x61 x62 (by omega) (by omega) (by omega) (by omega) (show x61.toInt ≤ 4 * y5_8.toInt + x62.toInt by omega) (show x61.toInt = zp_h (zp_u (zy_A σ0) (σ0.1 0 1).toInt) y5_8.toInt (σ0.1 0 1).toInt x62.toInt.toNat by first | (rw [zp_hy (s := y6_42.toInt.toNat) (by omega) (by omega) (by omega) (hu.mp (by omega))]; omega) | (rw [zp_hn (s := y6_42.toInt.toNat) (by omega) (by omega) (Or.inr (fun h9 => absurd (hu.mpr h9) (by omega)))]; omega) | (rw [zp_hn (s := y6_42.toInt.toNat) (by omega) (by omega) (Or.inl (by omega))]; omega)) (by omega))
          exact zc_sub [3, 4, 2, 1, 5, 6, 0] rfl (L56_44 6 y4_7 c40 (by omega) (by omega) (by omega) (by omega) (show y4_7.toInt ≤ 4 * y5_8.toInt + c40.toInt by omega) (show y4_7.toInt = zp_h (zp_u (zy_A σ0) (σ0.1 0 1).toInt) y5_8.toInt (σ0.1 0 1).toInt c40.toInt.toNat by rw [show c40.toInt.toNat = 0 by omega, zp_h0]; exact hg4) (by omega))
        refine zr_iconst hB dX9_count_46 rfl (fun c63 ec63 => ?_)
        refine zr_goto hB dX9_count_47 (tgt := 51) rfl ?_
        refine zr_iadd hB dX9_count_51 (by omega) (by omega) (fun x64 ex64 => ?_)
        refine zr_istore_n hB dX9_count_52 rfl (by decide) (lv' := [(3, .int x64), (2, .int x35), (0, .ref (zk K 0)), (1, .int p1), (4, .int y4_7), (5, .int y5_8)]) rfl ?_
        have k2 : x35.toInt = zp_ct (zp_mk 2 σ0) (y5_8.toInt + 1).toNat := by first | (rw [zp_cy (k := (zp_mk 2 σ0)) (n := y5_8.toInt.toNat) (by omega) (show ¬ (σ0.1 2 y5_8.toInt.toNat).toInt = 0 by rw [← ex32]; omega)]; omega) | (rw [zp_cn (k := (zp_mk 2 σ0)) (n := y5_8.toInt.toNat) (by omega) (fun h9 => h9 (show (σ0.1 2 y5_8.toInt.toNat).toInt = 0 by rw [← ex32]; omega))]; omega)
        have k3 : x64.toInt = zp_ct (zp_mk 3 σ0) (y5_8.toInt + 1).toNat := by first | (rw [zp_cy (k := (zp_mk 3 σ0)) (n := y5_8.toInt.toNat) (by omega) (show ¬ (σ0.1 3 y5_8.toInt.toNat).toInt = 0 by rw [← ex36]; omega)]; omega) | (rw [zp_cn (k := (zp_mk 3 σ0)) (n := y5_8.toInt.toNat) (by omega) (fun h9 => h9 (show (σ0.1 3 y5_8.toInt.toNat).toInt = 0 by rw [← ex36]; omega))]; omega)
        refine zr_iconst hB dX9_count_53 rfl (fun c65 ec65 => ?_)
        refine zr_istore hB dX9_count_54 (by decide) (lv' := [(6, .int c65), (3, .int x64), (2, .int x35), (0, .ref (zk K 0)), (1, .int p1), (4, .int y4_7), (5, .int y5_8)]) rfl ?_
        have L56_69 : ∀ (n56 : Nat) (y4_66 : Int32) (y6_67 : Int32), 0 ≤ y4_66.toInt → y4_66.toInt ≤ 256 → 0 ≤ y6_67.toInt → y6_67.toInt ≤ 4 → y4_66.toInt ≤ 4 * y5_8.toInt + y6_67.toInt → y4_66.toInt = zp_h (zp_u (zy_A σ0) (σ0.1 0 1).toInt) y5_8.toInt (σ0.1 0 1).toInt y6_67.toInt.toNat → 4 - y6_67.toInt < (n56 : Int) → zc_V 7 K G (zc_D shM K G σ0) [(0, .ref (zk K 0)), (1, .int p1), (2, .int x35), (3, .int x64), (4, .int y4_66), (5, .int y5_8), (6, .int y6_67)] 56 [] := by
          intro n56
          induction n56 with
          | zero => intro y4_66 y6_67 y4_66a y4_66b y6_67a y6_67b e68 hh hn56; exfalso; omega
          | succ n56 ih56 =>
            intro y4_66 y6_67 y4_66a y4_66b y6_67a y6_67b e68 hh hn56
            refine zr_iload hB 6 dX9_count_56 rfl ?_
            refine zr_iconst hB dX9_count_58 rfl (fun c70 ec70 => ?_)
            refine zr_icmp_ge hB dX9_count_59 (tgt := 102) rfl (fun c71 => ?_) (fun c71 => ?_)
            · refine zr_iinc hB 5 dX9_count_102 rfl (by decide) rfl (by omega) (by omega) (fun x72 ex72 lv' hlv => ?_)
              obtain rfl : [(5, .int x72), (0, .ref (zk K 0)), (1, .int p1), (2, .int x35), (3, .int x64), (4, .int y4_66), (6, .int y6_67)] = lv' := hlv
              refine zr_goto hB dX9_count_105 (tgt := 10) rfl ?_
              exact zc_sub [1, 2, 3, 4, 5, 0] rfl (ih10 x35 x64 y4_66 x72 (by omega) (by omega) (by omega) (by omega) (by omega) (by omega) (by omega) (by omega) (show x35.toInt ≤ x72.toInt by omega) (show x64.toInt ≤ x72.toInt by omega) (show y4_66.toInt ≤ 4 * x72.toInt by omega) (show x35.toInt = zp_ct (zp_mk 2 σ0) x72.toInt.toNat by rw [show x72.toInt.toNat = (y5_8.toInt + 1).toNat by omega]; exact k2) (show x64.toInt = zp_ct (zp_mk 3 σ0) x72.toInt.toNat by rw [show x72.toInt.toNat = (y5_8.toInt + 1).toNat by omega]; exact k3) (show y4_66.toInt = zp_g (zp_u (zy_A σ0) (σ0.1 0 1).toInt) (zp_m x72.toInt (σ0.1 0 1).toInt) 4 by rw [show x72.toInt = y5_8.toInt + 1 by omega, ← zp_h4 (show y6_67.toInt.toNat = 4 by omega)]; exact hh) (by omega))
            refine zr_iload hB 4 dX9_count_62 rfl ?_
            refine zr_iload hB 5 dX9_count_64 rfl ?_
            refine zr_aload_n hB 0 dX9_count_66 rfl ?_
            refine zr_geti' hG 0 1 (σ0.1 0 1) dX9_count_67 rfl wf_X9_101 rfl rfl ?_
            refine zr_icmp_gt hB dX9_count_70 (tgt := 92) rfl (fun c73 => ?_) (fun c73 => ?_)
            · refine zr_iconst hB dX9_count_92 rfl (fun c74 ec74 => ?_)
              refine zr_iadd hB dX9_count_93 (by omega) (by omega) (fun x75 ex75 => ?_)
              refine zr_istore hB dX9_count_94 (by decide) (lv' := [(4, .int x75), (0, .ref (zk K 0)), (1, .int p1), (2, .int x35), (3, .int x64), (5, .int y5_8), (6, .int y6_67)]) rfl ?_
              refine zr_iinc hB 6 dX9_count_96 rfl (by decide) rfl (by omega) (by omega) (fun x76 ex76 lv' hlv => ?_)
              obtain rfl : [(6, .int x76), (4, .int x75), (0, .ref (zk K 0)), (1, .int p1), (2, .int x35), (3, .int x64), (5, .int y5_8)] = lv' := hlv
              refine zr_goto hB dX9_count_99 (tgt := 56) rfl ?_
              exact zc_sub [2, 3, 4, 5, 1, 6, 0] rfl (ih56 x75 x76 (by omega) (by omega) (by omega) (by omega) (show x75.toInt ≤ 4 * y5_8.toInt + x76.toInt by omega) (show x75.toInt = zp_h (zp_u (zy_A σ0) (σ0.1 0 1).toInt) y5_8.toInt (σ0.1 0 1).toInt x76.toInt.toNat by first | (rw [zp_hy (s := y6_67.toInt.toNat) (by omega) (by omega) (by omega) (hu.mp (by omega))]; omega) | (rw [zp_hn (s := y6_67.toInt.toNat) (by omega) (by omega) (Or.inr (fun h9 => absurd (hu.mpr h9) (by omega)))]; omega) | (rw [zp_hn (s := y6_67.toInt.toNat) (by omega) (by omega) (Or.inl (by omega))]; omega)) (by omega))
            refine zr_aload_n hB 0 dX9_count_73 rfl ?_
            refine zr_iload hB 6 dX9_count_74 rfl ?_
            refine zr_iload hB 5 dX9_count_76 rfl ?_
            refine zr_aload_n hB 0 dX9_count_78 rfl ?_
            refine zr_geti' hG 0 1 (σ0.1 0 1) dX9_count_79 rfl wf_X9_101 rfl rfl ?_
            refine zr_callvi hG (rest := [.int y4_66]) 0 dX9_count_82 wm_X9_113 rfl rfl (c_M_knownOn K hG.2.2.2.2.2.1 σ0 y6_67 y5_8 (σ0.1 0 1) hO0 (by omega) (by omega) (by omega) (by omega)) rfl rfl (Nat.le_of_ble_eq_true rfl) ⟨Nat.le_of_ble_eq_true rfl, Nat.le_of_ble_eq_true rfl, rfl, rfl⟩ (fun r77 σ78 h79 => ?_)
            obtain ⟨rfl, r77a, r77b, g80⟩ := h79
            have hu : r77.toInt < 0 ↔ (zp_u (zy_A σ0) (σ0.1 0 1).toInt) y6_67.toInt.toNat y5_8.toInt.toNat := zp_uM (zx_or g80 (by omega)) (by omega) (by omega) (by omega)
            refine zr_if_ge hB dX9_count_85 (tgt := 92) rfl (fun c81 => ?_) (fun c81 => ?_)
            · refine zr_iconst hB dX9_count_92 rfl (fun c82 ec82 => ?_)
              refine zr_iadd hB dX9_count_93 (by omega) (by omega) (fun x83 ex83 => ?_)
              refine zr_istore hB dX9_count_94 (by decide) (lv' := [(4, .int x83), (0, .ref (zk K 0)), (1, .int p1), (2, .int x35), (3, .int x64), (5, .int y5_8), (6, .int y6_67)]) rfl ?_
              refine zr_iinc hB 6 dX9_count_96 rfl (by decide) rfl (by omega) (by omega) (fun x84 ex84 lv' hlv => ?_)
              obtain rfl : [(6, .int x84), (4, .int x83), (0, .ref (zk K 0)), (1, .int p1), (2, .int x35), (3, .int x64), (5, .int y5_8)] = lv' := hlv
              refine zr_goto hB dX9_count_99 (tgt := 56) rfl ?_
              exact zc_sub [2, 3, 4, 5, 1, 6, 0] rfl (ih56 x83 x84 (by omega) (by omega) (by omega) (by omega) (show x83.toInt ≤ 4 * y5_8.toInt + x84.toInt by omega) (show x83.toInt = zp_h (zp_u (zy_A σ0) (σ0.1 0 1).toInt) y5_8.toInt (σ0.1 0 1).toInt x84.toInt.toNat by first | (rw [zp_hy (s := y6_67.toInt.toNat) (by omega) (by omega) (by omega) (hu.mp (by omega))]; omega) | (rw [zp_hn (s := y6_67.toInt.toNat) (by omega) (by omega) (Or.inr (fun h9 => absurd (hu.mpr h9) (by omega)))]; omega) | (rw [zp_hn (s := y6_67.toInt.toNat) (by omega) (by omega) (Or.inl (by omega))]; omega)) (by omega))
            refine zr_iconst hB dX9_count_88 rfl (fun c85 ec85 => ?_)
            refine zr_goto hB dX9_count_89 (tgt := 93) rfl ?_
            refine zr_iadd hB dX9_count_93 (by omega) (by omega) (fun x86 ex86 => ?_)
            refine zr_istore hB dX9_count_94 (by decide) (lv' := [(4, .int x86), (0, .ref (zk K 0)), (1, .int p1), (2, .int x35), (3, .int x64), (5, .int y5_8), (6, .int y6_67)]) rfl ?_
            refine zr_iinc hB 6 dX9_count_96 rfl (by decide) rfl (by omega) (by omega) (fun x87 ex87 lv' hlv => ?_)
            obtain rfl : [(6, .int x87), (4, .int x86), (0, .ref (zk K 0)), (1, .int p1), (2, .int x35), (3, .int x64), (5, .int y5_8)] = lv' := hlv
            refine zr_goto hB dX9_count_99 (tgt := 56) rfl ?_
            exact zc_sub [2, 3, 4, 5, 1, 6, 0] rfl (ih56 x86 x87 (by omega) (by omega) (by omega) (by omega) (show x86.toInt ≤ 4 * y5_8.toInt + x87.toInt by omega) (show x86.toInt = zp_h (zp_u (zy_A σ0) (σ0.1 0 1).toInt) y5_8.toInt (σ0.1 0 1).toInt x87.toInt.toNat by first | (rw [zp_hy (s := y6_67.toInt.toNat) (by omega) (by omega) (by omega) (hu.mp (by omega))]; omega) | (rw [zp_hn (s := y6_67.toInt.toNat) (by omega) (by omega) (Or.inr (fun h9 => absurd (hu.mpr h9) (by omega)))]; omega) | (rw [zp_hn (s := y6_67.toInt.toNat) (by omega) (by omega) (Or.inl (by omega))]; omega)) (by omega))
        exact zc_sub [3, 4, 2, 1, 5, 6, 0] rfl (L56_69 6 y4_7 c65 (by omega) (by omega) (by omega) (by omega) (show y4_7.toInt ≤ 4 * y5_8.toInt + c65.toInt by omega) (show y4_7.toInt = zp_h (zp_u (zy_A σ0) (σ0.1 0 1).toInt) y5_8.toInt (σ0.1 0 1).toInt c65.toInt.toNat by rw [show c65.toInt.toNat = 0 by omega, zp_h0]; exact hg4) (by omega))
      refine zr_iconst hB dX9_count_28 rfl (fun c88 ec88 => ?_)
      refine zr_goto hB dX9_count_29 (tgt := 33) rfl ?_
      refine zr_iadd hB dX9_count_33 (by omega) (by omega) (fun x89 ex89 => ?_)
      refine zr_istore_n hB dX9_count_34 rfl (by decide) (lv' := [(2, .int x89), (0, .ref (zk K 0)), (1, .int p1), (3, .int y3_6), (4, .int y4_7), (5, .int y5_8)]) rfl ?_
      refine zr_iload_n hB 3 dX9_count_35 rfl ?_
      refine zr_aload_n hB 1 dX9_count_36 rfl ?_
      refine zr_getr hG 0 4 dX9_count_37 rfl wf_X9_17 rfl ?_
      refine zr_iload hB 5 dX9_count_40 rfl ?_
      refine zr_zald hG 3 dX9_count_42 rfl (by omega) (by omega) (fun x90 ex90 => ?_)
      have bx90 : 0 ≤ x90.toInt ∧ x90.toInt ≤ 1 := by rw [ex90]; exact ⟨(hO0 3 _).1, (hO0 3 _).2.1⟩
      refine zr_if_eq hB dX9_count_43 (tgt := 50) rfl (fun c91 => ?_) (fun c91 => ?_)
      · refine zr_iconst hB dX9_count_50 rfl (fun c92 ec92 => ?_)
        refine zr_iadd hB dX9_count_51 (by omega) (by omega) (fun x93 ex93 => ?_)
        refine zr_istore_n hB dX9_count_52 rfl (by decide) (lv' := [(3, .int x93), (2, .int x89), (0, .ref (zk K 0)), (1, .int p1), (4, .int y4_7), (5, .int y5_8)]) rfl ?_
        have k2 : x89.toInt = zp_ct (zp_mk 2 σ0) (y5_8.toInt + 1).toNat := by first | (rw [zp_cy (k := (zp_mk 2 σ0)) (n := y5_8.toInt.toNat) (by omega) (show ¬ (σ0.1 2 y5_8.toInt.toNat).toInt = 0 by rw [← ex32]; omega)]; omega) | (rw [zp_cn (k := (zp_mk 2 σ0)) (n := y5_8.toInt.toNat) (by omega) (fun h9 => h9 (show (σ0.1 2 y5_8.toInt.toNat).toInt = 0 by rw [← ex32]; omega))]; omega)
        have k3 : x93.toInt = zp_ct (zp_mk 3 σ0) (y5_8.toInt + 1).toNat := by first | (rw [zp_cy (k := (zp_mk 3 σ0)) (n := y5_8.toInt.toNat) (by omega) (show ¬ (σ0.1 3 y5_8.toInt.toNat).toInt = 0 by rw [← ex90]; omega)]; omega) | (rw [zp_cn (k := (zp_mk 3 σ0)) (n := y5_8.toInt.toNat) (by omega) (fun h9 => h9 (show (σ0.1 3 y5_8.toInt.toNat).toInt = 0 by rw [← ex90]; omega))]; omega)
        refine zr_iconst hB dX9_count_53 rfl (fun c94 ec94 => ?_)
        refine zr_istore hB dX9_count_54 (by decide) (lv' := [(6, .int c94), (3, .int x93), (2, .int x89), (0, .ref (zk K 0)), (1, .int p1), (4, .int y4_7), (5, .int y5_8)]) rfl ?_
        have L56_98 : ∀ (n56 : Nat) (y4_95 : Int32) (y6_96 : Int32), 0 ≤ y4_95.toInt → y4_95.toInt ≤ 256 → 0 ≤ y6_96.toInt → y6_96.toInt ≤ 4 → y4_95.toInt ≤ 4 * y5_8.toInt + y6_96.toInt → y4_95.toInt = zp_h (zp_u (zy_A σ0) (σ0.1 0 1).toInt) y5_8.toInt (σ0.1 0 1).toInt y6_96.toInt.toNat → 4 - y6_96.toInt < (n56 : Int) → zc_V 7 K G (zc_D shM K G σ0) [(0, .ref (zk K 0)), (1, .int p1), (2, .int x89), (3, .int x93), (4, .int y4_95), (5, .int y5_8), (6, .int y6_96)] 56 [] := by
          intro n56
          induction n56 with
          | zero => intro y4_95 y6_96 y4_95a y4_95b y6_96a y6_96b e97 hh hn56; exfalso; omega
          | succ n56 ih56 =>
            intro y4_95 y6_96 y4_95a y4_95b y6_96a y6_96b e97 hh hn56
            refine zr_iload hB 6 dX9_count_56 rfl ?_
            refine zr_iconst hB dX9_count_58 rfl (fun c99 ec99 => ?_)
            refine zr_icmp_ge hB dX9_count_59 (tgt := 102) rfl (fun c100 => ?_) (fun c100 => ?_)
            · refine zr_iinc hB 5 dX9_count_102 rfl (by decide) rfl (by omega) (by omega) (fun x101 ex101 lv' hlv => ?_)
              obtain rfl : [(5, .int x101), (0, .ref (zk K 0)), (1, .int p1), (2, .int x89), (3, .int x93), (4, .int y4_95), (6, .int y6_96)] = lv' := hlv
              refine zr_goto hB dX9_count_105 (tgt := 10) rfl ?_
              exact zc_sub [1, 2, 3, 4, 5, 0] rfl (ih10 x89 x93 y4_95 x101 (by omega) (by omega) (by omega) (by omega) (by omega) (by omega) (by omega) (by omega) (show x89.toInt ≤ x101.toInt by omega) (show x93.toInt ≤ x101.toInt by omega) (show y4_95.toInt ≤ 4 * x101.toInt by omega) (show x89.toInt = zp_ct (zp_mk 2 σ0) x101.toInt.toNat by rw [show x101.toInt.toNat = (y5_8.toInt + 1).toNat by omega]; exact k2) (show x93.toInt = zp_ct (zp_mk 3 σ0) x101.toInt.toNat by rw [show x101.toInt.toNat = (y5_8.toInt + 1).toNat by omega]; exact k3) (show y4_95.toInt = zp_g (zp_u (zy_A σ0) (σ0.1 0 1).toInt) (zp_m x101.toInt (σ0.1 0 1).toInt) 4 by rw [show x101.toInt = y5_8.toInt + 1 by omega, ← zp_h4 (show y6_96.toInt.toNat = 4 by omega)]; exact hh) (by omega))
            refine zr_iload hB 4 dX9_count_62 rfl ?_
            refine zr_iload hB 5 dX9_count_64 rfl ?_
            refine zr_aload_n hB 0 dX9_count_66 rfl ?_
            refine zr_geti' hG 0 1 (σ0.1 0 1) dX9_count_67 rfl wf_X9_101 rfl rfl ?_
            refine zr_icmp_gt hB dX9_count_70 (tgt := 92) rfl (fun c102 => ?_) (fun c102 => ?_)
            · refine zr_iconst hB dX9_count_92 rfl (fun c103 ec103 => ?_)
              refine zr_iadd hB dX9_count_93 (by omega) (by omega) (fun x104 ex104 => ?_)
              refine zr_istore hB dX9_count_94 (by decide) (lv' := [(4, .int x104), (0, .ref (zk K 0)), (1, .int p1), (2, .int x89), (3, .int x93), (5, .int y5_8), (6, .int y6_96)]) rfl ?_
              refine zr_iinc hB 6 dX9_count_96 rfl (by decide) rfl (by omega) (by omega) (fun x105 ex105 lv' hlv => ?_)
              obtain rfl : [(6, .int x105), (4, .int x104), (0, .ref (zk K 0)), (1, .int p1), (2, .int x89), (3, .int x93), (5, .int y5_8)] = lv' := hlv
              refine zr_goto hB dX9_count_99 (tgt := 56) rfl ?_
              exact zc_sub [2, 3, 4, 5, 1, 6, 0] rfl (ih56 x104 x105 (by omega) (by omega) (by omega) (by omega) (show x104.toInt ≤ 4 * y5_8.toInt + x105.toInt by omega) (show x104.toInt = zp_h (zp_u (zy_A σ0) (σ0.1 0 1).toInt) y5_8.toInt (σ0.1 0 1).toInt x105.toInt.toNat by first | (rw [zp_hy (s := y6_96.toInt.toNat) (by omega) (by omega) (by omega) (hu.mp (by omega))]; omega) | (rw [zp_hn (s := y6_96.toInt.toNat) (by omega) (by omega) (Or.inr (fun h9 => absurd (hu.mpr h9) (by omega)))]; omega) | (rw [zp_hn (s := y6_96.toInt.toNat) (by omega) (by omega) (Or.inl (by omega))]; omega)) (by omega))
            refine zr_aload_n hB 0 dX9_count_73 rfl ?_
            refine zr_iload hB 6 dX9_count_74 rfl ?_
            refine zr_iload hB 5 dX9_count_76 rfl ?_
            refine zr_aload_n hB 0 dX9_count_78 rfl ?_
            refine zr_geti' hG 0 1 (σ0.1 0 1) dX9_count_79 rfl wf_X9_101 rfl rfl ?_
            refine zr_callvi hG (rest := [.int y4_95]) 0 dX9_count_82 wm_X9_113 rfl rfl (c_M_knownOn K hG.2.2.2.2.2.1 σ0 y6_96 y5_8 (σ0.1 0 1) hO0 (by omega) (by omega) (by omega) (by omega)) rfl rfl (Nat.le_of_ble_eq_true rfl) ⟨Nat.le_of_ble_eq_true rfl, Nat.le_of_ble_eq_true rfl, rfl, rfl⟩ (fun r106 σ107 h108 => ?_)
            obtain ⟨rfl, r106a, r106b, g109⟩ := h108
            have hu : r106.toInt < 0 ↔ (zp_u (zy_A σ0) (σ0.1 0 1).toInt) y6_96.toInt.toNat y5_8.toInt.toNat := zp_uM (zx_or g109 (by omega)) (by omega) (by omega) (by omega)
            refine zr_if_ge hB dX9_count_85 (tgt := 92) rfl (fun c110 => ?_) (fun c110 => ?_)
            · refine zr_iconst hB dX9_count_92 rfl (fun c111 ec111 => ?_)
              refine zr_iadd hB dX9_count_93 (by omega) (by omega) (fun x112 ex112 => ?_)
              refine zr_istore hB dX9_count_94 (by decide) (lv' := [(4, .int x112), (0, .ref (zk K 0)), (1, .int p1), (2, .int x89), (3, .int x93), (5, .int y5_8), (6, .int y6_96)]) rfl ?_
              refine zr_iinc hB 6 dX9_count_96 rfl (by decide) rfl (by omega) (by omega) (fun x113 ex113 lv' hlv => ?_)
              obtain rfl : [(6, .int x113), (4, .int x112), (0, .ref (zk K 0)), (1, .int p1), (2, .int x89), (3, .int x93), (5, .int y5_8)] = lv' := hlv
              refine zr_goto hB dX9_count_99 (tgt := 56) rfl ?_
              exact zc_sub [2, 3, 4, 5, 1, 6, 0] rfl (ih56 x112 x113 (by omega) (by omega) (by omega) (by omega) (show x112.toInt ≤ 4 * y5_8.toInt + x113.toInt by omega) (show x112.toInt = zp_h (zp_u (zy_A σ0) (σ0.1 0 1).toInt) y5_8.toInt (σ0.1 0 1).toInt x113.toInt.toNat by first | (rw [zp_hy (s := y6_96.toInt.toNat) (by omega) (by omega) (by omega) (hu.mp (by omega))]; omega) | (rw [zp_hn (s := y6_96.toInt.toNat) (by omega) (by omega) (Or.inr (fun h9 => absurd (hu.mpr h9) (by omega)))]; omega) | (rw [zp_hn (s := y6_96.toInt.toNat) (by omega) (by omega) (Or.inl (by omega))]; omega)) (by omega))
            refine zr_iconst hB dX9_count_88 rfl (fun c114 ec114 => ?_)
            refine zr_goto hB dX9_count_89 (tgt := 93) rfl ?_
            refine zr_iadd hB dX9_count_93 (by omega) (by omega) (fun x115 ex115 => ?_)
            refine zr_istore hB dX9_count_94 (by decide) (lv' := [(4, .int x115), (0, .ref (zk K 0)), (1, .int p1), (2, .int x89), (3, .int x93), (5, .int y5_8), (6, .int y6_96)]) rfl ?_
            refine zr_iinc hB 6 dX9_count_96 rfl (by decide) rfl (by omega) (by omega) (fun x116 ex116 lv' hlv => ?_)
            obtain rfl : [(6, .int x116), (4, .int x115), (0, .ref (zk K 0)), (1, .int p1), (2, .int x89), (3, .int x93), (5, .int y5_8)] = lv' := hlv
            refine zr_goto hB dX9_count_99 (tgt := 56) rfl ?_
            exact zc_sub [2, 3, 4, 5, 1, 6, 0] rfl (ih56 x115 x116 (by omega) (by omega) (by omega) (by omega) (show x115.toInt ≤ 4 * y5_8.toInt + x116.toInt by omega) (show x115.toInt = zp_h (zp_u (zy_A σ0) (σ0.1 0 1).toInt) y5_8.toInt (σ0.1 0 1).toInt x116.toInt.toNat by first | (rw [zp_hy (s := y6_96.toInt.toNat) (by omega) (by omega) (by omega) (hu.mp (by omega))]; omega) | (rw [zp_hn (s := y6_96.toInt.toNat) (by omega) (by omega) (Or.inr (fun h9 => absurd (hu.mpr h9) (by omega)))]; omega) | (rw [zp_hn (s := y6_96.toInt.toNat) (by omega) (by omega) (Or.inl (by omega))]; omega)) (by omega))
        exact zc_sub [3, 4, 2, 1, 5, 6, 0] rfl (L56_98 6 y4_7 c94 (by omega) (by omega) (by omega) (by omega) (show y4_7.toInt ≤ 4 * y5_8.toInt + c94.toInt by omega) (show y4_7.toInt = zp_h (zp_u (zy_A σ0) (σ0.1 0 1).toInt) y5_8.toInt (σ0.1 0 1).toInt c94.toInt.toNat by rw [show c94.toInt.toNat = 0 by omega, zp_h0]; exact hg4) (by omega))
      refine zr_iconst hB dX9_count_46 rfl (fun c117 ec117 => ?_)
      refine zr_goto hB dX9_count_47 (tgt := 51) rfl ?_
      refine zr_iadd hB dX9_count_51 (by omega) (by omega) (fun x118 ex118 => ?_)
      refine zr_istore_n hB dX9_count_52 rfl (by decide) (lv' := [(3, .int x118), (2, .int x89), (0, .ref (zk K 0)), (1, .int p1), (4, .int y4_7), (5, .int y5_8)]) rfl ?_
      have k2 : x89.toInt = zp_ct (zp_mk 2 σ0) (y5_8.toInt + 1).toNat := by first | (rw [zp_cy (k := (zp_mk 2 σ0)) (n := y5_8.toInt.toNat) (by omega) (show ¬ (σ0.1 2 y5_8.toInt.toNat).toInt = 0 by rw [← ex32]; omega)]; omega) | (rw [zp_cn (k := (zp_mk 2 σ0)) (n := y5_8.toInt.toNat) (by omega) (fun h9 => h9 (show (σ0.1 2 y5_8.toInt.toNat).toInt = 0 by rw [← ex32]; omega))]; omega)
      have k3 : x118.toInt = zp_ct (zp_mk 3 σ0) (y5_8.toInt + 1).toNat := by first | (rw [zp_cy (k := (zp_mk 3 σ0)) (n := y5_8.toInt.toNat) (by omega) (show ¬ (σ0.1 3 y5_8.toInt.toNat).toInt = 0 by rw [← ex90]; omega)]; omega) | (rw [zp_cn (k := (zp_mk 3 σ0)) (n := y5_8.toInt.toNat) (by omega) (fun h9 => h9 (show (σ0.1 3 y5_8.toInt.toNat).toInt = 0 by rw [← ex90]; omega))]; omega)
      refine zr_iconst hB dX9_count_53 rfl (fun c119 ec119 => ?_)
      refine zr_istore hB dX9_count_54 (by decide) (lv' := [(6, .int c119), (3, .int x118), (2, .int x89), (0, .ref (zk K 0)), (1, .int p1), (4, .int y4_7), (5, .int y5_8)]) rfl ?_
      have L56_123 : ∀ (n56 : Nat) (y4_120 : Int32) (y6_121 : Int32), 0 ≤ y4_120.toInt → y4_120.toInt ≤ 256 → 0 ≤ y6_121.toInt → y6_121.toInt ≤ 4 → y4_120.toInt ≤ 4 * y5_8.toInt + y6_121.toInt → y4_120.toInt = zp_h (zp_u (zy_A σ0) (σ0.1 0 1).toInt) y5_8.toInt (σ0.1 0 1).toInt y6_121.toInt.toNat → 4 - y6_121.toInt < (n56 : Int) → zc_V 7 K G (zc_D shM K G σ0) [(0, .ref (zk K 0)), (1, .int p1), (2, .int x89), (3, .int x118), (4, .int y4_120), (5, .int y5_8), (6, .int y6_121)] 56 [] := by
        intro n56
        induction n56 with
        | zero => intro y4_120 y6_121 y4_120a y4_120b y6_121a y6_121b e122 hh hn56; exfalso; omega
        | succ n56 ih56 =>
          intro y4_120 y6_121 y4_120a y4_120b y6_121a y6_121b e122 hh hn56
          refine zr_iload hB 6 dX9_count_56 rfl ?_
          refine zr_iconst hB dX9_count_58 rfl (fun c124 ec124 => ?_)
          refine zr_icmp_ge hB dX9_count_59 (tgt := 102) rfl (fun c125 => ?_) (fun c125 => ?_)
          · refine zr_iinc hB 5 dX9_count_102 rfl (by decide) rfl (by omega) (by omega) (fun x126 ex126 lv' hlv => ?_)
            obtain rfl : [(5, .int x126), (0, .ref (zk K 0)), (1, .int p1), (2, .int x89), (3, .int x118), (4, .int y4_120), (6, .int y6_121)] = lv' := hlv
            refine zr_goto hB dX9_count_105 (tgt := 10) rfl ?_
            exact zc_sub [1, 2, 3, 4, 5, 0] rfl (ih10 x89 x118 y4_120 x126 (by omega) (by omega) (by omega) (by omega) (by omega) (by omega) (by omega) (by omega) (show x89.toInt ≤ x126.toInt by omega) (show x118.toInt ≤ x126.toInt by omega) (show y4_120.toInt ≤ 4 * x126.toInt by omega) (show x89.toInt = zp_ct (zp_mk 2 σ0) x126.toInt.toNat by rw [show x126.toInt.toNat = (y5_8.toInt + 1).toNat by omega]; exact k2) (show x118.toInt = zp_ct (zp_mk 3 σ0) x126.toInt.toNat by rw [show x126.toInt.toNat = (y5_8.toInt + 1).toNat by omega]; exact k3) (show y4_120.toInt = zp_g (zp_u (zy_A σ0) (σ0.1 0 1).toInt) (zp_m x126.toInt (σ0.1 0 1).toInt) 4 by rw [show x126.toInt = y5_8.toInt + 1 by omega, ← zp_h4 (show y6_121.toInt.toNat = 4 by omega)]; exact hh) (by omega))
          refine zr_iload hB 4 dX9_count_62 rfl ?_
          refine zr_iload hB 5 dX9_count_64 rfl ?_
          refine zr_aload_n hB 0 dX9_count_66 rfl ?_
          refine zr_geti' hG 0 1 (σ0.1 0 1) dX9_count_67 rfl wf_X9_101 rfl rfl ?_
          refine zr_icmp_gt hB dX9_count_70 (tgt := 92) rfl (fun c127 => ?_) (fun c127 => ?_)
          · refine zr_iconst hB dX9_count_92 rfl (fun c128 ec128 => ?_)
            refine zr_iadd hB dX9_count_93 (by omega) (by omega) (fun x129 ex129 => ?_)
            refine zr_istore hB dX9_count_94 (by decide) (lv' := [(4, .int x129), (0, .ref (zk K 0)), (1, .int p1), (2, .int x89), (3, .int x118), (5, .int y5_8), (6, .int y6_121)]) rfl ?_
            refine zr_iinc hB 6 dX9_count_96 rfl (by decide) rfl (by omega) (by omega) (fun x130 ex130 lv' hlv => ?_)
            obtain rfl : [(6, .int x130), (4, .int x129), (0, .ref (zk K 0)), (1, .int p1), (2, .int x89), (3, .int x118), (5, .int y5_8)] = lv' := hlv
            refine zr_goto hB dX9_count_99 (tgt := 56) rfl ?_
            exact zc_sub [2, 3, 4, 5, 1, 6, 0] rfl (ih56 x129 x130 (by omega) (by omega) (by omega) (by omega) (show x129.toInt ≤ 4 * y5_8.toInt + x130.toInt by omega) (show x129.toInt = zp_h (zp_u (zy_A σ0) (σ0.1 0 1).toInt) y5_8.toInt (σ0.1 0 1).toInt x130.toInt.toNat by first | (rw [zp_hy (s := y6_121.toInt.toNat) (by omega) (by omega) (by omega) (hu.mp (by omega))]; omega) | (rw [zp_hn (s := y6_121.toInt.toNat) (by omega) (by omega) (Or.inr (fun h9 => absurd (hu.mpr h9) (by omega)))]; omega) | (rw [zp_hn (s := y6_121.toInt.toNat) (by omega) (by omega) (Or.inl (by omega))]; omega)) (by omega))
          refine zr_aload_n hB 0 dX9_count_73 rfl ?_
          refine zr_iload hB 6 dX9_count_74 rfl ?_
          refine zr_iload hB 5 dX9_count_76 rfl ?_
          refine zr_aload_n hB 0 dX9_count_78 rfl ?_
          refine zr_geti' hG 0 1 (σ0.1 0 1) dX9_count_79 rfl wf_X9_101 rfl rfl ?_
          refine zr_callvi hG (rest := [.int y4_120]) 0 dX9_count_82 wm_X9_113 rfl rfl (c_M_knownOn K hG.2.2.2.2.2.1 σ0 y6_121 y5_8 (σ0.1 0 1) hO0 (by omega) (by omega) (by omega) (by omega)) rfl rfl (Nat.le_of_ble_eq_true rfl) ⟨Nat.le_of_ble_eq_true rfl, Nat.le_of_ble_eq_true rfl, rfl, rfl⟩ (fun r131 σ132 h133 => ?_)
          obtain ⟨rfl, r131a, r131b, g134⟩ := h133
          have hu : r131.toInt < 0 ↔ (zp_u (zy_A σ0) (σ0.1 0 1).toInt) y6_121.toInt.toNat y5_8.toInt.toNat := zp_uM (zx_or g134 (by omega)) (by omega) (by omega) (by omega)
          refine zr_if_ge hB dX9_count_85 (tgt := 92) rfl (fun c135 => ?_) (fun c135 => ?_)
          · refine zr_iconst hB dX9_count_92 rfl (fun c136 ec136 => ?_)
            refine zr_iadd hB dX9_count_93 (by omega) (by omega) (fun x137 ex137 => ?_)
            refine zr_istore hB dX9_count_94 (by decide) (lv' := [(4, .int x137), (0, .ref (zk K 0)), (1, .int p1), (2, .int x89), (3, .int x118), (5, .int y5_8), (6, .int y6_121)]) rfl ?_
            refine zr_iinc hB 6 dX9_count_96 rfl (by decide) rfl (by omega) (by omega) (fun x138 ex138 lv' hlv => ?_)
            obtain rfl : [(6, .int x138), (4, .int x137), (0, .ref (zk K 0)), (1, .int p1), (2, .int x89), (3, .int x118), (5, .int y5_8)] = lv' := hlv
            refine zr_goto hB dX9_count_99 (tgt := 56) rfl ?_
            exact zc_sub [2, 3, 4, 5, 1, 6, 0] rfl (ih56 x137 x138 (by omega) (by omega) (by omega) (by omega) (show x137.toInt ≤ 4 * y5_8.toInt + x138.toInt by omega) (show x137.toInt = zp_h (zp_u (zy_A σ0) (σ0.1 0 1).toInt) y5_8.toInt (σ0.1 0 1).toInt x138.toInt.toNat by first | (rw [zp_hy (s := y6_121.toInt.toNat) (by omega) (by omega) (by omega) (hu.mp (by omega))]; omega) | (rw [zp_hn (s := y6_121.toInt.toNat) (by omega) (by omega) (Or.inr (fun h9 => absurd (hu.mpr h9) (by omega)))]; omega) | (rw [zp_hn (s := y6_121.toInt.toNat) (by omega) (by omega) (Or.inl (by omega))]; omega)) (by omega))
          refine zr_iconst hB dX9_count_88 rfl (fun c139 ec139 => ?_)
          refine zr_goto hB dX9_count_89 (tgt := 93) rfl ?_
          refine zr_iadd hB dX9_count_93 (by omega) (by omega) (fun x140 ex140 => ?_)
          refine zr_istore hB dX9_count_94 (by decide) (lv' := [(4, .int x140), (0, .ref (zk K 0)), (1, .int p1), (2, .int x89), (3, .int x118), (5, .int y5_8), (6, .int y6_121)]) rfl ?_
          refine zr_iinc hB 6 dX9_count_96 rfl (by decide) rfl (by omega) (by omega) (fun x141 ex141 lv' hlv => ?_)
          obtain rfl : [(6, .int x141), (4, .int x140), (0, .ref (zk K 0)), (1, .int p1), (2, .int x89), (3, .int x118), (5, .int y5_8)] = lv' := hlv
          refine zr_goto hB dX9_count_99 (tgt := 56) rfl ?_
          exact zc_sub [2, 3, 4, 5, 1, 6, 0] rfl (ih56 x140 x141 (by omega) (by omega) (by omega) (by omega) (show x140.toInt ≤ 4 * y5_8.toInt + x141.toInt by omega) (show x140.toInt = zp_h (zp_u (zy_A σ0) (σ0.1 0 1).toInt) y5_8.toInt (σ0.1 0 1).toInt x141.toInt.toNat by first | (rw [zp_hy (s := y6_121.toInt.toNat) (by omega) (by omega) (by omega) (hu.mp (by omega))]; omega) | (rw [zp_hn (s := y6_121.toInt.toNat) (by omega) (by omega) (Or.inr (fun h9 => absurd (hu.mpr h9) (by omega)))]; omega) | (rw [zp_hn (s := y6_121.toInt.toNat) (by omega) (by omega) (Or.inl (by omega))]; omega)) (by omega))
      exact zc_sub [3, 4, 2, 1, 5, 6, 0] rfl (L56_123 6 y4_7 c119 (by omega) (by omega) (by omega) (by omega) (show y4_7.toInt ≤ 4 * y5_8.toInt + c119.toInt by omega) (show y4_7.toInt = zp_h (zp_u (zy_A σ0) (σ0.1 0 1).toInt) y5_8.toInt (σ0.1 0 1).toInt c119.toInt.toNat by rw [show c119.toInt.toNat = 0 by omega, zp_h0]; exact hg4) (by omega))
  exact zc_sub [4, 5, 3, 2, 1, 0] rfl (L10_12 66 c1 c2 c3 c4 (by omega) (by omega) (by omega) (by omega) (by omega) (by omega) (by omega) (by omega) (show c1.toInt ≤ c4.toInt by omega) (show c2.toInt ≤ c4.toInt by omega) (show c3.toInt ≤ 4 * c4.toInt by omega) (show c1.toInt = zp_ct (zp_mk 2 σ0) c4.toInt.toNat by rw [show c4.toInt.toNat = 0 by omega]; show _ = (0 : Int); omega) (show c2.toInt = zp_ct (zp_mk 3 σ0) c4.toInt.toNat by rw [show c4.toInt.toNat = 0 by omega]; show _ = (0 : Int); omega) (show c3.toInt = zp_g (zp_u (zy_A σ0) (σ0.1 0 1).toInt) (zp_m c4.toInt (σ0.1 0 1).toInt) 4 by rw [show c4.toInt = 0 by omega, zp_m0 (by omega), zp_g0]; omega) (by omega))
