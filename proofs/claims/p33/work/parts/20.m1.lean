def m_M_readLine : zc_ms := [(0, some 8), (0, some 9), (0, some 10), (0, some 11), (0, some 12), (0, some 13), (0, some 21), (11, none), (12, none), (13, none)]
set_option maxHeartbeats 4000000 in
set_option maxRecDepth 100000 in
theorem c_M_readLine (K : zc_K) (hi : zc_inj shM K.2.2.2.1) (σ0 : zc_S)  (hO0 : zc_O okM σ0) (hx0 : (σ0.1 0 8).toInt = 0) (hN : zm_N σ0) (hK : zw_K σ0) : zc_M shM K yX9_readLine cX9_readLine 4 none (zrm 3 69) σ0 [.ref (zk K 0)] (zc_N (fun σ9 => zc_O okM σ9 ∧ zc_Ag m_M_readLine σ0 σ9 ∧ (1 ≤ (σ9.1 0 8).toInt ∨ (σ9.1 0 21).toInt = (σ0.1 0 21).toInt + 1) ∧ (σ0.1 0 21).toInt ≤ (σ9.1 0 21).toInt ∧ zm_N σ9 ∧ zw_M σ9 = (zw_one (zw_bM σ0) ((zw_M σ0), (zw_LM σ0))).1 ∧ zw_LM σ9 = (zw_one (zw_bM σ0) ((zw_M σ0), (zw_LM σ0))).2 ∧ zw_iw (σ9.1 0 8).toInt (σ9.1 0 9).toInt (σ9.1 0 11).toInt ∧ ((σ9.1 0 21).toInt = (σ0.1 0 21).toInt + 1 ∨ ((σ9.1 0 21).toInt = (σ0.1 0 21).toInt ∧ ¬ (σ9.1 0 8).toInt = 0)))) := by
  refine zc_start RX9 hi pfX9_readLine rfl (Nat.le_of_ble_eq_true rfl) ?_
  intro G hG
  have hB := hG.1
  have hA0 : zc_Ag m_M_readLine σ0 σ0 := zc_Ag.rf
  show zc_V 4 K G (zc_D shM K G σ0) [(0, .ref (zk K 0))] 0 []
  have bw0_8 : 0 ≤ (σ0.1 0 8).toInt ∧ (σ0.1 0 8).toInt ≤ 5 := ⟨(hO0 0 8).1, (hO0 0 8).2.1⟩
  have bw0_9 : 0 ≤ (σ0.1 0 9).toInt ∧ (σ0.1 0 9).toInt ≤ 120 := ⟨(hO0 0 9).1, (hO0 0 9).2.1⟩
  have bw0_11 : 0 ≤ (σ0.1 0 11).toInt ∧ (σ0.1 0 11).toInt ≤ 120 := ⟨(hO0 0 11).1, (hO0 0 11).2.1⟩
  have bw0_12 : 0 ≤ (σ0.1 0 12).toInt ∧ (σ0.1 0 12).toInt ≤ 3 := ⟨(hO0 0 12).1, (hO0 0 12).2.1⟩
  have bw0_21 : 0 ≤ (σ0.1 0 21).toInt ∧ (σ0.1 0 21).toInt ≤ 6 := ⟨(hO0 0 21).1, (hO0 0 21).2.1⟩
  refine zr_aload_n hB 0 dX9_readLine_0 rfl ?_
  refine zr_callvi hG (rest := []) 0 dX9_readLine_1 wm_X9_164 rfl rfl (c_M_nameHere K hG.2.2.2.2.2.1 σ0  hO0 hK) rfl rfl (Nat.le_of_ble_eq_true rfl) ⟨Nat.le_of_ble_eq_true rfl, Nat.le_of_ble_eq_true rfl, rfl, rfl⟩ (fun r1 σ2 h3 => ?_)
  obtain ⟨rfl, r1a, r1b, r1h, g4⟩ := h3
  have hk : zw_kn (zw_bM σ0) (zw_M σ0) = r1.toInt := g4.symm
  refine zr_istore_n hB dX9_readLine_4 rfl (by decide) (lv' := [(1, .int r1), (0, .ref (zk K 0))]) rfl ?_
  refine zr_iload_n hB 0 dX9_readLine_5 rfl ?_
  refine zr_bipush hB dX9_readLine_6 rfl (fun c5 ec5 => ?_)
  have L53_9 : ∀ (σ6 : zc_S) , zc_O okM σ6 → zc_Ag m_M_readLine σ0 σ6 → zm_N σ6 → ((1 ≤ (σ6.1 0 8).toInt ∨ (0 ≤ r1.toInt ∧ (σ6.1 0 21).toInt ≤ 5))) → (σ6.1 0 21).toInt = (σ0.1 0 21).toInt → zw_M σ6 = (zw_hd r1.toInt (σ0.1 0 21).toInt, (zw_M σ0).2) → zw_LM σ6 = (zw_LM σ0) → zw_iw (σ6.1 0 8).toInt (σ6.1 0 9).toInt (σ6.1 0 11).toInt → zc_V 4 K G (zc_D shM K G σ6) [(0, .ref (zk K 0)), (1, .int r1)] 53 [] := by
    intro σ6 hO6 hA6 hc10 e7 e8 hd hl hI3
    refine zr_aload_n hB 0 dX9_readLine_53 rfl ?_
    have hd1 : (σ6.1 0 8).toInt = zw_hd r1.toInt (σ0.1 0 21).toInt := congrArg Prod.fst hd
    refine zr_geti' hG 0 8 (σ6.1 0 8) dX9_readLine_54 rfl wf_X9_128 rfl rfl ?_
    have b11 : 0 ≤ (σ6.1 0 8).toInt ∧ (σ6.1 0 8).toInt ≤ 5 := ⟨(hO6 0 8).1, (hO6 0 8).2.1⟩
    refine zr_if_le hB dX9_readLine_57 (tgt := 61) rfl (fun c12 => ?_) (fun c12 => ?_)
    · refine zr_aload_n hB 0 dX9_readLine_61 rfl ?_
      refine zr_callvn hG (rest := []) 0 dX9_readLine_62 wm_X9_161 rfl rfl (c_M_next K hG.2.2.2.2.2.1 σ6  hO6 hI3) rfl rfl (Nat.le_of_ble_eq_true rfl) ⟨Nat.le_of_ble_eq_true rfl, Nat.le_of_ble_eq_true rfl, rfl, rfl⟩ (fun σ14 h15 => ?_)
      obtain ⟨hO16, hAc17, g18, g19, g20, g21⟩ := h15
      have hA22 := zc_Ag.tr hA6 hAc17 rfl
      have q23 : (σ14.1 0 21).toInt = (σ6.1 0 21).toInt := congrArg Int32.toInt (hAc17 0 21 rfl).1
      have hc24 : zm_N σ14 := zm_N.ag hc10 hAc17 rfl (fun _ => rfl) (fun _ => rfl)
      have h0 : zw_hd r1.toInt (σ0.1 0 21).toInt = 0 := by omega
      have hp0 : zw_M σ6 = (zw_M σ0) := by rw [hd, h0]; exact (zw_M_0 (show (σ0.1 0 8).toInt = 0 by omega)).symm
      have q1 : zw_M σ14 = zw_adv (zw_bM σ0) (zw_M σ0) := by rw [g19, zw_bM.ag hA6 rfl (fun _ => rfl), hp0]
      have hL25 : zw_LM σ14 = (zw_LM σ0) := (zw_LM_ag hAc17 rfl (fun _ => rfl) (fun _ => rfl) (fun _ => rfl)).trans hl
      refine zr_aload_n hB 0 dX9_readLine_65 rfl ?_
      refine zr_iload_n hB 1 dX9_readLine_66 rfl ?_
      refine zr_iconst hB dX9_readLine_67 rfl (fun c26 ec26 => ?_)
      refine zr_icmp_ne hB dX9_readLine_68 (tgt := 75) rfl (fun c27 => ?_) (fun c27 => ?_)
      · refine zr_iconst hB dX9_readLine_75 rfl (fun c28 ec28 => ?_)
        refine zr_aload_n hB 0 dX9_readLine_76 rfl ?_
        refine zr_getr hG 0 16 dX9_readLine_77 rfl wf_X9_29 rfl ?_
        refine zr_iload_n hB 1 dX9_readLine_80 rfl ?_
        refine zr_iald hG 7 dX9_readLine_81 rfl (by omega) (by omega) (fun x29 ex29 => ?_)
        have bx29 : 0 ≤ x29.toInt ∧ x29.toInt ≤ 30 := by rw [ex29]; exact ⟨(hO16 7 _).1, (hO16 7 _).2.1⟩
        have hhi : x29.toInt = zw_hi r1.toInt := by rw [ex29, (hA22 7 _ rfl).1, hK.2 r1.toInt.toNat (by omega), show ((r1.toInt.toNat : Nat) : Int) = r1.toInt by omega]
        have hlo : c28.toInt = zw_lo r1.toInt := by unfold zw_lo; split <;> omega
        refine zr_callvi hG (rest := []) 0 dX9_readLine_82 wm_X9_171 rfl rfl (c_M_number K hG.2.2.2.2.2.1 σ14 c28 x29 hO16 g20 g21) rfl rfl (Nat.le_of_ble_eq_true rfl) ⟨Nat.le_of_ble_eq_true rfl, Nat.le_of_ble_eq_true rfl, rfl, rfl⟩ (fun r30 σ31 h32 => ?_)
        obtain ⟨hO33, hAc34, g35, g36, g37, g38, g39, g40⟩ := h32
        have hA41 := zc_Ag.tr hA22 hAc34 rfl
        have q42 : (σ31.1 0 21).toInt = (σ14.1 0 21).toInt := congrArg Int32.toInt (hAc34 0 21 rfl).1
        have hc43 : zm_N σ31 := zm_N.ag hc24 hAc34 rfl (fun _ => rfl) (fun _ => rfl)
        have q2 : zw_M σ31 = zw_adv (zw_bM σ0) (zw_1 (zw_bM σ0) r1.toInt (zw_M σ0)) := by rw [g37, zw_bM.ag hA22 rfl (fun _ => rfl), q1, hlo, hhi]; rfl
        have w1 : zw_wv (σ31.1 0 8).toInt r30.toInt (zw_v1 (zw_bM σ0) (zw_M σ0)) := by have h9 := g38; rw [zw_bM.ag hA22 rfl (fun _ => rfl), q1] at h9; exact h9
        have hL44 : zw_LM σ31 = (zw_LM σ0) := (zw_LM_ag hAc34 rfl (fun _ => rfl) (fun _ => rfl) (fun _ => rfl)).trans hL25
        refine zr_istore_n hB dX9_readLine_85 rfl (by decide) (lv' := [(2, .int r30), (0, .ref (zk K 0)), (1, .int r1)]) rfl ?_
        refine zr_iload_n hB 2 dX9_readLine_86 rfl ?_
        refine zr_iconst hB dX9_readLine_87 rfl (fun c45 ec45 => ?_)
        refine zr_icmp_ne hB dX9_readLine_88 (tgt := 101) rfl (fun c46 => ?_) (fun c46 => ?_)
        · refine zr_iconst hB dX9_readLine_101 rfl (fun c47 ec47 => ?_)
          refine zr_istore_n hB dX9_readLine_102 rfl (by decide) (lv' := [(3, .int c47), (2, .int r30), (0, .ref (zk K 0)), (1, .int r1)]) rfl ?_
          refine zr_aload_n hB 2 dX9_readLine_103 rfl ?_
          refine zr_geti' hG 0 8 (σ31.1 0 8) dX9_readLine_104 rfl wf_X9_128 rfl rfl ?_
          have b48 : 0 ≤ (σ31.1 0 8).toInt ∧ (σ31.1 0 8).toInt ≤ 5 := ⟨(hO33 0 8).1, (hO33 0 8).2.1⟩
          have L123_52 : ∀ (σ49 : zc_S) , zc_O okM σ49 → zc_Ag m_M_readLine σ0 σ49 → zm_N σ49 → ((1 ≤ (σ49.1 0 8).toInt ∨ r1.toInt = 2 ∨ 1 ≤ r30.toInt)) → (σ49.1 0 21).toInt = (σ0.1 0 21).toInt → zw_M σ49 = zw_ln (zw_bM σ0) r1.toInt (zw_M σ0) → zw_LM σ49 = (zw_LM σ0) → zw_wv (σ49.1 0 8).toInt r30.toInt (zw_v1 (zw_bM σ0) (zw_M σ0)) → zw_wv (σ49.1 0 8).toInt c47.toInt (zw_v2 (zw_bM σ0) r1.toInt (zw_1 (zw_bM σ0) r1.toInt (zw_M σ0))) → zw_iw (σ49.1 0 8).toInt (σ49.1 0 9).toInt (σ49.1 0 11).toInt → zc_V 4 K G (zc_D shM K G σ49) [(0, .ref (zk K 0)), (1, .int r1), (2, .int r30), (3, .int c47)] 123 [] := by
            intro σ49 hO49 hA49 hc53 e50 e51 hln hl3 hw1 hw2 hI5
            refine zr_aload_n hB 0 dX9_readLine_123 rfl ?_
            refine zr_geti' hG 0 8 (σ49.1 0 8) dX9_readLine_124 rfl wf_X9_128 rfl rfl ?_
            have b54 : 0 ≤ (σ49.1 0 8).toInt ∧ (σ49.1 0 8).toInt ≤ 5 := ⟨(hO49 0 8).1, (hO49 0 8).2.1⟩
            refine zr_if_ne hB dX9_readLine_127 (tgt := 174) rfl (fun c55 => ?_) (fun c55 => ?_)
            · exact zr_vret hG dX9_readLine_174 ⟨hO49, hA49, (show (1 ≤ (σ49.1 0 8).toInt ∨ (σ49.1 0 21).toInt = (σ0.1 0 21).toInt + 1) by omega), (show (σ0.1 0 21).toInt ≤ (σ49.1 0 21).toInt by omega), hc53, (by rw [(zw_one_f (b := (zw_bM σ0)) (P := (zw_M σ0)) (L := (zw_LM σ0)) hk h0 (by rw [← hln]; exact (show ¬ (σ49.1 0 8).toInt = 0 by omega)))]; exact hln), (by rw [(zw_one_f (b := (zw_bM σ0)) (P := (zw_M σ0)) (L := (zw_LM σ0)) hk h0 (by rw [← hln]; exact (show ¬ (σ49.1 0 8).toInt = 0 by omega)))]; exact hl3), hI5, (show ((σ49.1 0 21).toInt = (σ0.1 0 21).toInt + 1 ∨ ((σ49.1 0 21).toInt = (σ0.1 0 21).toInt ∧ ¬ (σ49.1 0 8).toInt = 0)) by omega)⟩
            refine zr_aload_n hB 0 dX9_readLine_130 rfl ?_
            refine zr_getr hG 0 22 dX9_readLine_131 rfl wf_X9_41 rfl ?_
            refine zr_aload_n hB 0 dX9_readLine_134 rfl ?_
            refine zr_geti' hG 0 21 (σ49.1 0 21) dX9_readLine_135 rfl wf_X9_168 rfl rfl ?_
            have b56 : 0 ≤ (σ49.1 0 21).toInt ∧ (σ49.1 0 21).toInt ≤ 6 := ⟨(hO49 0 21).1, (hO49 0 21).2.1⟩
            refine zr_iload_n hB 1 dX9_readLine_138 rfl ?_
            refine zr_iast hG 11 dX9_readLine_139 rfl (by omega) (by omega)  ?_
            have hOw57 := zc_O.u hO49 11 (σ49.1 0 21).toInt.toNat (v := r1) (show 0 ≤ r1.toInt by omega) (show r1.toInt ≤ 4 by omega) (Or.inr (show 0 ≤ r1.toInt by omega))
            have hAw57 := zc_Ag.u hA49 11 (σ49.1 0 21).toInt.toNat r1 rfl
            refine zr_aload_n hB 0 dX9_readLine_140 rfl ?_
            refine zr_getr hG 0 23 dX9_readLine_141 rfl wf_X9_44 rfl ?_
            refine zr_aload_n hB 0 dX9_readLine_144 rfl ?_
            refine zr_geti' hG 0 21 (σ49.1 0 21) dX9_readLine_145 rfl wf_X9_168 rfl rfl ?_
            refine zr_iload_n hB 2 dX9_readLine_148 rfl ?_
            refine zr_iast hG 12 dX9_readLine_149 rfl (by omega) (by omega)  ?_
            have hOw58 := zc_O.u hOw57 12 (σ49.1 0 21).toInt.toNat (v := r30) (zn_lo _) (zn_hi _) (Or.inr (zn_lo _))
            have hAw58 := zc_Ag.u hAw57 12 (σ49.1 0 21).toInt.toNat r30 rfl
            refine zr_aload_n hB 0 dX9_readLine_150 rfl ?_
            refine zr_getr hG 0 24 dX9_readLine_151 rfl wf_X9_47 rfl ?_
            refine zr_aload_n hB 0 dX9_readLine_154 rfl ?_
            refine zr_geti' hG 0 21 (σ49.1 0 21) dX9_readLine_155 rfl wf_X9_168 rfl rfl ?_
            refine zr_iload_n hB 3 dX9_readLine_158 rfl ?_
            refine zr_iast hG 13 dX9_readLine_159 rfl (by omega) (by omega)  ?_
            have hOw59 := zc_O.u hOw58 13 (σ49.1 0 21).toInt.toNat (v := c47) (zn_lo _) (zn_hi _) (Or.inr (zn_lo _))
            have hAw59 := zc_Ag.u hAw58 13 (σ49.1 0 21).toInt.toNat c47 rfl
            refine zr_aload_n hB 0 dX9_readLine_160 rfl ?_
            refine zr_dup hB dX9_readLine_161 rfl ?_
            refine zr_geti' hG 0 21 (σ49.1 0 21) dX9_readLine_162 rfl wf_X9_168 rfl rfl ?_
            refine zr_iconst hB dX9_readLine_165 rfl (fun c60 ec60 => ?_)
            refine zr_iadd hB dX9_readLine_166 (by omega) (by omega) (fun x61 ex61 => ?_)
            refine zr_puti hG 0 21 dX9_readLine_167 rfl wp_X9_168 rfl ?_
            have hOw62 := zc_O.u hOw59 0 21 (v := x61) (show 0 ≤ x61.toInt by omega) (show x61.toInt ≤ 6 by omega) (Or.inr (show 0 ≤ x61.toInt by omega))
            have hAw62 := zc_Ag.u hAw59 0 21 x61 rfl
            have hc63 : zm_N (zc_u (zc_u (zc_u (zc_u σ49 11 (σ49.1 0 21).toInt.toNat r1) 12 (σ49.1 0 21).toInt.toNat r30) 13 (σ49.1 0 21).toInt.toNat c47) 0 21 x61) := zm_N_add hc53 (by omega) (by omega) (by omega)
            refine zr_aload_n hB 0 dX9_readLine_170 rfl ?_
            have hput : zw_LM (zc_u (zc_u (zc_u (zc_u σ49 11 (σ49.1 0 21).toInt.toNat r1) 12 (σ49.1 0 21).toInt.toNat r30) 13 (σ49.1 0 21).toInt.toNat c47) 0 21 x61) = zw_put (zw_LM σ0) r1.toInt r30.toInt c47.toInt := by rw [← hl3]; exact zw_LM_put (by omega) (by omega)
            have hm5 : zw_M (zc_u (zc_u (zc_u (zc_u σ49 11 (σ49.1 0 21).toInt.toNat r1) 12 (σ49.1 0 21).toInt.toNat r30) 13 (σ49.1 0 21).toInt.toNat c47) 0 21 x61) = zw_ln (zw_bM σ0) r1.toInt (zw_M σ0) := hln
            refine zr_callvn hG (rest := []) 0 dX9_readLine_171 wm_X9_161 rfl rfl (c_M_next K hG.2.2.2.2.2.1 (zc_u (zc_u (zc_u (zc_u σ49 11 (σ49.1 0 21).toInt.toNat r1) 12 (σ49.1 0 21).toInt.toNat r30) 13 (σ49.1 0 21).toInt.toNat c47) 0 21 x61)  hOw62 (Or.inl (show (σ49.1 0 8).toInt = 0 by omega))) rfl rfl (Nat.le_of_ble_eq_true rfl) ⟨Nat.le_of_ble_eq_true rfl, Nat.le_of_ble_eq_true rfl, rfl, rfl⟩ (fun σ65 h66 => ?_)
            obtain ⟨hO67, hAc68, g69, g70, g71, g72⟩ := h66
            have hA73 := zc_Ag.tr hAw62 hAc68 rfl
            have q74 : (σ65.1 0 21).toInt = x61.toInt := congrArg Int32.toInt (hAc68 0 21 rfl).1
            have hc75 : zm_N σ65 := zm_N.ag hc63 hAc68 rfl (fun _ => rfl) (fun _ => rfl)
            have g69' : ((σ49.1 0 8).toInt = 0 ∨ 1 ≤ (σ65.1 0 8).toInt) := g69
            have g72' : zw_iw (σ65.1 0 8).toInt (σ65.1 0 9).toInt (σ65.1 0 11).toInt := g72
            have q5 : zw_M σ65 = zw_adv (zw_bM σ0) (zw_ln (zw_bM σ0) r1.toInt (zw_M σ0)) := by rw [g70, zw_bM.ag hAw62 rfl (fun _ => rfl), hm5]
            have hL9 : zw_LM σ65 = zw_put (zw_LM σ0) r1.toInt r30.toInt c47.toInt := (zw_LM_ag hAc68 rfl (fun _ => rfl) (fun _ => rfl) (fun _ => rfl)).trans hput
            exact zr_vret hG dX9_readLine_174 ⟨hO67, hA73, (show (1 ≤ (σ65.1 0 8).toInt ∨ (σ65.1 0 21).toInt = (σ0.1 0 21).toInt + 1) by omega), (show (σ0.1 0 21).toInt ≤ (σ65.1 0 21).toInt by omega), hc75, (by rw [(zw_one_y (b := (zw_bM σ0)) (P := (zw_M σ0)) (L := (zw_LM σ0)) hk h0 (by rw [← hln]; exact (show (σ49.1 0 8).toInt = 0 by omega)))]; exact q5), (by rw [(zw_one_y (b := (zw_bM σ0)) (P := (zw_M σ0)) (L := (zw_LM σ0)) hk h0 (by rw [← hln]; exact (show (σ49.1 0 8).toInt = 0 by omega))), hL9, hw1.get (show (σ49.1 0 8).toInt = 0 by omega), hw2.get (show (σ49.1 0 8).toInt = 0 by omega)]), g72, (show ((σ65.1 0 21).toInt = (σ0.1 0 21).toInt + 1 ∨ ((σ65.1 0 21).toInt = (σ0.1 0 21).toInt ∧ ¬ (σ65.1 0 8).toInt = 0)) by omega)⟩
          refine zr_if_ne hB dX9_readLine_107 (tgt := 123) rfl (fun c76 => ?_) (fun c76 => ?_)
          · have b77 : 0 ≤ (σ31.1 0 21).toInt ∧ (σ31.1 0 21).toInt ≤ 6 := ⟨(hO33 0 21).1, (hO33 0 21).2.1⟩
            have b78 : 0 ≤ (σ31.1 0 9).toInt ∧ (σ31.1 0 9).toInt ≤ 120 := ⟨(hO33 0 9).1, (hO33 0 9).2.1⟩
            have b79 : 0 ≤ (σ31.1 0 11).toInt ∧ (σ31.1 0 11).toInt ≤ 120 := ⟨(hO33 0 11).1, (hO33 0 11).2.1⟩
            exact zc_sub [2, 3, 1, 0] rfl (L123_52 σ31 hO33 hA41 hc43 (show (1 ≤ (σ31.1 0 8).toInt ∨ r1.toInt = 2 ∨ 1 ≤ r30.toInt) by omega) (show (σ31.1 0 21).toInt = (σ0.1 0 21).toInt by omega) (show zw_M σ31 = zw_ln (zw_bM σ0) r1.toInt (zw_M σ0) by rw [zw_lnn (by omega), ← q2]; exact (zw_chk_n (Or.inl (show ¬ (σ31.1 0 8).toInt = 0 by omega))).symm) (show zw_LM σ31 = (zw_LM σ0) by exact hL44) (show zw_wv (σ31.1 0 8).toInt r30.toInt (zw_v1 (zw_bM σ0) (zw_M σ0)) by exact w1) (show zw_wv (σ31.1 0 8).toInt c47.toInt (zw_v2 (zw_bM σ0) r1.toInt (zw_1 (zw_bM σ0) r1.toInt (zw_M σ0))) by unfold zw_v2; rw [if_neg (by omega)]; exact Or.inr (by omega)) (show zw_iw (σ31.1 0 8).toInt (σ31.1 0 9).toInt (σ31.1 0 11).toInt by exact g40))
          refine zr_aload_n hB 2 dX9_readLine_110 rfl ?_
          refine zr_geti' hG 0 12 (σ31.1 0 12) dX9_readLine_111 rfl wf_X9_146 rfl rfl ?_
          have b80 : 0 ≤ (σ31.1 0 12).toInt ∧ (σ31.1 0 12).toInt ≤ 3 := ⟨(hO33 0 12).1, (hO33 0 12).2.1⟩
          refine zr_iconst hB dX9_readLine_114 rfl (fun c81 ec81 => ?_)
          refine zr_icmp_eq hB dX9_readLine_115 (tgt := 123) rfl (fun c82 => ?_) (fun c82 => ?_)
          · have b83 : 0 ≤ (σ31.1 0 21).toInt ∧ (σ31.1 0 21).toInt ≤ 6 := ⟨(hO33 0 21).1, (hO33 0 21).2.1⟩
            have b84 : 0 ≤ (σ31.1 0 9).toInt ∧ (σ31.1 0 9).toInt ≤ 120 := ⟨(hO33 0 9).1, (hO33 0 9).2.1⟩
            have b85 : 0 ≤ (σ31.1 0 11).toInt ∧ (σ31.1 0 11).toInt ≤ 120 := ⟨(hO33 0 11).1, (hO33 0 11).2.1⟩
            exact zc_sub [2, 3, 1, 0] rfl (L123_52 σ31 hO33 hA41 hc43 (show (1 ≤ (σ31.1 0 8).toInt ∨ r1.toInt = 2 ∨ 1 ≤ r30.toInt) by omega) (show (σ31.1 0 21).toInt = (σ0.1 0 21).toInt by omega) (show zw_M σ31 = zw_ln (zw_bM σ0) r1.toInt (zw_M σ0) by rw [zw_lnn (by omega), ← q2]; exact (zw_chk_n (Or.inr (show (σ31.1 0 12).toInt = 3 by omega))).symm) (show zw_LM σ31 = (zw_LM σ0) by exact hL44) (show zw_wv (σ31.1 0 8).toInt r30.toInt (zw_v1 (zw_bM σ0) (zw_M σ0)) by exact w1) (show zw_wv (σ31.1 0 8).toInt c47.toInt (zw_v2 (zw_bM σ0) r1.toInt (zw_1 (zw_bM σ0) r1.toInt (zw_M σ0))) by unfold zw_v2; rw [if_neg (by omega)]; exact Or.inr (by omega)) (show zw_iw (σ31.1 0 8).toInt (σ31.1 0 9).toInt (σ31.1 0 11).toInt by exact g40))
          refine zr_aload_n hB 2 dX9_readLine_118 rfl ?_
          refine zr_iconst hB dX9_readLine_119 rfl (fun c86 ec86 => ?_)
          refine zr_callvn hG (rest := []) 0 dX9_readLine_120 wm_X9_157 rfl rfl (c_M_fails K hG.2.2.2.2.2.1 σ31 c86 hO33 (by omega) (by omega)) rfl rfl (Nat.le_of_ble_eq_true rfl) ⟨Nat.le_of_ble_eq_true rfl, Nat.le_of_ble_eq_true rfl, rfl, rfl⟩ (fun σ88 h89 => ?_)
          obtain ⟨hO90, hAc91, g92, g93, g94⟩ := h89
          have hA95 := zc_Ag.tr hA41 hAc91 rfl
          have q96 : (σ88.1 0 21).toInt = (σ31.1 0 21).toInt := congrArg Int32.toInt (hAc91 0 21 rfl).1
          have q97 : (σ88.1 0 12).toInt = (σ31.1 0 12).toInt := congrArg Int32.toInt (hAc91 0 12 rfl).1
          have hc98 : zm_N σ88 := zm_N.ag hc43 hAc91 rfl (fun _ => rfl) (fun _ => rfl)
          have h11 : (σ88.1 0 11).toInt = (σ31.1 0 11).toInt := by rw [(hAc91 0 11 rfl).1]
          have b99 : 0 ≤ (σ88.1 0 8).toInt ∧ (σ88.1 0 8).toInt ≤ 5 := ⟨(hO90 0 8).1, (hO90 0 8).2.1⟩
          have b100 : 0 ≤ (σ88.1 0 21).toInt ∧ (σ88.1 0 21).toInt ≤ 6 := ⟨(hO90 0 21).1, (hO90 0 21).2.1⟩
          have b101 : 0 ≤ (σ88.1 0 9).toInt ∧ (σ88.1 0 9).toInt ≤ 120 := ⟨(hO90 0 9).1, (hO90 0 9).2.1⟩
          have b102 : 0 ≤ (σ88.1 0 11).toInt ∧ (σ88.1 0 11).toInt ≤ 120 := ⟨(hO90 0 11).1, (hO90 0 11).2.1⟩
          exact zc_sub [2, 3, 1, 0] rfl (L123_52 σ88 hO90 hA95 hc98 (show (1 ≤ (σ88.1 0 8).toInt ∨ r1.toInt = 2 ∨ 1 ≤ r30.toInt) by omega) (show (σ88.1 0 21).toInt = (σ0.1 0 21).toInt by omega) (show zw_M σ88 = zw_ln (zw_bM σ0) r1.toInt (zw_M σ0) by rw [zw_lnn (by omega), ← q2, zw_chk_y (show (σ31.1 0 8).toInt = 0 by omega) (show ¬ (σ31.1 0 12).toInt = 3 by omega), zw_fl g94 (fun h9 => h9 (show (σ31.1 0 8).toInt = 0 by omega)), show c86.toInt = 2 by omega]) (show zw_LM σ88 = (zw_LM σ0) by exact (zw_LM_ag hAc91 rfl (fun _ => rfl) (fun _ => rfl) (fun _ => rfl)).trans hL44) (show zw_wv (σ88.1 0 8).toInt r30.toInt (zw_v1 (zw_bM σ0) (zw_M σ0)) by exact Or.inl (by omega)) (show zw_wv (σ88.1 0 8).toInt c47.toInt (zw_v2 (zw_bM σ0) r1.toInt (zw_1 (zw_bM σ0) r1.toInt (zw_M σ0))) by exact Or.inl (by omega)) (show zw_iw (σ88.1 0 8).toInt (σ88.1 0 9).toInt (σ88.1 0 11).toInt by unfold zw_iw; omega))
        refine zr_aload_n hB 1 dX9_readLine_91 rfl ?_
        refine zr_iconst hB dX9_readLine_92 rfl (fun c103 ec103 => ?_)
        refine zr_bipush hB dX9_readLine_93 rfl (fun c104 ec104 => ?_)
        refine zr_callvi hG (rest := []) 0 dX9_readLine_95 wm_X9_171 rfl rfl (c_M_number K hG.2.2.2.2.2.1 σ31 c103 c104 hO33 g39 g40) rfl rfl (Nat.le_of_ble_eq_true rfl) ⟨Nat.le_of_ble_eq_true rfl, Nat.le_of_ble_eq_true rfl, rfl, rfl⟩ (fun r105 σ106 h107 => ?_)
        obtain ⟨hO108, hAc109, g110, g111, g112, g113, g114, g115⟩ := h107
        have hA116 := zc_Ag.tr hA41 hAc109 rfl
        have q117 : (σ106.1 0 21).toInt = (σ31.1 0 21).toInt := congrArg Int32.toInt (hAc109 0 21 rfl).1
        have hc118 : zm_N σ106 := zm_N.ag hc43 hAc109 rfl (fun _ => rfl) (fun _ => rfl)
        have q3 : zw_M σ106 = zw_adv (zw_bM σ0) (zw_1 (zw_bM σ0) r1.toInt (zw_1 (zw_bM σ0) r1.toInt (zw_M σ0))) := by rw [g112, zw_bM.ag hA41 rfl (fun _ => rfl), q2, show c103.toInt = zw_lo r1.toInt by unfold zw_lo; rw [if_pos (by omega)]; omega, show c104.toInt = zw_hi r1.toInt by unfold zw_hi; rw [if_neg (by omega), if_neg (by omega), if_pos (by omega)]; omega]; rfl
        have w2 : zw_wv (σ106.1 0 8).toInt r105.toInt (zw_v1 (zw_bM σ0) (zw_1 (zw_bM σ0) r1.toInt (zw_M σ0))) := by have h9 := g113; rw [zw_bM.ag hA41 rfl (fun _ => rfl), q2] at h9; exact h9
        have hL119 : zw_LM σ106 = (zw_LM σ0) := (zw_LM_ag hAc109 rfl (fun _ => rfl) (fun _ => rfl) (fun _ => rfl)).trans hL44
        refine zr_goto hB dX9_readLine_98 (tgt := 102) rfl ?_
        refine zr_istore_n hB dX9_readLine_102 rfl (by decide) (lv' := [(3, .int r105), (2, .int r30), (0, .ref (zk K 0)), (1, .int r1)]) rfl ?_
        refine zr_aload_n hB 2 dX9_readLine_103 rfl ?_
        refine zr_geti' hG 0 8 (σ106.1 0 8) dX9_readLine_104 rfl wf_X9_128 rfl rfl ?_
        have b120 : 0 ≤ (σ106.1 0 8).toInt ∧ (σ106.1 0 8).toInt ≤ 5 := ⟨(hO108 0 8).1, (hO108 0 8).2.1⟩
        have L123_124 : ∀ (σ121 : zc_S) , zc_O okM σ121 → zc_Ag m_M_readLine σ0 σ121 → zm_N σ121 → ((1 ≤ (σ121.1 0 8).toInt ∨ r1.toInt = 2 ∨ 1 ≤ r30.toInt)) → (σ121.1 0 21).toInt = (σ0.1 0 21).toInt → zw_M σ121 = zw_ln (zw_bM σ0) r1.toInt (zw_M σ0) → zw_LM σ121 = (zw_LM σ0) → zw_wv (σ121.1 0 8).toInt r30.toInt (zw_v1 (zw_bM σ0) (zw_M σ0)) → zw_wv (σ121.1 0 8).toInt r105.toInt (zw_v2 (zw_bM σ0) r1.toInt (zw_1 (zw_bM σ0) r1.toInt (zw_M σ0))) → zw_iw (σ121.1 0 8).toInt (σ121.1 0 9).toInt (σ121.1 0 11).toInt → zc_V 4 K G (zc_D shM K G σ121) [(0, .ref (zk K 0)), (1, .int r1), (2, .int r30), (3, .int r105)] 123 [] := by
          intro σ121 hO121 hA121 hc125 e122 e123 hln hl3 hw1 hw2 hI5
          refine zr_aload_n hB 0 dX9_readLine_123 rfl ?_
          refine zr_geti' hG 0 8 (σ121.1 0 8) dX9_readLine_124 rfl wf_X9_128 rfl rfl ?_
          have b126 : 0 ≤ (σ121.1 0 8).toInt ∧ (σ121.1 0 8).toInt ≤ 5 := ⟨(hO121 0 8).1, (hO121 0 8).2.1⟩
          refine zr_if_ne hB dX9_readLine_127 (tgt := 174) rfl (fun c127 => ?_) (fun c127 => ?_)
          · exact zr_vret hG dX9_readLine_174 ⟨hO121, hA121, (show (1 ≤ (σ121.1 0 8).toInt ∨ (σ121.1 0 21).toInt = (σ0.1 0 21).toInt + 1) by omega), (show (σ0.1 0 21).toInt ≤ (σ121.1 0 21).toInt by omega), hc125, (by rw [(zw_one_f (b := (zw_bM σ0)) (P := (zw_M σ0)) (L := (zw_LM σ0)) hk h0 (by rw [← hln]; exact (show ¬ (σ121.1 0 8).toInt = 0 by omega)))]; exact hln), (by rw [(zw_one_f (b := (zw_bM σ0)) (P := (zw_M σ0)) (L := (zw_LM σ0)) hk h0 (by rw [← hln]; exact (show ¬ (σ121.1 0 8).toInt = 0 by omega)))]; exact hl3), hI5, (show ((σ121.1 0 21).toInt = (σ0.1 0 21).toInt + 1 ∨ ((σ121.1 0 21).toInt = (σ0.1 0 21).toInt ∧ ¬ (σ121.1 0 8).toInt = 0)) by omega)⟩
          refine zr_aload_n hB 0 dX9_readLine_130 rfl ?_
          refine zr_getr hG 0 22 dX9_readLine_131 rfl wf_X9_41 rfl ?_
          refine zr_aload_n hB 0 dX9_readLine_134 rfl ?_
          refine zr_geti' hG 0 21 (σ121.1 0 21) dX9_readLine_135 rfl wf_X9_168 rfl rfl ?_
          have b128 : 0 ≤ (σ121.1 0 21).toInt ∧ (σ121.1 0 21).toInt ≤ 6 := ⟨(hO121 0 21).1, (hO121 0 21).2.1⟩
          refine zr_iload_n hB 1 dX9_readLine_138 rfl ?_
          refine zr_iast hG 11 dX9_readLine_139 rfl (by omega) (by omega)  ?_
          have hOw129 := zc_O.u hO121 11 (σ121.1 0 21).toInt.toNat (v := r1) (show 0 ≤ r1.toInt by omega) (show r1.toInt ≤ 4 by omega) (Or.inr (show 0 ≤ r1.toInt by omega))
          have hAw129 := zc_Ag.u hA121 11 (σ121.1 0 21).toInt.toNat r1 rfl
          refine zr_aload_n hB 0 dX9_readLine_140 rfl ?_
          refine zr_getr hG 0 23 dX9_readLine_141 rfl wf_X9_44 rfl ?_
          refine zr_aload_n hB 0 dX9_readLine_144 rfl ?_
          refine zr_geti' hG 0 21 (σ121.1 0 21) dX9_readLine_145 rfl wf_X9_168 rfl rfl ?_
          refine zr_iload_n hB 2 dX9_readLine_148 rfl ?_
          refine zr_iast hG 12 dX9_readLine_149 rfl (by omega) (by omega)  ?_
          have hOw130 := zc_O.u hOw129 12 (σ121.1 0 21).toInt.toNat (v := r30) (zn_lo _) (zn_hi _) (Or.inr (zn_lo _))
          have hAw130 := zc_Ag.u hAw129 12 (σ121.1 0 21).toInt.toNat r30 rfl
          refine zr_aload_n hB 0 dX9_readLine_150 rfl ?_
          refine zr_getr hG 0 24 dX9_readLine_151 rfl wf_X9_47 rfl ?_
          refine zr_aload_n hB 0 dX9_readLine_154 rfl ?_
          refine zr_geti' hG 0 21 (σ121.1 0 21) dX9_readLine_155 rfl wf_X9_168 rfl rfl ?_
          refine zr_iload_n hB 3 dX9_readLine_158 rfl ?_
          refine zr_iast hG 13 dX9_readLine_159 rfl (by omega) (by omega)  ?_
          have hOw131 := zc_O.u hOw130 13 (σ121.1 0 21).toInt.toNat (v := r105) (zn_lo _) (zn_hi _) (Or.inr (zn_lo _))
          have hAw131 := zc_Ag.u hAw130 13 (σ121.1 0 21).toInt.toNat r105 rfl
          refine zr_aload_n hB 0 dX9_readLine_160 rfl ?_
          refine zr_dup hB dX9_readLine_161 rfl ?_
          refine zr_geti' hG 0 21 (σ121.1 0 21) dX9_readLine_162 rfl wf_X9_168 rfl rfl ?_
          refine zr_iconst hB dX9_readLine_165 rfl (fun c132 ec132 => ?_)
          refine zr_iadd hB dX9_readLine_166 (by omega) (by omega) (fun x133 ex133 => ?_)
          refine zr_puti hG 0 21 dX9_readLine_167 rfl wp_X9_168 rfl ?_
          have hOw134 := zc_O.u hOw131 0 21 (v := x133) (show 0 ≤ x133.toInt by omega) (show x133.toInt ≤ 6 by omega) (Or.inr (show 0 ≤ x133.toInt by omega))
          have hAw134 := zc_Ag.u hAw131 0 21 x133 rfl
          have hc135 : zm_N (zc_u (zc_u (zc_u (zc_u σ121 11 (σ121.1 0 21).toInt.toNat r1) 12 (σ121.1 0 21).toInt.toNat r30) 13 (σ121.1 0 21).toInt.toNat r105) 0 21 x133) := zm_N_add hc125 (by omega) (by omega) (by omega)
          refine zr_aload_n hB 0 dX9_readLine_170 rfl ?_
          have hput : zw_LM (zc_u (zc_u (zc_u (zc_u σ121 11 (σ121.1 0 21).toInt.toNat r1) 12 (σ121.1 0 21).toInt.toNat r30) 13 (σ121.1 0 21).toInt.toNat r105) 0 21 x133) = zw_put (zw_LM σ0) r1.toInt r30.toInt r105.toInt := by rw [← hl3]; exact zw_LM_put (by omega) (by omega)
          have hm5 : zw_M (zc_u (zc_u (zc_u (zc_u σ121 11 (σ121.1 0 21).toInt.toNat r1) 12 (σ121.1 0 21).toInt.toNat r30) 13 (σ121.1 0 21).toInt.toNat r105) 0 21 x133) = zw_ln (zw_bM σ0) r1.toInt (zw_M σ0) := hln
          refine zr_callvn hG (rest := []) 0 dX9_readLine_171 wm_X9_161 rfl rfl (c_M_next K hG.2.2.2.2.2.1 (zc_u (zc_u (zc_u (zc_u σ121 11 (σ121.1 0 21).toInt.toNat r1) 12 (σ121.1 0 21).toInt.toNat r30) 13 (σ121.1 0 21).toInt.toNat r105) 0 21 x133)  hOw134 (Or.inl (show (σ121.1 0 8).toInt = 0 by omega))) rfl rfl (Nat.le_of_ble_eq_true rfl) ⟨Nat.le_of_ble_eq_true rfl, Nat.le_of_ble_eq_true rfl, rfl, rfl⟩ (fun σ137 h138 => ?_)
          obtain ⟨hO139, hAc140, g141, g142, g143, g144⟩ := h138
          have hA145 := zc_Ag.tr hAw134 hAc140 rfl
          have q146 : (σ137.1 0 21).toInt = x133.toInt := congrArg Int32.toInt (hAc140 0 21 rfl).1
          have hc147 : zm_N σ137 := zm_N.ag hc135 hAc140 rfl (fun _ => rfl) (fun _ => rfl)
          have g141' : ((σ121.1 0 8).toInt = 0 ∨ 1 ≤ (σ137.1 0 8).toInt) := g141
          have g144' : zw_iw (σ137.1 0 8).toInt (σ137.1 0 9).toInt (σ137.1 0 11).toInt := g144
          have q5 : zw_M σ137 = zw_adv (zw_bM σ0) (zw_ln (zw_bM σ0) r1.toInt (zw_M σ0)) := by rw [g142, zw_bM.ag hAw134 rfl (fun _ => rfl), hm5]
          have hL9 : zw_LM σ137 = zw_put (zw_LM σ0) r1.toInt r30.toInt r105.toInt := (zw_LM_ag hAc140 rfl (fun _ => rfl) (fun _ => rfl) (fun _ => rfl)).trans hput
          exact zr_vret hG dX9_readLine_174 ⟨hO139, hA145, (show (1 ≤ (σ137.1 0 8).toInt ∨ (σ137.1 0 21).toInt = (σ0.1 0 21).toInt + 1) by omega), (show (σ0.1 0 21).toInt ≤ (σ137.1 0 21).toInt by omega), hc147, (by rw [(zw_one_y (b := (zw_bM σ0)) (P := (zw_M σ0)) (L := (zw_LM σ0)) hk h0 (by rw [← hln]; exact (show (σ121.1 0 8).toInt = 0 by omega)))]; exact q5), (by rw [(zw_one_y (b := (zw_bM σ0)) (P := (zw_M σ0)) (L := (zw_LM σ0)) hk h0 (by rw [← hln]; exact (show (σ121.1 0 8).toInt = 0 by omega))), hL9, hw1.get (show (σ121.1 0 8).toInt = 0 by omega), hw2.get (show (σ121.1 0 8).toInt = 0 by omega)]), g144, (show ((σ137.1 0 21).toInt = (σ0.1 0 21).toInt + 1 ∨ ((σ137.1 0 21).toInt = (σ0.1 0 21).toInt ∧ ¬ (σ137.1 0 8).toInt = 0)) by omega)⟩
        refine zr_if_ne hB dX9_readLine_107 (tgt := 123) rfl (fun c148 => ?_) (fun c148 => ?_)
        · have b149 : 0 ≤ (σ106.1 0 21).toInt ∧ (σ106.1 0 21).toInt ≤ 6 := ⟨(hO108 0 21).1, (hO108 0 21).2.1⟩
          have b150 : 0 ≤ (σ106.1 0 9).toInt ∧ (σ106.1 0 9).toInt ≤ 120 := ⟨(hO108 0 9).1, (hO108 0 9).2.1⟩
          have b151 : 0 ≤ (σ106.1 0 11).toInt ∧ (σ106.1 0 11).toInt ≤ 120 := ⟨(hO108 0 11).1, (hO108 0 11).2.1⟩
          exact zc_sub [2, 3, 1, 0] rfl (L123_124 σ106 hO108 hA116 hc118 (show (1 ≤ (σ106.1 0 8).toInt ∨ r1.toInt = 2 ∨ 1 ≤ r30.toInt) by omega) (show (σ106.1 0 21).toInt = (σ0.1 0 21).toInt by omega) (show zw_M σ106 = zw_ln (zw_bM σ0) r1.toInt (zw_M σ0) by rw [zw_ln2 (by omega), ← q3]; exact (zw_chk_n (Or.inl (show ¬ (σ106.1 0 8).toInt = 0 by omega))).symm) (show zw_LM σ106 = (zw_LM σ0) by exact hL119) (show zw_wv (σ106.1 0 8).toInt r30.toInt (zw_v1 (zw_bM σ0) (zw_M σ0)) by exact w1.mono g111) (show zw_wv (σ106.1 0 8).toInt r105.toInt (zw_v2 (zw_bM σ0) r1.toInt (zw_1 (zw_bM σ0) r1.toInt (zw_M σ0))) by unfold zw_v2; rw [if_pos (by omega)]; exact w2) (show zw_iw (σ106.1 0 8).toInt (σ106.1 0 9).toInt (σ106.1 0 11).toInt by exact g115))
        refine zr_aload_n hB 2 dX9_readLine_110 rfl ?_
        refine zr_geti' hG 0 12 (σ106.1 0 12) dX9_readLine_111 rfl wf_X9_146 rfl rfl ?_
        have b152 : 0 ≤ (σ106.1 0 12).toInt ∧ (σ106.1 0 12).toInt ≤ 3 := ⟨(hO108 0 12).1, (hO108 0 12).2.1⟩
        refine zr_iconst hB dX9_readLine_114 rfl (fun c153 ec153 => ?_)
        refine zr_icmp_eq hB dX9_readLine_115 (tgt := 123) rfl (fun c154 => ?_) (fun c154 => ?_)
        · have b155 : 0 ≤ (σ106.1 0 21).toInt ∧ (σ106.1 0 21).toInt ≤ 6 := ⟨(hO108 0 21).1, (hO108 0 21).2.1⟩
          have b156 : 0 ≤ (σ106.1 0 9).toInt ∧ (σ106.1 0 9).toInt ≤ 120 := ⟨(hO108 0 9).1, (hO108 0 9).2.1⟩
          have b157 : 0 ≤ (σ106.1 0 11).toInt ∧ (σ106.1 0 11).toInt ≤ 120 := ⟨(hO108 0 11).1, (hO108 0 11).2.1⟩
          exact zc_sub [2, 3, 1, 0] rfl (L123_124 σ106 hO108 hA116 hc118 (show (1 ≤ (σ106.1 0 8).toInt ∨ r1.toInt = 2 ∨ 1 ≤ r30.toInt) by omega) (show (σ106.1 0 21).toInt = (σ0.1 0 21).toInt by omega) (show zw_M σ106 = zw_ln (zw_bM σ0) r1.toInt (zw_M σ0) by rw [zw_ln2 (by omega), ← q3]; exact (zw_chk_n (Or.inr (show (σ106.1 0 12).toInt = 3 by omega))).symm) (show zw_LM σ106 = (zw_LM σ0) by exact hL119) (show zw_wv (σ106.1 0 8).toInt r30.toInt (zw_v1 (zw_bM σ0) (zw_M σ0)) by exact w1.mono g111) (show zw_wv (σ106.1 0 8).toInt r105.toInt (zw_v2 (zw_bM σ0) r1.toInt (zw_1 (zw_bM σ0) r1.toInt (zw_M σ0))) by unfold zw_v2; rw [if_pos (by omega)]; exact w2) (show zw_iw (σ106.1 0 8).toInt (σ106.1 0 9).toInt (σ106.1 0 11).toInt by exact g115))
        refine zr_aload_n hB 2 dX9_readLine_118 rfl ?_
        refine zr_iconst hB dX9_readLine_119 rfl (fun c158 ec158 => ?_)
        refine zr_callvn hG (rest := []) 0 dX9_readLine_120 wm_X9_157 rfl rfl (c_M_fails K hG.2.2.2.2.2.1 σ106 c158 hO108 (by omega) (by omega)) rfl rfl (Nat.le_of_ble_eq_true rfl) ⟨Nat.le_of_ble_eq_true rfl, Nat.le_of_ble_eq_true rfl, rfl, rfl⟩ (fun σ160 h161 => ?_)
        obtain ⟨hO162, hAc163, g164, g165, g166⟩ := h161
        have hA167 := zc_Ag.tr hA116 hAc163 rfl
        have q168 : (σ160.1 0 21).toInt = (σ106.1 0 21).toInt := congrArg Int32.toInt (hAc163 0 21 rfl).1
        have q169 : (σ160.1 0 12).toInt = (σ106.1 0 12).toInt := congrArg Int32.toInt (hAc163 0 12 rfl).1
        have hc170 : zm_N σ160 := zm_N.ag hc118 hAc163 rfl (fun _ => rfl) (fun _ => rfl)
        have h11 : (σ160.1 0 11).toInt = (σ106.1 0 11).toInt := by rw [(hAc163 0 11 rfl).1]
        have b171 : 0 ≤ (σ160.1 0 8).toInt ∧ (σ160.1 0 8).toInt ≤ 5 := ⟨(hO162 0 8).1, (hO162 0 8).2.1⟩
        have b172 : 0 ≤ (σ160.1 0 21).toInt ∧ (σ160.1 0 21).toInt ≤ 6 := ⟨(hO162 0 21).1, (hO162 0 21).2.1⟩
        have b173 : 0 ≤ (σ160.1 0 9).toInt ∧ (σ160.1 0 9).toInt ≤ 120 := ⟨(hO162 0 9).1, (hO162 0 9).2.1⟩
        have b174 : 0 ≤ (σ160.1 0 11).toInt ∧ (σ160.1 0 11).toInt ≤ 120 := ⟨(hO162 0 11).1, (hO162 0 11).2.1⟩
        exact zc_sub [2, 3, 1, 0] rfl (L123_124 σ160 hO162 hA167 hc170 (show (1 ≤ (σ160.1 0 8).toInt ∨ r1.toInt = 2 ∨ 1 ≤ r30.toInt) by omega) (show (σ160.1 0 21).toInt = (σ0.1 0 21).toInt by omega) (show zw_M σ160 = zw_ln (zw_bM σ0) r1.toInt (zw_M σ0) by rw [zw_ln2 (by omega), ← q3, zw_chk_y (show (σ106.1 0 8).toInt = 0 by omega) (show ¬ (σ106.1 0 12).toInt = 3 by omega), zw_fl g166 (fun h9 => h9 (show (σ106.1 0 8).toInt = 0 by omega)), show c158.toInt = 2 by omega]) (show zw_LM σ160 = (zw_LM σ0) by exact (zw_LM_ag hAc163 rfl (fun _ => rfl) (fun _ => rfl) (fun _ => rfl)).trans hL119) (show zw_wv (σ160.1 0 8).toInt r30.toInt (zw_v1 (zw_bM σ0) (zw_M σ0)) by exact Or.inl (by omega)) (show zw_wv (σ160.1 0 8).toInt r105.toInt (zw_v2 (zw_bM σ0) r1.toInt (zw_1 (zw_bM σ0) r1.toInt (zw_M σ0))) by exact Or.inl (by omega)) (show zw_iw (σ160.1 0 8).toInt (σ160.1 0 9).toInt (σ160.1 0 11).toInt by unfold zw_iw; omega))
      refine zr_iconst hB dX9_readLine_71 rfl (fun c175 ec175 => ?_)
      refine zr_goto hB dX9_readLine_72 (tgt := 76) rfl ?_
      refine zr_aload_n hB 0 dX9_readLine_76 rfl ?_
      refine zr_getr hG 0 16 dX9_readLine_77 rfl wf_X9_29 rfl ?_
      refine zr_iload_n hB 1 dX9_readLine_80 rfl ?_
      refine zr_iald hG 7 dX9_readLine_81 rfl (by omega) (by omega) (fun x176 ex176 => ?_)
      have bx176 : 0 ≤ x176.toInt ∧ x176.toInt ≤ 30 := by rw [ex176]; exact ⟨(hO16 7 _).1, (hO16 7 _).2.1⟩
      have hhi : x176.toInt = zw_hi r1.toInt := by rw [ex176, (hA22 7 _ rfl).1, hK.2 r1.toInt.toNat (by omega), show ((r1.toInt.toNat : Nat) : Int) = r1.toInt by omega]
      have hlo : c175.toInt = zw_lo r1.toInt := by unfold zw_lo; split <;> omega
      refine zr_callvi hG (rest := []) 0 dX9_readLine_82 wm_X9_171 rfl rfl (c_M_number K hG.2.2.2.2.2.1 σ14 c175 x176 hO16 g20 g21) rfl rfl (Nat.le_of_ble_eq_true rfl) ⟨Nat.le_of_ble_eq_true rfl, Nat.le_of_ble_eq_true rfl, rfl, rfl⟩ (fun r177 σ178 h179 => ?_)
      obtain ⟨hO180, hAc181, g182, g183, g184, g185, g186, g187⟩ := h179
      have hA188 := zc_Ag.tr hA22 hAc181 rfl
      have q189 : (σ178.1 0 21).toInt = (σ14.1 0 21).toInt := congrArg Int32.toInt (hAc181 0 21 rfl).1
      have hc190 : zm_N σ178 := zm_N.ag hc24 hAc181 rfl (fun _ => rfl) (fun _ => rfl)
      have q2 : zw_M σ178 = zw_adv (zw_bM σ0) (zw_1 (zw_bM σ0) r1.toInt (zw_M σ0)) := by rw [g184, zw_bM.ag hA22 rfl (fun _ => rfl), q1, hlo, hhi]; rfl
      have w1 : zw_wv (σ178.1 0 8).toInt r177.toInt (zw_v1 (zw_bM σ0) (zw_M σ0)) := by have h9 := g185; rw [zw_bM.ag hA22 rfl (fun _ => rfl), q1] at h9; exact h9
      have hL191 : zw_LM σ178 = (zw_LM σ0) := (zw_LM_ag hAc181 rfl (fun _ => rfl) (fun _ => rfl) (fun _ => rfl)).trans hL25
      refine zr_istore_n hB dX9_readLine_85 rfl (by decide) (lv' := [(2, .int r177), (0, .ref (zk K 0)), (1, .int r1)]) rfl ?_
      refine zr_iload_n hB 2 dX9_readLine_86 rfl ?_
      refine zr_iconst hB dX9_readLine_87 rfl (fun c192 ec192 => ?_)
      refine zr_icmp_ne hB dX9_readLine_88 (tgt := 101) rfl (fun c193 => ?_) (fun c193 => ?_)
      · exfalso; omega
      refine zr_aload_n hB 1 dX9_readLine_91 rfl ?_
      refine zr_iconst hB dX9_readLine_92 rfl (fun c194 ec194 => ?_)
      refine zr_bipush hB dX9_readLine_93 rfl (fun c195 ec195 => ?_)
      refine zr_callvi hG (rest := []) 0 dX9_readLine_95 wm_X9_171 rfl rfl (c_M_number K hG.2.2.2.2.2.1 σ178 c194 c195 hO180 g186 g187) rfl rfl (Nat.le_of_ble_eq_true rfl) ⟨Nat.le_of_ble_eq_true rfl, Nat.le_of_ble_eq_true rfl, rfl, rfl⟩ (fun r196 σ197 h198 => ?_)
      obtain ⟨hO199, hAc200, g201, g202, g203, g204, g205, g206⟩ := h198
      have hA207 := zc_Ag.tr hA188 hAc200 rfl
      have q208 : (σ197.1 0 21).toInt = (σ178.1 0 21).toInt := congrArg Int32.toInt (hAc200 0 21 rfl).1
      have hc209 : zm_N σ197 := zm_N.ag hc190 hAc200 rfl (fun _ => rfl) (fun _ => rfl)
      have q3 : zw_M σ197 = zw_adv (zw_bM σ0) (zw_1 (zw_bM σ0) r1.toInt (zw_1 (zw_bM σ0) r1.toInt (zw_M σ0))) := by rw [g203, zw_bM.ag hA188 rfl (fun _ => rfl), q2, show c194.toInt = zw_lo r1.toInt by unfold zw_lo; rw [if_pos (by omega)]; omega, show c195.toInt = zw_hi r1.toInt by unfold zw_hi; rw [if_neg (by omega), if_neg (by omega), if_pos (by omega)]; omega]; rfl
      have w2 : zw_wv (σ197.1 0 8).toInt r196.toInt (zw_v1 (zw_bM σ0) (zw_1 (zw_bM σ0) r1.toInt (zw_M σ0))) := by have h9 := g204; rw [zw_bM.ag hA188 rfl (fun _ => rfl), q2] at h9; exact h9
      have hL210 : zw_LM σ197 = (zw_LM σ0) := (zw_LM_ag hAc200 rfl (fun _ => rfl) (fun _ => rfl) (fun _ => rfl)).trans hL191
      refine zr_goto hB dX9_readLine_98 (tgt := 102) rfl ?_
      refine zr_istore_n hB dX9_readLine_102 rfl (by decide) (lv' := [(3, .int r196), (2, .int r177), (0, .ref (zk K 0)), (1, .int r1)]) rfl ?_
      refine zr_aload_n hB 2 dX9_readLine_103 rfl ?_
      refine zr_geti' hG 0 8 (σ197.1 0 8) dX9_readLine_104 rfl wf_X9_128 rfl rfl ?_
      have b211 : 0 ≤ (σ197.1 0 8).toInt ∧ (σ197.1 0 8).toInt ≤ 5 := ⟨(hO199 0 8).1, (hO199 0 8).2.1⟩
      have L123_215 : ∀ (σ212 : zc_S) , zc_O okM σ212 → zc_Ag m_M_readLine σ0 σ212 → zm_N σ212 → ((1 ≤ (σ212.1 0 8).toInt ∨ r1.toInt = 2 ∨ 1 ≤ r177.toInt)) → (σ212.1 0 21).toInt = (σ0.1 0 21).toInt → zw_M σ212 = zw_ln (zw_bM σ0) r1.toInt (zw_M σ0) → zw_LM σ212 = (zw_LM σ0) → zw_wv (σ212.1 0 8).toInt r177.toInt (zw_v1 (zw_bM σ0) (zw_M σ0)) → zw_wv (σ212.1 0 8).toInt r196.toInt (zw_v2 (zw_bM σ0) r1.toInt (zw_1 (zw_bM σ0) r1.toInt (zw_M σ0))) → zw_iw (σ212.1 0 8).toInt (σ212.1 0 9).toInt (σ212.1 0 11).toInt → zc_V 4 K G (zc_D shM K G σ212) [(0, .ref (zk K 0)), (1, .int r1), (2, .int r177), (3, .int r196)] 123 [] := by
        intro σ212 hO212 hA212 hc216 e213 e214 hln hl3 hw1 hw2 hI5
        refine zr_aload_n hB 0 dX9_readLine_123 rfl ?_
        refine zr_geti' hG 0 8 (σ212.1 0 8) dX9_readLine_124 rfl wf_X9_128 rfl rfl ?_
        have b217 : 0 ≤ (σ212.1 0 8).toInt ∧ (σ212.1 0 8).toInt ≤ 5 := ⟨(hO212 0 8).1, (hO212 0 8).2.1⟩
        refine zr_if_ne hB dX9_readLine_127 (tgt := 174) rfl (fun c218 => ?_) (fun c218 => ?_)
        · exact zr_vret hG dX9_readLine_174 ⟨hO212, hA212, (show (1 ≤ (σ212.1 0 8).toInt ∨ (σ212.1 0 21).toInt = (σ0.1 0 21).toInt + 1) by omega), (show (σ0.1 0 21).toInt ≤ (σ212.1 0 21).toInt by omega), hc216, (by rw [(zw_one_f (b := (zw_bM σ0)) (P := (zw_M σ0)) (L := (zw_LM σ0)) hk h0 (by rw [← hln]; exact (show ¬ (σ212.1 0 8).toInt = 0 by omega)))]; exact hln), (by rw [(zw_one_f (b := (zw_bM σ0)) (P := (zw_M σ0)) (L := (zw_LM σ0)) hk h0 (by rw [← hln]; exact (show ¬ (σ212.1 0 8).toInt = 0 by omega)))]; exact hl3), hI5, (show ((σ212.1 0 21).toInt = (σ0.1 0 21).toInt + 1 ∨ ((σ212.1 0 21).toInt = (σ0.1 0 21).toInt ∧ ¬ (σ212.1 0 8).toInt = 0)) by omega)⟩
        refine zr_aload_n hB 0 dX9_readLine_130 rfl ?_
        refine zr_getr hG 0 22 dX9_readLine_131 rfl wf_X9_41 rfl ?_
        refine zr_aload_n hB 0 dX9_readLine_134 rfl ?_
        refine zr_geti' hG 0 21 (σ212.1 0 21) dX9_readLine_135 rfl wf_X9_168 rfl rfl ?_
        have b219 : 0 ≤ (σ212.1 0 21).toInt ∧ (σ212.1 0 21).toInt ≤ 6 := ⟨(hO212 0 21).1, (hO212 0 21).2.1⟩
        refine zr_iload_n hB 1 dX9_readLine_138 rfl ?_
        refine zr_iast hG 11 dX9_readLine_139 rfl (by omega) (by omega)  ?_
        have hOw220 := zc_O.u hO212 11 (σ212.1 0 21).toInt.toNat (v := r1) (show 0 ≤ r1.toInt by omega) (show r1.toInt ≤ 4 by omega) (Or.inr (show 0 ≤ r1.toInt by omega))
        have hAw220 := zc_Ag.u hA212 11 (σ212.1 0 21).toInt.toNat r1 rfl
        refine zr_aload_n hB 0 dX9_readLine_140 rfl ?_
        refine zr_getr hG 0 23 dX9_readLine_141 rfl wf_X9_44 rfl ?_
        refine zr_aload_n hB 0 dX9_readLine_144 rfl ?_
        refine zr_geti' hG 0 21 (σ212.1 0 21) dX9_readLine_145 rfl wf_X9_168 rfl rfl ?_
        refine zr_iload_n hB 2 dX9_readLine_148 rfl ?_
        refine zr_iast hG 12 dX9_readLine_149 rfl (by omega) (by omega)  ?_
        have hOw221 := zc_O.u hOw220 12 (σ212.1 0 21).toInt.toNat (v := r177) (zn_lo _) (zn_hi _) (Or.inr (zn_lo _))
        have hAw221 := zc_Ag.u hAw220 12 (σ212.1 0 21).toInt.toNat r177 rfl
        refine zr_aload_n hB 0 dX9_readLine_150 rfl ?_
        refine zr_getr hG 0 24 dX9_readLine_151 rfl wf_X9_47 rfl ?_
        refine zr_aload_n hB 0 dX9_readLine_154 rfl ?_
        refine zr_geti' hG 0 21 (σ212.1 0 21) dX9_readLine_155 rfl wf_X9_168 rfl rfl ?_
        refine zr_iload_n hB 3 dX9_readLine_158 rfl ?_
        refine zr_iast hG 13 dX9_readLine_159 rfl (by omega) (by omega)  ?_
        have hOw222 := zc_O.u hOw221 13 (σ212.1 0 21).toInt.toNat (v := r196) (zn_lo _) (zn_hi _) (Or.inr (zn_lo _))
        have hAw222 := zc_Ag.u hAw221 13 (σ212.1 0 21).toInt.toNat r196 rfl
        refine zr_aload_n hB 0 dX9_readLine_160 rfl ?_
        refine zr_dup hB dX9_readLine_161 rfl ?_
        refine zr_geti' hG 0 21 (σ212.1 0 21) dX9_readLine_162 rfl wf_X9_168 rfl rfl ?_
        refine zr_iconst hB dX9_readLine_165 rfl (fun c223 ec223 => ?_)
        refine zr_iadd hB dX9_readLine_166 (by omega) (by omega) (fun x224 ex224 => ?_)
        refine zr_puti hG 0 21 dX9_readLine_167 rfl wp_X9_168 rfl ?_
        have hOw225 := zc_O.u hOw222 0 21 (v := x224) (show 0 ≤ x224.toInt by omega) (show x224.toInt ≤ 6 by omega) (Or.inr (show 0 ≤ x224.toInt by omega))
        have hAw225 := zc_Ag.u hAw222 0 21 x224 rfl
        have hc226 : zm_N (zc_u (zc_u (zc_u (zc_u σ212 11 (σ212.1 0 21).toInt.toNat r1) 12 (σ212.1 0 21).toInt.toNat r177) 13 (σ212.1 0 21).toInt.toNat r196) 0 21 x224) := zm_N_add hc216 (by omega) (by omega) (by omega)
        refine zr_aload_n hB 0 dX9_readLine_170 rfl ?_
        have hput : zw_LM (zc_u (zc_u (zc_u (zc_u σ212 11 (σ212.1 0 21).toInt.toNat r1) 12 (σ212.1 0 21).toInt.toNat r177) 13 (σ212.1 0 21).toInt.toNat r196) 0 21 x224) = zw_put (zw_LM σ0) r1.toInt r177.toInt r196.toInt := by rw [← hl3]; exact zw_LM_put (by omega) (by omega)
        have hm5 : zw_M (zc_u (zc_u (zc_u (zc_u σ212 11 (σ212.1 0 21).toInt.toNat r1) 12 (σ212.1 0 21).toInt.toNat r177) 13 (σ212.1 0 21).toInt.toNat r196) 0 21 x224) = zw_ln (zw_bM σ0) r1.toInt (zw_M σ0) := hln
        refine zr_callvn hG (rest := []) 0 dX9_readLine_171 wm_X9_161 rfl rfl (c_M_next K hG.2.2.2.2.2.1 (zc_u (zc_u (zc_u (zc_u σ212 11 (σ212.1 0 21).toInt.toNat r1) 12 (σ212.1 0 21).toInt.toNat r177) 13 (σ212.1 0 21).toInt.toNat r196) 0 21 x224)  hOw225 (Or.inl (show (σ212.1 0 8).toInt = 0 by omega))) rfl rfl (Nat.le_of_ble_eq_true rfl) ⟨Nat.le_of_ble_eq_true rfl, Nat.le_of_ble_eq_true rfl, rfl, rfl⟩ (fun σ228 h229 => ?_)
        obtain ⟨hO230, hAc231, g232, g233, g234, g235⟩ := h229
        have hA236 := zc_Ag.tr hAw225 hAc231 rfl
        have q237 : (σ228.1 0 21).toInt = x224.toInt := congrArg Int32.toInt (hAc231 0 21 rfl).1
        have hc238 : zm_N σ228 := zm_N.ag hc226 hAc231 rfl (fun _ => rfl) (fun _ => rfl)
        have g232' : ((σ212.1 0 8).toInt = 0 ∨ 1 ≤ (σ228.1 0 8).toInt) := g232
        have g235' : zw_iw (σ228.1 0 8).toInt (σ228.1 0 9).toInt (σ228.1 0 11).toInt := g235
        have q5 : zw_M σ228 = zw_adv (zw_bM σ0) (zw_ln (zw_bM σ0) r1.toInt (zw_M σ0)) := by rw [g233, zw_bM.ag hAw225 rfl (fun _ => rfl), hm5]
        have hL9 : zw_LM σ228 = zw_put (zw_LM σ0) r1.toInt r177.toInt r196.toInt := (zw_LM_ag hAc231 rfl (fun _ => rfl) (fun _ => rfl) (fun _ => rfl)).trans hput
        exact zr_vret hG dX9_readLine_174 ⟨hO230, hA236, (show (1 ≤ (σ228.1 0 8).toInt ∨ (σ228.1 0 21).toInt = (σ0.1 0 21).toInt + 1) by omega), (show (σ0.1 0 21).toInt ≤ (σ228.1 0 21).toInt by omega), hc238, (by rw [(zw_one_y (b := (zw_bM σ0)) (P := (zw_M σ0)) (L := (zw_LM σ0)) hk h0 (by rw [← hln]; exact (show (σ212.1 0 8).toInt = 0 by omega)))]; exact q5), (by rw [(zw_one_y (b := (zw_bM σ0)) (P := (zw_M σ0)) (L := (zw_LM σ0)) hk h0 (by rw [← hln]; exact (show (σ212.1 0 8).toInt = 0 by omega))), hL9, hw1.get (show (σ212.1 0 8).toInt = 0 by omega), hw2.get (show (σ212.1 0 8).toInt = 0 by omega)]), g235, (show ((σ228.1 0 21).toInt = (σ0.1 0 21).toInt + 1 ∨ ((σ228.1 0 21).toInt = (σ0.1 0 21).toInt ∧ ¬ (σ228.1 0 8).toInt = 0)) by omega)⟩
      refine zr_if_ne hB dX9_readLine_107 (tgt := 123) rfl (fun c239 => ?_) (fun c239 => ?_)
      · have b240 : 0 ≤ (σ197.1 0 21).toInt ∧ (σ197.1 0 21).toInt ≤ 6 := ⟨(hO199 0 21).1, (hO199 0 21).2.1⟩
        have b241 : 0 ≤ (σ197.1 0 9).toInt ∧ (σ197.1 0 9).toInt ≤ 120 := ⟨(hO199 0 9).1, (hO199 0 9).2.1⟩
        have b242 : 0 ≤ (σ197.1 0 11).toInt ∧ (σ197.1 0 11).toInt ≤ 120 := ⟨(hO199 0 11).1, (hO199 0 11).2.1⟩
        exact zc_sub [2, 3, 1, 0] rfl (L123_215 σ197 hO199 hA207 hc209 (show (1 ≤ (σ197.1 0 8).toInt ∨ r1.toInt = 2 ∨ 1 ≤ r177.toInt) by omega) (show (σ197.1 0 21).toInt = (σ0.1 0 21).toInt by omega) (show zw_M σ197 = zw_ln (zw_bM σ0) r1.toInt (zw_M σ0) by rw [zw_ln2 (by omega), ← q3]; exact (zw_chk_n (Or.inl (show ¬ (σ197.1 0 8).toInt = 0 by omega))).symm) (show zw_LM σ197 = (zw_LM σ0) by exact hL210) (show zw_wv (σ197.1 0 8).toInt r177.toInt (zw_v1 (zw_bM σ0) (zw_M σ0)) by exact w1.mono g202) (show zw_wv (σ197.1 0 8).toInt r196.toInt (zw_v2 (zw_bM σ0) r1.toInt (zw_1 (zw_bM σ0) r1.toInt (zw_M σ0))) by unfold zw_v2; rw [if_pos (by omega)]; exact w2) (show zw_iw (σ197.1 0 8).toInt (σ197.1 0 9).toInt (σ197.1 0 11).toInt by exact g206))
      refine zr_aload_n hB 2 dX9_readLine_110 rfl ?_
      refine zr_geti' hG 0 12 (σ197.1 0 12) dX9_readLine_111 rfl wf_X9_146 rfl rfl ?_
      have b243 : 0 ≤ (σ197.1 0 12).toInt ∧ (σ197.1 0 12).toInt ≤ 3 := ⟨(hO199 0 12).1, (hO199 0 12).2.1⟩
      refine zr_iconst hB dX9_readLine_114 rfl (fun c244 ec244 => ?_)
      refine zr_icmp_eq hB dX9_readLine_115 (tgt := 123) rfl (fun c245 => ?_) (fun c245 => ?_)
      · have b246 : 0 ≤ (σ197.1 0 21).toInt ∧ (σ197.1 0 21).toInt ≤ 6 := ⟨(hO199 0 21).1, (hO199 0 21).2.1⟩
        have b247 : 0 ≤ (σ197.1 0 9).toInt ∧ (σ197.1 0 9).toInt ≤ 120 := ⟨(hO199 0 9).1, (hO199 0 9).2.1⟩
        have b248 : 0 ≤ (σ197.1 0 11).toInt ∧ (σ197.1 0 11).toInt ≤ 120 := ⟨(hO199 0 11).1, (hO199 0 11).2.1⟩
        exact zc_sub [2, 3, 1, 0] rfl (L123_215 σ197 hO199 hA207 hc209 (show (1 ≤ (σ197.1 0 8).toInt ∨ r1.toInt = 2 ∨ 1 ≤ r177.toInt) by omega) (show (σ197.1 0 21).toInt = (σ0.1 0 21).toInt by omega) (show zw_M σ197 = zw_ln (zw_bM σ0) r1.toInt (zw_M σ0) by rw [zw_ln2 (by omega), ← q3]; exact (zw_chk_n (Or.inr (show (σ197.1 0 12).toInt = 3 by omega))).symm) (show zw_LM σ197 = (zw_LM σ0) by exact hL210) (show zw_wv (σ197.1 0 8).toInt r177.toInt (zw_v1 (zw_bM σ0) (zw_M σ0)) by exact w1.mono g202) (show zw_wv (σ197.1 0 8).toInt r196.toInt (zw_v2 (zw_bM σ0) r1.toInt (zw_1 (zw_bM σ0) r1.toInt (zw_M σ0))) by unfold zw_v2; rw [if_pos (by omega)]; exact w2) (show zw_iw (σ197.1 0 8).toInt (σ197.1 0 9).toInt (σ197.1 0 11).toInt by exact g206))
      refine zr_aload_n hB 2 dX9_readLine_118 rfl ?_
      refine zr_iconst hB dX9_readLine_119 rfl (fun c249 ec249 => ?_)
      refine zr_callvn hG (rest := []) 0 dX9_readLine_120 wm_X9_157 rfl rfl (c_M_fails K hG.2.2.2.2.2.1 σ197 c249 hO199 (by omega) (by omega)) rfl rfl (Nat.le_of_ble_eq_true rfl) ⟨Nat.le_of_ble_eq_true rfl, Nat.le_of_ble_eq_true rfl, rfl, rfl⟩ (fun σ251 h252 => ?_)
      obtain ⟨hO253, hAc254, g255, g256, g257⟩ := h252
      have hA258 := zc_Ag.tr hA207 hAc254 rfl
      have q259 : (σ251.1 0 21).toInt = (σ197.1 0 21).toInt := congrArg Int32.toInt (hAc254 0 21 rfl).1
      have q260 : (σ251.1 0 12).toInt = (σ197.1 0 12).toInt := congrArg Int32.toInt (hAc254 0 12 rfl).1
      have hc261 : zm_N σ251 := zm_N.ag hc209 hAc254 rfl (fun _ => rfl) (fun _ => rfl)
      have h11 : (σ251.1 0 11).toInt = (σ197.1 0 11).toInt := by rw [(hAc254 0 11 rfl).1]
      have b262 : 0 ≤ (σ251.1 0 8).toInt ∧ (σ251.1 0 8).toInt ≤ 5 := ⟨(hO253 0 8).1, (hO253 0 8).2.1⟩
      have b263 : 0 ≤ (σ251.1 0 21).toInt ∧ (σ251.1 0 21).toInt ≤ 6 := ⟨(hO253 0 21).1, (hO253 0 21).2.1⟩
      have b264 : 0 ≤ (σ251.1 0 9).toInt ∧ (σ251.1 0 9).toInt ≤ 120 := ⟨(hO253 0 9).1, (hO253 0 9).2.1⟩
      have b265 : 0 ≤ (σ251.1 0 11).toInt ∧ (σ251.1 0 11).toInt ≤ 120 := ⟨(hO253 0 11).1, (hO253 0 11).2.1⟩
      exact zc_sub [2, 3, 1, 0] rfl (L123_215 σ251 hO253 hA258 hc261 (show (1 ≤ (σ251.1 0 8).toInt ∨ r1.toInt = 2 ∨ 1 ≤ r177.toInt) by omega) (show (σ251.1 0 21).toInt = (σ0.1 0 21).toInt by omega) (show zw_M σ251 = zw_ln (zw_bM σ0) r1.toInt (zw_M σ0) by rw [zw_ln2 (by omega), ← q3, zw_chk_y (show (σ197.1 0 8).toInt = 0 by omega) (show ¬ (σ197.1 0 12).toInt = 3 by omega), zw_fl g257 (fun h9 => h9 (show (σ197.1 0 8).toInt = 0 by omega)), show c249.toInt = 2 by omega]) (show zw_LM σ251 = (zw_LM σ0) by exact (zw_LM_ag hAc254 rfl (fun _ => rfl) (fun _ => rfl) (fun _ => rfl)).trans hL210) (show zw_wv (σ251.1 0 8).toInt r177.toInt (zw_v1 (zw_bM σ0) (zw_M σ0)) by exact Or.inl (by omega)) (show zw_wv (σ251.1 0 8).toInt r196.toInt (zw_v2 (zw_bM σ0) r1.toInt (zw_1 (zw_bM σ0) r1.toInt (zw_M σ0))) by exact Or.inl (by omega)) (show zw_iw (σ251.1 0 8).toInt (σ251.1 0 9).toInt (σ251.1 0 11).toInt by unfold zw_iw; omega))
    exact zr_vret hG dX9_readLine_60 ⟨hO6, hA6, (show (1 ≤ (σ6.1 0 8).toInt ∨ (σ6.1 0 21).toInt = (σ0.1 0 21).toInt + 1) by omega), (show (σ0.1 0 21).toInt ≤ (σ6.1 0 21).toInt by omega), hc10, (by rw [(zw_one_h (b := (zw_bM σ0)) (P := (zw_M σ0)) (L := (zw_LM σ0)) (f := zw_hd r1.toInt (σ0.1 0 21).toInt) (by rw [hk]; rfl) (by omega))]; exact hd), (by rw [(zw_one_h (b := (zw_bM σ0)) (P := (zw_M σ0)) (L := (zw_LM σ0)) (f := zw_hd r1.toInt (σ0.1 0 21).toInt) (by rw [hk]; rfl) (by omega))]; exact hl), hI3, (show ((σ6.1 0 21).toInt = (σ0.1 0 21).toInt + 1 ∨ ((σ6.1 0 21).toInt = (σ0.1 0 21).toInt ∧ ¬ (σ6.1 0 8).toInt = 0)) by omega)⟩
  refine zr_icmp_ne hB dX9_readLine_8 (tgt := 19) rfl (fun c266 => ?_) (fun c266 => ?_)
  · refine zr_aload_n hB 1 dX9_readLine_19 rfl ?_
    refine zr_geti' hG 0 21 (σ0.1 0 21) dX9_readLine_20 rfl wf_X9_168 rfl rfl ?_
    refine zr_bipush hB dX9_readLine_23 rfl (fun c267 ec267 => ?_)
    refine zr_icmp_ne hB dX9_readLine_25 (tgt := 36) rfl (fun c268 => ?_) (fun c268 => ?_)
    · refine zr_iload_n hB 0 dX9_readLine_36 rfl ?_
      refine zr_iconst hB dX9_readLine_37 rfl (fun c269 ec269 => ?_)
      refine zr_icmp_ne hB dX9_readLine_38 (tgt := 53) rfl (fun c270 => ?_) (fun c270 => ?_)
      · exact zc_sub [1, 0] rfl (L53_9 σ0 hO0 hA0 hN (show (1 ≤ (σ0.1 0 8).toInt ∨ (0 ≤ r1.toInt ∧ (σ0.1 0 21).toInt ≤ 5)) by omega) (show (σ0.1 0 21).toInt = (σ0.1 0 21).toInt by omega) (show zw_M σ0 = (zw_hd r1.toInt (σ0.1 0 21).toInt, (zw_M σ0).2) by rw [show zw_hd r1.toInt (σ0.1 0 21).toInt = 0 by unfold zw_hd; rw [if_neg (by omega), if_neg (by omega), if_neg (by omega)]]; exact zw_M_0 (show (σ0.1 0 8).toInt = 0 by omega)) (show zw_LM σ0 = (zw_LM σ0) by rfl) (show zw_iw (σ0.1 0 8).toInt (σ0.1 0 9).toInt (σ0.1 0 11).toInt by exact Or.inl (by omega)))
      refine zr_aload_n hB 1 dX9_readLine_41 rfl ?_
      refine zr_geti' hG 0 21 (σ0.1 0 21) dX9_readLine_42 rfl wf_X9_168 rfl rfl ?_
      refine zr_if_ne hB dX9_readLine_45 (tgt := 53) rfl (fun c271 => ?_) (fun c271 => ?_)
      · exact zc_sub [1, 0] rfl (L53_9 σ0 hO0 hA0 hN (show (1 ≤ (σ0.1 0 8).toInt ∨ (0 ≤ r1.toInt ∧ (σ0.1 0 21).toInt ≤ 5)) by omega) (show (σ0.1 0 21).toInt = (σ0.1 0 21).toInt by omega) (show zw_M σ0 = (zw_hd r1.toInt (σ0.1 0 21).toInt, (zw_M σ0).2) by rw [show zw_hd r1.toInt (σ0.1 0 21).toInt = 0 by unfold zw_hd; rw [if_neg (by omega), if_neg (by omega), if_neg (by omega)]]; exact zw_M_0 (show (σ0.1 0 8).toInt = 0 by omega)) (show zw_LM σ0 = (zw_LM σ0) by rfl) (show zw_iw (σ0.1 0 8).toInt (σ0.1 0 9).toInt (σ0.1 0 11).toInt by exact Or.inl (by omega)))
      refine zr_aload_n hB 1 dX9_readLine_48 rfl ?_
      refine zr_iconst hB dX9_readLine_49 rfl (fun c272 ec272 => ?_)
      refine zr_callvn hG (rest := []) 0 dX9_readLine_50 wm_X9_157 rfl rfl (c_M_fails K hG.2.2.2.2.2.1 σ0 c272 hO0 (by omega) (by omega)) rfl rfl (Nat.le_of_ble_eq_true rfl) ⟨Nat.le_of_ble_eq_true rfl, Nat.le_of_ble_eq_true rfl, rfl, rfl⟩ (fun σ274 h275 => ?_)
      obtain ⟨hO276, hAc277, g278, g279, g280⟩ := h275
      have hA281 := zc_Ag.tr hA0 hAc277 rfl
      have q282 : (σ274.1 0 11).toInt = (σ0.1 0 11).toInt := congrArg Int32.toInt (hAc277 0 11 rfl).1
      have q283 : (σ274.1 0 12).toInt = (σ0.1 0 12).toInt := congrArg Int32.toInt (hAc277 0 12 rfl).1
      have q284 : (σ274.1 0 21).toInt = (σ0.1 0 21).toInt := congrArg Int32.toInt (hAc277 0 21 rfl).1
      have hc285 : zm_N σ274 := zm_N.ag hN hAc277 rfl (fun _ => rfl) (fun _ => rfl)
      have b286 : 0 ≤ (σ274.1 0 8).toInt ∧ (σ274.1 0 8).toInt ≤ 5 := ⟨(hO276 0 8).1, (hO276 0 8).2.1⟩
      have b287 : 0 ≤ (σ274.1 0 21).toInt ∧ (σ274.1 0 21).toInt ≤ 6 := ⟨(hO276 0 21).1, (hO276 0 21).2.1⟩
      have b288 : 0 ≤ (σ274.1 0 9).toInt ∧ (σ274.1 0 9).toInt ≤ 120 := ⟨(hO276 0 9).1, (hO276 0 9).2.1⟩
      have b289 : 0 ≤ (σ274.1 0 11).toInt ∧ (σ274.1 0 11).toInt ≤ 120 := ⟨(hO276 0 11).1, (hO276 0 11).2.1⟩
      exact zc_sub [1, 0] rfl (L53_9 σ274 hO276 hA281 hc285 (show (1 ≤ (σ274.1 0 8).toInt ∨ (0 ≤ r1.toInt ∧ (σ274.1 0 21).toInt ≤ 5)) by omega) (show (σ274.1 0 21).toInt = (σ0.1 0 21).toInt by omega) (show zw_M σ274 = (zw_hd r1.toInt (σ0.1 0 21).toInt, (zw_M σ0).2) by rw [zw_fl g280 (fun h9 => h9 (show (σ0.1 0 8).toInt = 0 by omega)), show c272.toInt = zw_hd r1.toInt (σ0.1 0 21).toInt by rw [show c272.toInt = 5 by omega]; unfold zw_hd; rw [if_neg (by omega), if_neg (by omega), if_pos (by omega)]]) (show zw_LM σ274 = (zw_LM σ0) by exact zw_LM_ag hAc277 rfl (fun _ => rfl) (fun _ => rfl) (fun _ => rfl)) (show zw_iw (σ274.1 0 8).toInt (σ274.1 0 9).toInt (σ274.1 0 11).toInt by unfold zw_iw; omega))
    refine zr_aload_n hB 1 dX9_readLine_28 rfl ?_
    refine zr_iconst hB dX9_readLine_29 rfl (fun c290 ec290 => ?_)
    refine zr_callvn hG (rest := []) 0 dX9_readLine_30 wm_X9_157 rfl rfl (c_M_fails K hG.2.2.2.2.2.1 σ0 c290 hO0 (by omega) (by omega)) rfl rfl (Nat.le_of_ble_eq_true rfl) ⟨Nat.le_of_ble_eq_true rfl, Nat.le_of_ble_eq_true rfl, rfl, rfl⟩ (fun σ292 h293 => ?_)
    obtain ⟨hO294, hAc295, g296, g297, g298⟩ := h293
    have hA299 := zc_Ag.tr hA0 hAc295 rfl
    have q300 : (σ292.1 0 11).toInt = (σ0.1 0 11).toInt := congrArg Int32.toInt (hAc295 0 11 rfl).1
    have q301 : (σ292.1 0 12).toInt = (σ0.1 0 12).toInt := congrArg Int32.toInt (hAc295 0 12 rfl).1
    have q302 : (σ292.1 0 21).toInt = (σ0.1 0 21).toInt := congrArg Int32.toInt (hAc295 0 21 rfl).1
    have hc303 : zm_N σ292 := zm_N.ag hN hAc295 rfl (fun _ => rfl) (fun _ => rfl)
    refine zr_goto hB dX9_readLine_33 (tgt := 53) rfl ?_
    have b304 : 0 ≤ (σ292.1 0 8).toInt ∧ (σ292.1 0 8).toInt ≤ 5 := ⟨(hO294 0 8).1, (hO294 0 8).2.1⟩
    have b305 : 0 ≤ (σ292.1 0 21).toInt ∧ (σ292.1 0 21).toInt ≤ 6 := ⟨(hO294 0 21).1, (hO294 0 21).2.1⟩
    have b306 : 0 ≤ (σ292.1 0 9).toInt ∧ (σ292.1 0 9).toInt ≤ 120 := ⟨(hO294 0 9).1, (hO294 0 9).2.1⟩
    have b307 : 0 ≤ (σ292.1 0 11).toInt ∧ (σ292.1 0 11).toInt ≤ 120 := ⟨(hO294 0 11).1, (hO294 0 11).2.1⟩
    exact zc_sub [1, 0] rfl (L53_9 σ292 hO294 hA299 hc303 (show (1 ≤ (σ292.1 0 8).toInt ∨ (0 ≤ r1.toInt ∧ (σ292.1 0 21).toInt ≤ 5)) by omega) (show (σ292.1 0 21).toInt = (σ0.1 0 21).toInt by omega) (show zw_M σ292 = (zw_hd r1.toInt (σ0.1 0 21).toInt, (zw_M σ0).2) by rw [zw_fl g298 (fun h9 => h9 (show (σ0.1 0 8).toInt = 0 by omega)), show c290.toInt = zw_hd r1.toInt (σ0.1 0 21).toInt by rw [show c290.toInt = 4 by omega]; unfold zw_hd; rw [if_neg (by omega), if_pos (by omega)]]) (show zw_LM σ292 = (zw_LM σ0) by exact zw_LM_ag hAc295 rfl (fun _ => rfl) (fun _ => rfl) (fun _ => rfl)) (show zw_iw (σ292.1 0 8).toInt (σ292.1 0 9).toInt (σ292.1 0 11).toInt by unfold zw_iw; omega))
  refine zr_aload_n hB 1 dX9_readLine_11 rfl ?_
  refine zr_iconst hB dX9_readLine_12 rfl (fun c308 ec308 => ?_)
  refine zr_callvn hG (rest := []) 0 dX9_readLine_13 wm_X9_157 rfl rfl (c_M_fails K hG.2.2.2.2.2.1 σ0 c308 hO0 (by omega) (by omega)) rfl rfl (Nat.le_of_ble_eq_true rfl) ⟨Nat.le_of_ble_eq_true rfl, Nat.le_of_ble_eq_true rfl, rfl, rfl⟩ (fun σ310 h311 => ?_)
  obtain ⟨hO312, hAc313, g314, g315, g316⟩ := h311
  have hA317 := zc_Ag.tr hA0 hAc313 rfl
  have q318 : (σ310.1 0 11).toInt = (σ0.1 0 11).toInt := congrArg Int32.toInt (hAc313 0 11 rfl).1
  have q319 : (σ310.1 0 12).toInt = (σ0.1 0 12).toInt := congrArg Int32.toInt (hAc313 0 12 rfl).1
  have q320 : (σ310.1 0 21).toInt = (σ0.1 0 21).toInt := congrArg Int32.toInt (hAc313 0 21 rfl).1
  have hc321 : zm_N σ310 := zm_N.ag hN hAc313 rfl (fun _ => rfl) (fun _ => rfl)
  refine zr_goto hB dX9_readLine_16 (tgt := 53) rfl ?_
  have b322 : 0 ≤ (σ310.1 0 8).toInt ∧ (σ310.1 0 8).toInt ≤ 5 := ⟨(hO312 0 8).1, (hO312 0 8).2.1⟩
  have b323 : 0 ≤ (σ310.1 0 21).toInt ∧ (σ310.1 0 21).toInt ≤ 6 := ⟨(hO312 0 21).1, (hO312 0 21).2.1⟩
  have b324 : 0 ≤ (σ310.1 0 9).toInt ∧ (σ310.1 0 9).toInt ≤ 120 := ⟨(hO312 0 9).1, (hO312 0 9).2.1⟩
  have b325 : 0 ≤ (σ310.1 0 11).toInt ∧ (σ310.1 0 11).toInt ≤ 120 := ⟨(hO312 0 11).1, (hO312 0 11).2.1⟩
  exact zc_sub [1, 0] rfl (L53_9 σ310 hO312 hA317 hc321 (show (1 ≤ (σ310.1 0 8).toInt ∨ (0 ≤ r1.toInt ∧ (σ310.1 0 21).toInt ≤ 5)) by omega) (show (σ310.1 0 21).toInt = (σ0.1 0 21).toInt by omega) (show zw_M σ310 = (zw_hd r1.toInt (σ0.1 0 21).toInt, (zw_M σ0).2) by rw [zw_fl g316 (fun h9 => h9 (show (σ0.1 0 8).toInt = 0 by omega)), show c308.toInt = zw_hd r1.toInt (σ0.1 0 21).toInt by rw [show c308.toInt = 2 by omega]; unfold zw_hd; rw [if_pos (by omega)]]) (show zw_LM σ310 = (zw_LM σ0) by exact zw_LM_ag hAc313 rfl (fun _ => rfl) (fun _ => rfl) (fun _ => rfl)) (show zw_iw (σ310.1 0 8).toInt (σ310.1 0 9).toInt (σ310.1 0 11).toInt by unfold zw_iw; omega))
