def m_M_text : zc_ms := [(0, some 8), (0, some 9), (0, some 10), (0, some 11), (0, some 12), (0, some 13), (0, some 21), (11, none), (12, none), (13, none), (0, some 6), (0, some 7), (0, some 17), (8, none), (9, none), (10, none)]
set_option maxHeartbeats 4000000 in
set_option maxRecDepth 100000 in
theorem c_M_text (K : zc_K) (hi : zc_inj shM K.2.2.2.1) (σ0 : zc_S)  (hO0 : zc_O okM σ0) (hT : zm_T σ0) (hK : zw_K σ0) : zc_M shM K yX9_text cX9_text 2 (some .int) (zrm 4 92) σ0 [.ref (zk K 0)] (zc_I (fun r9 σ9 => zc_O okM σ9 ∧ zc_Ag m_M_text σ0 σ9 ∧ (-130) ≤ r9.toInt ∧ r9.toInt ≤ 6 ∧ (σ9.1 0 6).toInt = 0 ∧ zm_T σ9 ∧ (σ9.1 0 7).toInt = (zw_rM σ0).1.1 ∧ ((¬ (zw_rM σ0).1.1 = 0 ∧ r9.toInt = -10 - (((zw_rM σ0).1.2.1 : Nat) : Int) ∧ zw_TM σ9 = zw_TM σ0) ∨ ((zw_rM σ0).1.1 = 0 ∧ r9.toInt = (zw_rM σ0).2.1 ∧ zw_Lq (zw_TM σ9) (zw_rM σ0).2)))) := by
  refine zc_start RX9 hi pfX9_text rfl (Nat.le_of_ble_eq_true rfl) ?_
  intro G hG
  have hB := hG.1
  have hA0 : zc_Ag m_M_text σ0 σ0 := zc_Ag.rf
  show zc_V 2 K G (zc_D shM K G σ0) [(0, .ref (zk K 0))] 0 []
  have bw0_8 : 0 ≤ (σ0.1 0 8).toInt ∧ (σ0.1 0 8).toInt ≤ 5 := ⟨(hO0 0 8).1, (hO0 0 8).2.1⟩
  have bw0_9 : 0 ≤ (σ0.1 0 9).toInt ∧ (σ0.1 0 9).toInt ≤ 120 := ⟨(hO0 0 9).1, (hO0 0 9).2.1⟩
  have bw0_11 : 0 ≤ (σ0.1 0 11).toInt ∧ (σ0.1 0 11).toInt ≤ 120 := ⟨(hO0 0 11).1, (hO0 0 11).2.1⟩
  have bw0_12 : 0 ≤ (σ0.1 0 12).toInt ∧ (σ0.1 0 12).toInt ≤ 3 := ⟨(hO0 0 12).1, (hO0 0 12).2.1⟩
  have bw0_21 : 0 ≤ (σ0.1 0 21).toInt ∧ (σ0.1 0 21).toInt ≤ 6 := ⟨(hO0 0 21).1, (hO0 0 21).2.1⟩
  refine zr_aload_n hB 0 dX9_text_0 rfl ?_
  refine zr_iconst hB dX9_text_1 rfl (fun c1 ec1 => ?_)
  refine zr_puti hG 0 8 dX9_text_2 rfl wp_X9_128 rfl ?_
  have hOw2 := zc_O.u hO0 0 8 (v := c1) (show 0 ≤ c1.toInt by omega) (show c1.toInt ≤ 5 by omega) (Or.inr (show 0 ≤ c1.toInt by omega))
  have hAw2 := zc_Ag.u hA0 0 8 c1 rfl
  have hc3 : zm_T (zc_u σ0 0 8 c1) := zm_T.ag hT (zc_Ag.u (M := [(0, some 8)]) (σ := σ0) zc_Ag.rf 0 8 c1 rfl) rfl (fun _ => rfl) (fun _ => rfl)
  refine zr_aload_n hB 0 dX9_text_5 rfl ?_
  refine zr_iconst hB dX9_text_6 rfl (fun c4 ec4 => ?_)
  refine zr_puti hG 0 10 dX9_text_7 rfl wp_X9_137 rfl ?_
  have hOw5 := zc_O.u hOw2 0 10 (v := c4) (show 0 ≤ c4.toInt by omega) (show c4.toInt ≤ 120 by omega) (Or.inr (show 0 ≤ c4.toInt by omega))
  have hAw5 := zc_Ag.u hAw2 0 10 c4 rfl
  have hc6 : zm_T (zc_u (zc_u σ0 0 8 c1) 0 10 c4) := zm_T.ag hc3 (zc_Ag.u (M := [(0, some 10)]) (σ := (zc_u σ0 0 8 c1)) zc_Ag.rf 0 10 c4 rfl) rfl (fun _ => rfl) (fun _ => rfl)
  refine zr_aload_n hB 0 dX9_text_10 rfl ?_
  refine zr_iconst hB dX9_text_11 rfl (fun c7 ec7 => ?_)
  refine zr_puti hG 0 21 dX9_text_12 rfl wp_X9_168 rfl ?_
  have hOw8 := zc_O.u hOw5 0 21 (v := c7) (show 0 ≤ c7.toInt by omega) (show c7.toInt ≤ 6 by omega) (Or.inr (show 0 ≤ c7.toInt by omega))
  have hAw8 := zc_Ag.u hAw5 0 21 c7 rfl
  have hc9 : zm_T (zc_u (zc_u (zc_u σ0 0 8 c1) 0 10 c4) 0 21 c7) := zm_T.ag hc6 (zc_Ag.u (M := [(0, some 21)]) (σ := (zc_u (zc_u σ0 0 8 c1) 0 10 c4)) zc_Ag.rf 0 21 c7 rfl) rfl (fun _ => rfl) (fun _ => rfl)
  have hc10 : zm_N (zc_u (zc_u (zc_u σ0 0 8 c1) 0 10 c4) 0 21 c7) := zm_N0 (show c7.toInt ≤ 0 by omega)
  refine zr_aload_n hB 0 dX9_text_15 rfl ?_
  refine zr_callvn hG (rest := []) 0 dX9_text_16 wm_X9_161 rfl rfl (c_M_next K hG.2.2.2.2.2.1 (zc_u (zc_u (zc_u σ0 0 8 c1) 0 10 c4) 0 21 c7)  hOw8 (Or.inl (show c1.toInt = 0 by omega))) rfl rfl (Nat.le_of_ble_eq_true rfl) ⟨Nat.le_of_ble_eq_true rfl, Nat.le_of_ble_eq_true rfl, rfl, rfl⟩ (fun σ12 h13 => ?_)
  obtain ⟨hO14, hAc15, g16, g17, g18, g19⟩ := h13
  have hA20 := zc_Ag.tr hAw8 hAc15 rfl
  have q21 : (σ12.1 0 21).toInt = c7.toInt := congrArg Int32.toInt (hAc15 0 21 rfl).1
  have hc22 : zm_T σ12 := zm_T.ag hc9 hAc15 rfl (fun _ => rfl) (fun _ => rfl)
  have hc23 : zm_N σ12 := zm_N.ag hc10 hAc15 rfl (fun _ => rfl) (fun _ => rfl)
  have g16' : (c1.toInt = 0 ∨ 1 ≤ (σ12.1 0 8).toInt) := g16
  have g19' : zw_iw (σ12.1 0 8).toInt (σ12.1 0 9).toInt (σ12.1 0 11).toInt := g19
  have q0 : zw_M σ12 = zw_tk (zw_bM σ0) 0 := by have h9 : zw_M σ12 = zw_adv (zw_bM σ0) (zw_M (zc_u (zc_u (zc_u σ0 0 8 c1) 0 10 c4) 0 21 c7)) := g17; rw [h9, zw_adv_0 (P := zw_M (zc_u (zc_u (zc_u σ0 0 8 c1) 0 10 c4) 0 21 c7)) (show c1.toInt = 0 by omega)]; show zw_tk (zw_bM σ0) c4.toInt.toNat = _; rw [show c4.toInt.toNat = 0 by omega]
  have hL0 : zw_LM σ12 = zw_LM0 σ0 := (zw_LM_ag hAc15 rfl (fun _ => rfl) (fun _ => rfl) (fun _ => rfl)).trans (by show (c7.toInt, _) = _; rw [show c7.toInt = 0 by omega]; rfl)
  have L19_29 : ∀ (n19 : Nat) (σ24 : zc_S) , zc_O okM σ24 → zc_Ag m_M_text σ0 σ24 → zm_T σ24 → zm_N σ24 → 0 ≤ (σ24.1 0 21).toInt → (σ24.1 0 21).toInt ≤ 6 → 0 ≤ (σ24.1 0 8).toInt → (σ24.1 0 8).toInt ≤ 5 → zw_it (zw_bM σ0) (8 - (σ24.1 0 21).toInt).toNat (zw_M σ24, zw_LM σ24) = (zw_rM σ0) → zw_TM σ24 = zw_TM σ0 → zw_bM σ24 = (zw_bM σ0) → zw_iw (σ24.1 0 8).toInt (σ24.1 0 9).toInt (σ24.1 0 11).toInt → 12 - (σ24.1 0 21).toInt - (σ24.1 0 8).toInt < (n19 : Int) → zc_V 2 K G (zc_D shM K G σ24) [(0, .ref (zk K 0))] 19 [] := by
    intro n19
    induction n19 with
    | zero => intro σ24 hO24 hA24 hc30 hc31 e25 e26 e27 e28 hr hTT hb0 hI9 hn19; exfalso; omega
    | succ n19 ih19 =>
      intro σ24 hO24 hA24 hc30 hc31 e25 e26 e27 e28 hr hTT hb0 hI9 hn19
      refine zr_aload_n hB 0 dX9_text_19 rfl ?_
      refine zr_geti' hG 0 8 (σ24.1 0 8) dX9_text_20 rfl wf_X9_128 rfl rfl ?_
      have b32 : 0 ≤ (σ24.1 0 8).toInt ∧ (σ24.1 0 8).toInt ≤ 5 := ⟨(hO24 0 8).1, (hO24 0 8).2.1⟩
      refine zr_if_ne hB dX9_text_23 (tgt := 40) rfl (fun c33 => ?_) (fun c33 => ?_)
      · have hR : (zw_M σ24, zw_LM σ24) = (zw_rM σ0) := by have h9 := hr; rw [zw_itn (by rintro ⟨a, b⟩; have a' : (σ24.1 0 8).toInt = 0 := a; have b' : ¬ (σ24.1 0 12).toInt = 0 := b; omega)] at h9; exact h9
        have hR1 : (σ24.1 0 8).toInt = (zw_rM σ0).1.1 := congrArg (fun x : zw_P × zw_L => x.1.1) hR
        have hR2 : (σ24.1 0 11).toInt = (((zw_rM σ0).1.2.1 : Nat) : Int) := zw_M_s (congrArg Prod.fst hR) (hO24 0 11).1
        have hR3 : (σ24.1 0 21).toInt = (zw_rM σ0).2.1 := congrArg (fun x : zw_P × zw_L => x.2.1) hR
        have hR4 : zw_LM σ24 = (zw_rM σ0).2 := congrArg Prod.snd hR
        refine zr_aload_n hB 0 dX9_text_40 rfl ?_
        refine zr_iconst hB dX9_text_41 rfl (fun c34 ec34 => ?_)
        refine zr_puti hG 0 6 dX9_text_42 rfl wp_X9_125 rfl ?_
        have hOw35 := zc_O.u hO24 0 6 (v := c34) (show 0 ≤ c34.toInt by omega) (show c34.toInt ≤ 120 by omega) (Or.inr (show 0 ≤ c34.toInt by omega))
        have hAw35 := zc_Ag.u hA24 0 6 c34 rfl
        have hc36 : zm_T (zc_u σ24 0 6 c34) := zm_T.ag hc30 (zc_Ag.u (M := [(0, some 6)]) (σ := σ24) zc_Ag.rf 0 6 c34 rfl) rfl (fun _ => rfl) (fun _ => rfl)
        have hc37 : zm_N (zc_u σ24 0 6 c34) := zm_N.ag hc31 (zc_Ag.u (M := [(0, some 6)]) (σ := σ24) zc_Ag.rf 0 6 c34 rfl) rfl (fun _ => rfl) (fun _ => rfl)
        refine zr_aload_n hB 0 dX9_text_45 rfl ?_
        refine zr_aload_n hB 0 dX9_text_46 rfl ?_
        refine zr_geti' hG 0 8 (σ24.1 0 8) dX9_text_47 rfl wf_X9_128 rfl rfl ?_
        refine zr_puti hG 0 7 dX9_text_50 rfl wp_X9_178 rfl ?_
        have hOw38 := zc_O.u hOw35 0 7 (v := (σ24.1 0 8)) (show 0 ≤ (σ24.1 0 8).toInt by omega) (show (σ24.1 0 8).toInt ≤ 5 by omega) (Or.inr (show 0 ≤ (σ24.1 0 8).toInt by omega))
        have hAw38 := zc_Ag.u hAw35 0 7 (σ24.1 0 8) rfl
        have hc39 : zm_T (zc_u (zc_u σ24 0 6 c34) 0 7 (σ24.1 0 8)) := zm_T.ag hc36 (zc_Ag.u (M := [(0, some 7)]) (σ := (zc_u σ24 0 6 c34)) zc_Ag.rf 0 7 (σ24.1 0 8) rfl) rfl (fun _ => rfl) (fun _ => rfl)
        have hc40 : zm_N (zc_u (zc_u σ24 0 6 c34) 0 7 (σ24.1 0 8)) := zm_N.ag hc37 (zc_Ag.u (M := [(0, some 7)]) (σ := (zc_u σ24 0 6 c34)) zc_Ag.rf 0 7 (σ24.1 0 8) rfl) rfl (fun _ => rfl) (fun _ => rfl)
        refine zr_aload_n hB 0 dX9_text_53 rfl ?_
        refine zr_geti' hG 0 8 (σ24.1 0 8) dX9_text_54 rfl wf_X9_128 rfl rfl ?_
        refine zr_if_le hB dX9_text_57 (tgt := 68) rfl (fun c41 => ?_) (fun c41 => ?_)
        · exfalso; omega
        refine zr_bipush hB dX9_text_60 rfl (fun c42 ec42 => ?_)
        refine zr_aload_n hB 0 dX9_text_62 rfl ?_
        refine zr_geti' hG 0 9 (σ24.1 0 9) dX9_text_63 rfl wf_X9_134 rfl rfl ?_
        have b43 : 0 ≤ (σ24.1 0 9).toInt ∧ (σ24.1 0 9).toInt ≤ 120 := ⟨(hOw38 0 9).1, (hOw38 0 9).2.1⟩
        refine zr_isub hB dX9_text_66 (by omega) (by omega) (fun x44 ex44 => ?_)
        exact zr_iret hG dX9_text_67 ⟨hOw38, hAw38, by omega, by omega, (show c34.toInt = 0 by omega), hc39, (show (σ24.1 0 8).toInt = (zw_rM σ0).1.1 by omega), (Or.inl ⟨by omega, (by have h9 := hI9; unfold zw_iw at h9; omega), hTT⟩)⟩
      refine zr_aload_n hB 0 dX9_text_26 rfl ?_
      refine zr_geti' hG 0 12 (σ24.1 0 12) dX9_text_27 rfl wf_X9_146 rfl rfl ?_
      have b45 : 0 ≤ (σ24.1 0 12).toInt ∧ (σ24.1 0 12).toInt ≤ 3 := ⟨(hO24 0 12).1, (hO24 0 12).2.1⟩
      refine zr_if_eq hB dX9_text_30 (tgt := 40) rfl (fun c46 => ?_) (fun c46 => ?_)
      · have hR : (zw_M σ24, zw_LM σ24) = (zw_rM σ0) := by have h9 := hr; rw [zw_itn (by rintro ⟨a, b⟩; have a' : (σ24.1 0 8).toInt = 0 := a; have b' : ¬ (σ24.1 0 12).toInt = 0 := b; omega)] at h9; exact h9
        have hR1 : (σ24.1 0 8).toInt = (zw_rM σ0).1.1 := congrArg (fun x : zw_P × zw_L => x.1.1) hR
        have hR2 : (σ24.1 0 11).toInt = (((zw_rM σ0).1.2.1 : Nat) : Int) := zw_M_s (congrArg Prod.fst hR) (hO24 0 11).1
        have hR3 : (σ24.1 0 21).toInt = (zw_rM σ0).2.1 := congrArg (fun x : zw_P × zw_L => x.2.1) hR
        have hR4 : zw_LM σ24 = (zw_rM σ0).2 := congrArg Prod.snd hR
        refine zr_aload_n hB 0 dX9_text_40 rfl ?_
        refine zr_iconst hB dX9_text_41 rfl (fun c47 ec47 => ?_)
        refine zr_puti hG 0 6 dX9_text_42 rfl wp_X9_125 rfl ?_
        have hOw48 := zc_O.u hO24 0 6 (v := c47) (show 0 ≤ c47.toInt by omega) (show c47.toInt ≤ 120 by omega) (Or.inr (show 0 ≤ c47.toInt by omega))
        have hAw48 := zc_Ag.u hA24 0 6 c47 rfl
        have hc49 : zm_T (zc_u σ24 0 6 c47) := zm_T.ag hc30 (zc_Ag.u (M := [(0, some 6)]) (σ := σ24) zc_Ag.rf 0 6 c47 rfl) rfl (fun _ => rfl) (fun _ => rfl)
        have hc50 : zm_N (zc_u σ24 0 6 c47) := zm_N.ag hc31 (zc_Ag.u (M := [(0, some 6)]) (σ := σ24) zc_Ag.rf 0 6 c47 rfl) rfl (fun _ => rfl) (fun _ => rfl)
        refine zr_aload_n hB 0 dX9_text_45 rfl ?_
        refine zr_aload_n hB 0 dX9_text_46 rfl ?_
        refine zr_geti' hG 0 8 (σ24.1 0 8) dX9_text_47 rfl wf_X9_128 rfl rfl ?_
        refine zr_puti hG 0 7 dX9_text_50 rfl wp_X9_178 rfl ?_
        have hOw51 := zc_O.u hOw48 0 7 (v := (σ24.1 0 8)) (show 0 ≤ (σ24.1 0 8).toInt by omega) (show (σ24.1 0 8).toInt ≤ 5 by omega) (Or.inr (show 0 ≤ (σ24.1 0 8).toInt by omega))
        have hAw51 := zc_Ag.u hAw48 0 7 (σ24.1 0 8) rfl
        have hc52 : zm_T (zc_u (zc_u σ24 0 6 c47) 0 7 (σ24.1 0 8)) := zm_T.ag hc49 (zc_Ag.u (M := [(0, some 7)]) (σ := (zc_u σ24 0 6 c47)) zc_Ag.rf 0 7 (σ24.1 0 8) rfl) rfl (fun _ => rfl) (fun _ => rfl)
        have hc53 : zm_N (zc_u (zc_u σ24 0 6 c47) 0 7 (σ24.1 0 8)) := zm_N.ag hc50 (zc_Ag.u (M := [(0, some 7)]) (σ := (zc_u σ24 0 6 c47)) zc_Ag.rf 0 7 (σ24.1 0 8) rfl) rfl (fun _ => rfl) (fun _ => rfl)
        refine zr_aload_n hB 0 dX9_text_53 rfl ?_
        refine zr_geti' hG 0 8 (σ24.1 0 8) dX9_text_54 rfl wf_X9_128 rfl rfl ?_
        refine zr_if_le hB dX9_text_57 (tgt := 68) rfl (fun c54 => ?_) (fun c54 => ?_)
        · refine zr_aload_n hB 0 dX9_text_68 rfl ?_
          refine zr_aload_n hB 0 dX9_text_69 rfl ?_
          refine zr_geti' hG 0 21 (σ24.1 0 21) dX9_text_70 rfl wf_X9_168 rfl rfl ?_
          have b55 : 0 ≤ (σ24.1 0 21).toInt ∧ (σ24.1 0 21).toInt ≤ 6 := ⟨(hOw51 0 21).1, (hOw51 0 21).2.1⟩
          refine zr_puti hG 0 17 dX9_text_73 rfl wp_X9_181 rfl ?_
          have hOw56 := zc_O.u hOw51 0 17 (v := (σ24.1 0 21)) (show 0 ≤ (σ24.1 0 21).toInt by omega) (show (σ24.1 0 21).toInt ≤ 6 by omega) (Or.inr (show 0 ≤ (σ24.1 0 21).toInt by omega))
          have hAw56 := zc_Ag.u hAw51 0 17 (σ24.1 0 21) rfl
          have hc57 : zm_N (zc_u (zc_u (zc_u σ24 0 6 c47) 0 7 (σ24.1 0 8)) 0 17 (σ24.1 0 21)) := zm_N.ag hc53 (zc_Ag.u (M := [(0, some 17)]) (σ := (zc_u (zc_u σ24 0 6 c47) 0 7 (σ24.1 0 8))) zc_Ag.rf 0 17 (σ24.1 0 21) rfl) rfl (fun _ => rfl) (fun _ => rfl)
          refine zr_iconst hB dX9_text_76 rfl (fun c58 ec58 => ?_)
          refine zr_istore_n hB dX9_text_77 rfl (by decide) (lv' := [(1, .int c58), (0, .ref (zk K 0))]) rfl ?_
          have L78_64 : ∀ (n78 : Nat) (σ60 : zc_S) (y1_59 : Int32), zc_O okM σ60 → zc_Ag m_M_text σ0 σ60 → zm_N σ60 → 0 ≤ y1_59.toInt → y1_59.toInt ≤ 6 → (σ60.1 0 6).toInt = 0 → (σ60.1 0 17).toInt = (σ60.1 0 21).toInt → zm_C σ60 y1_59.toInt → zw_d σ60 y1_59.toInt → zw_LM σ60 = (zw_rM σ0).2 → (σ60.1 0 7).toInt = 0 → 6 - y1_59.toInt < (n78 : Int) → zc_V 2 K G (zc_D shM K G σ60) [(0, .ref (zk K 0)), (1, .int y1_59)] 78 [] := by
            intro n78
            induction n78 with
            | zero => intro σ60 y1_59 hO60 hA60 hc65 y1_59a y1_59b e61 e62 hcp hdd hLL e63 hn78; exfalso; omega
            | succ n78 ih78 =>
              intro σ60 y1_59 hO60 hA60 hc65 y1_59a y1_59b e61 e62 hcp hdd hLL e63 hn78
              refine zr_iload_n hB 1 dX9_text_78 rfl ?_
              refine zr_bipush hB dX9_text_79 rfl (fun c66 ec66 => ?_)
              refine zr_icmp_ge hB dX9_text_81 (tgt := 126) rfl (fun c67 => ?_) (fun c67 => ?_)
              · have hn9 : (σ60.1 0 21).toInt = (zw_rM σ0).2.1 := congrArg Prod.fst hLL
                refine zr_aload_n hB 0 dX9_text_126 rfl ?_
                refine zr_geti' hG 0 17 (σ60.1 0 17) dX9_text_127 rfl wf_X9_181 rfl rfl ?_
                have b68 : 0 ≤ (σ60.1 0 17).toInt ∧ (σ60.1 0 17).toInt ≤ 6 := ⟨(hO60 0 17).1, (hO60 0 17).2.1⟩
                exact zr_iret hG dX9_text_130 ⟨hO60, hA60, by omega, by omega, (show (σ60.1 0 6).toInt = 0 by omega), zm_TN hc65 (show zm_C σ60 6 by have h6 : y1_59.toInt = 6 := (by omega); rw [← h6]; exact hcp) (by omega) (by omega), (show (σ60.1 0 7).toInt = (zw_rM σ0).1.1 by omega), (Or.inr ⟨by omega, by omega, zw_dq hLL (by omega) hdd (by omega)⟩)⟩
              refine zr_aload_n hB 0 dX9_text_84 rfl ?_
              refine zr_getr hG 0 18 dX9_text_85 rfl wf_X9_32 rfl ?_
              refine zr_iload_n hB 1 dX9_text_88 rfl ?_
              refine zr_aload_n hB 0 dX9_text_89 rfl ?_
              refine zr_getr hG 0 22 dX9_text_90 rfl wf_X9_41 rfl ?_
              refine zr_iload_n hB 1 dX9_text_93 rfl ?_
              refine zr_iald hG 11 dX9_text_94 rfl (by omega) (by omega) (fun x69 ex69 => ?_)
              have bx69 : 0 ≤ x69.toInt ∧ x69.toInt ≤ 4 := by rw [ex69]; exact ⟨(hO60 11 _).1, (hO60 11 _).2.1⟩
              refine zr_iast hG 8 dX9_text_95 rfl (by omega) (by omega)  ?_
              have hOw70 := zc_O.u hO60 8 y1_59.toInt.toNat (v := x69) (show 0 ≤ x69.toInt by omega) (show x69.toInt ≤ 4 by omega) (Or.inr (show 0 ≤ x69.toInt by omega))
              have hAw70 := zc_Ag.u hA60 8 y1_59.toInt.toNat x69 rfl
              have hc71 : zm_N (zc_u σ60 8 y1_59.toInt.toNat x69) := zm_N.ag hc65 (zc_Ag.u (M := [(8, none)]) (σ := σ60) zc_Ag.rf 8 y1_59.toInt.toNat x69 rfl) rfl (fun _ => rfl) (fun _ => rfl)
              refine zr_aload_n hB 0 dX9_text_96 rfl ?_
              refine zr_getr hG 0 19 dX9_text_97 rfl wf_X9_35 rfl ?_
              refine zr_iload_n hB 1 dX9_text_100 rfl ?_
              refine zr_aload_n hB 0 dX9_text_101 rfl ?_
              refine zr_getr hG 0 23 dX9_text_102 rfl wf_X9_44 rfl ?_
              refine zr_iload_n hB 1 dX9_text_105 rfl ?_
              refine zr_iald hG 12 dX9_text_106 rfl (by omega) (by omega) (fun x72 ex72 => ?_)
              refine zr_iast hG 9 dX9_text_107 rfl (by omega) (by omega)  ?_
              have hOw73 := zc_O.u hOw70 9 y1_59.toInt.toNat (v := x72) (zn_lo _) (zn_hi _) (Or.inr (zn_lo _))
              have hAw73 := zc_Ag.u hAw70 9 y1_59.toInt.toNat x72 rfl
              have hc74 : zm_N (zc_u (zc_u σ60 8 y1_59.toInt.toNat x69) 9 y1_59.toInt.toNat x72) := zm_N.ag hc71 (zc_Ag.u (M := [(9, none)]) (σ := (zc_u σ60 8 y1_59.toInt.toNat x69)) zc_Ag.rf 9 y1_59.toInt.toNat x72 rfl) rfl (fun _ => rfl) (fun _ => rfl)
              refine zr_aload_n hB 0 dX9_text_108 rfl ?_
              refine zr_getr hG 0 20 dX9_text_109 rfl wf_X9_38 rfl ?_
              refine zr_iload_n hB 1 dX9_text_112 rfl ?_
              refine zr_aload_n hB 0 dX9_text_113 rfl ?_
              refine zr_getr hG 0 24 dX9_text_114 rfl wf_X9_47 rfl ?_
              refine zr_iload_n hB 1 dX9_text_117 rfl ?_
              refine zr_iald hG 13 dX9_text_118 rfl (by omega) (by omega) (fun x75 ex75 => ?_)
              refine zr_iast hG 10 dX9_text_119 rfl (by omega) (by omega)  ?_
              have hOw76 := zc_O.u hOw73 10 y1_59.toInt.toNat (v := x75) (zn_lo _) (zn_hi _) (Or.inr (zn_lo _))
              have hAw76 := zc_Ag.u hAw73 10 y1_59.toInt.toNat x75 rfl
              have hc77 : zm_N (zc_u (zc_u (zc_u σ60 8 y1_59.toInt.toNat x69) 9 y1_59.toInt.toNat x72) 10 y1_59.toInt.toNat x75) := zm_N.ag hc74 (zc_Ag.u (M := [(10, none)]) (σ := (zc_u (zc_u σ60 8 y1_59.toInt.toNat x69) 9 y1_59.toInt.toNat x72)) zc_Ag.rf 10 y1_59.toInt.toNat x75 rfl) rfl (fun _ => rfl) (fun _ => rfl)
              refine zr_iinc hB 1 dX9_text_120 rfl (by decide) rfl (by omega) (by omega) (fun x78 ex78 lv' hlv => ?_)
              obtain rfl : [(1, .int x78), (0, .ref (zk K 0))] = lv' := hlv
              refine zr_goto hB dX9_text_123 (tgt := 78) rfl ?_
              have b79 : 0 ≤ (σ60.1 0 6).toInt ∧ (σ60.1 0 6).toInt ≤ 120 := ⟨(hOw76 0 6).1, (hOw76 0 6).2.1⟩
              have b80 : 0 ≤ (σ60.1 0 17).toInt ∧ (σ60.1 0 17).toInt ≤ 6 := ⟨(hOw76 0 17).1, (hOw76 0 17).2.1⟩
              have b81 : 0 ≤ (σ60.1 0 21).toInt ∧ (σ60.1 0 21).toInt ≤ 6 := ⟨(hOw76 0 21).1, (hOw76 0 21).2.1⟩
              have b82 : 0 ≤ (σ60.1 0 7).toInt ∧ (σ60.1 0 7).toInt ≤ 5 := ⟨(hOw76 0 7).1, (hOw76 0 7).2.1⟩
              exact zc_sub [1, 0] rfl (ih78 (zc_u (zc_u (zc_u σ60 8 y1_59.toInt.toNat x69) 9 y1_59.toInt.toNat x72) 10 y1_59.toInt.toNat x75) x78 hOw76 hAw76 hc77 (by omega) (by omega) (show (σ60.1 0 6).toInt = 0 by omega) (show (σ60.1 0 17).toInt = (σ60.1 0 21).toInt by omega) (show zm_C (zc_u (zc_u (zc_u σ60 8 y1_59.toInt.toNat x69) 9 y1_59.toInt.toNat x72) 10 y1_59.toInt.toNat x75) x78.toInt by exact zm_C_add hcp rfl (by omega) (by omega) ex69 ex72) (show zw_d (zc_u (zc_u (zc_u σ60 8 y1_59.toInt.toNat x69) 9 y1_59.toInt.toNat x72) 10 y1_59.toInt.toNat x75) x78.toInt by exact zw_du hdd (by omega) (by omega) ex69 ex72 ex75) (show zw_LM (zc_u (zc_u (zc_u σ60 8 y1_59.toInt.toNat x69) 9 y1_59.toInt.toNat x72) 10 y1_59.toInt.toNat x75) = (zw_rM σ0).2 by exact hLL) (show (σ60.1 0 7).toInt = 0 by omega) (by omega))
          exact zc_sub [1, 0] rfl (L78_64 8 (zc_u (zc_u (zc_u σ24 0 6 c47) 0 7 (σ24.1 0 8)) 0 17 (σ24.1 0 21)) c58 hOw56 hAw56 hc57 (by omega) (by omega) (show c47.toInt = 0 by omega) (show (σ24.1 0 21).toInt = (σ24.1 0 21).toInt by omega) (show zm_C (zc_u (zc_u (zc_u σ24 0 6 c47) 0 7 (σ24.1 0 8)) 0 17 (σ24.1 0 21)) c58.toInt by exact zm_C0 (by omega)) (show zw_d (zc_u (zc_u (zc_u σ24 0 6 c47) 0 7 (σ24.1 0 8)) 0 17 (σ24.1 0 21)) c58.toInt by exact zw_d0 (by omega)) (show zw_LM (zc_u (zc_u (zc_u σ24 0 6 c47) 0 7 (σ24.1 0 8)) 0 17 (σ24.1 0 21)) = (zw_rM σ0).2 by exact hR4) (show (σ24.1 0 8).toInt = 0 by omega) (by omega))
        exfalso; omega
      refine zr_aload_n hB 0 dX9_text_33 rfl ?_
      have hbz := hb0
      refine zr_callvn hG (rest := []) 0 dX9_text_34 wm_X9_175 rfl rfl (c_M_readLine K hG.2.2.2.2.2.1 σ24  hO24 (by omega) hc31 (zw_K.ag hK hA24 rfl (fun _ => rfl) (fun _ => rfl))) rfl rfl (Nat.le_of_ble_eq_true rfl) ⟨Nat.le_of_ble_eq_true rfl, Nat.le_of_ble_eq_true rfl, rfl, rfl⟩ (fun σ84 h85 => ?_)
      obtain ⟨hO86, hAc87, g88, g89, g90, g91, g92, g93, g94⟩ := h85
      have hA95 := zc_Ag.tr hA24 hAc87 rfl
      have hc96 : zm_T σ84 := zm_T.ag hc30 hAc87 rfl (fun _ => rfl) (fun _ => rfl)
      refine zr_goto hB dX9_text_37 (tgt := 19) rfl ?_
      have b97 : 0 ≤ (σ84.1 0 21).toInt ∧ (σ84.1 0 21).toInt ≤ 6 := ⟨(hO86 0 21).1, (hO86 0 21).2.1⟩
      have b98 : 0 ≤ (σ84.1 0 8).toInt ∧ (σ84.1 0 8).toInt ≤ 5 := ⟨(hO86 0 8).1, (hO86 0 8).2.1⟩
      have b99 : 0 ≤ (σ84.1 0 9).toInt ∧ (σ84.1 0 9).toInt ≤ 120 := ⟨(hO86 0 9).1, (hO86 0 9).2.1⟩
      have b100 : 0 ≤ (σ84.1 0 11).toInt ∧ (σ84.1 0 11).toInt ≤ 120 := ⟨(hO86 0 11).1, (hO86 0 11).2.1⟩
      exact ih19 σ84 hO86 hA95 hc96 g90 (show 0 ≤ (σ84.1 0 21).toInt by omega) (show (σ84.1 0 21).toInt ≤ 6 by omega) (show 0 ≤ (σ84.1 0 8).toInt by omega) (show (σ84.1 0 8).toInt ≤ 5 by omega) (show zw_it (zw_bM σ0) (8 - (σ84.1 0 21).toInt).toNat (zw_M σ84, zw_LM σ84) = (zw_rM σ0) by exact zw_step hr (Prod.ext (by rw [← hbz]; exact g91) (by rw [← hbz]; exact g92)) (show (σ24.1 0 8).toInt = 0 by omega) (show ¬ (σ24.1 0 12).toInt = 0 by omega) (by omega) (by rcases g94 with h9 | ⟨h9, h8⟩; exact Or.inl (by omega); exact Or.inr (show ¬ (σ84.1 0 8).toInt = 0 by omega))) (show zw_TM σ84 = zw_TM σ0 by exact (zw_TM_ag hAc87 rfl (fun _ => rfl) (fun _ => rfl) (fun _ => rfl)).trans hTT) (show zw_bM σ84 = (zw_bM σ0) by exact (zw_bM.ag hAc87 rfl (fun _ => rfl)).trans hb0) (show zw_iw (σ84.1 0 8).toInt (σ84.1 0 9).toInt (σ84.1 0 11).toInt by exact g93) (show 12 - (σ84.1 0 21).toInt - (σ84.1 0 8).toInt < (n19 : Int) by omega)
  have b101 : 0 ≤ (σ12.1 0 21).toInt ∧ (σ12.1 0 21).toInt ≤ 6 := ⟨(hO14 0 21).1, (hO14 0 21).2.1⟩
  have b102 : 0 ≤ (σ12.1 0 8).toInt ∧ (σ12.1 0 8).toInt ≤ 5 := ⟨(hO14 0 8).1, (hO14 0 8).2.1⟩
  have b103 : 0 ≤ (σ12.1 0 9).toInt ∧ (σ12.1 0 9).toInt ≤ 120 := ⟨(hO14 0 9).1, (hO14 0 9).2.1⟩
  have b104 : 0 ≤ (σ12.1 0 11).toInt ∧ (σ12.1 0 11).toInt ≤ 120 := ⟨(hO14 0 11).1, (hO14 0 11).2.1⟩
  exact L19_29 20 σ12 hO14 hA20 hc22 hc23 (show 0 ≤ (σ12.1 0 21).toInt by omega) (show (σ12.1 0 21).toInt ≤ 6 by omega) (show 0 ≤ (σ12.1 0 8).toInt by omega) (show (σ12.1 0 8).toInt ≤ 5 by omega) (show zw_it (zw_bM σ0) (8 - (σ12.1 0 21).toInt).toNat (zw_M σ12, zw_LM σ12) = (zw_rM σ0) by unfold zw_rM; rw [show (8 - (σ12.1 0 21).toInt).toNat = 8 by omega, hL0, q0]) (show zw_TM σ12 = zw_TM σ0 by exact (zw_TM_ag hAc15 rfl (fun _ => rfl) (fun _ => rfl) (fun _ => rfl)).trans rfl) (show zw_bM σ12 = (zw_bM σ0) by exact (zw_bM.ag hAc15 rfl (fun _ => rfl)).trans rfl) (show zw_iw (σ12.1 0 8).toInt (σ12.1 0 9).toInt (σ12.1 0 11).toInt by exact g19) (show 12 - (σ12.1 0 21).toInt - (σ12.1 0 8).toInt < ((20 : Nat) : Int) by omega)

set_option maxHeartbeats 1000000 in
set_option maxRecDepth 100000 in
theorem c_M_isTeller (K : zc_K) (hi : zc_inj shM K.2.2.2.1) (σ0 : zc_S) (p1 : Int32) (hO0 : zc_O okM σ0)  : zc_M shM K yX9_isTeller cX9_isTeller 2 (some .boolean) (zrm 1 25) σ0 [.ref (zk K 0), .int p1] (zc_I (fun r9 σ9 => σ0 = σ9 ∧ zc_if r9 (0 ≤ p1.toInt ∧ p1.toInt < (σ0.1 0 17).toInt ∧ p1.toInt ≤ 5))) := by
  refine zc_start RX9 hi pfX9_isTeller rfl (Nat.le_of_ble_eq_true rfl) ?_
  intro G hG
  have hB := hG.1
  show zc_V 2 K G (zc_D shM K G σ0) [(0, .ref (zk K 0)), (1, .int p1)] 0 []
  refine zr_iload_n hB 1 dX9_isTeller_0 rfl ?_
  have v2 := And.intro (zn_lo p1) (zn_hi p1)
  refine zr_i2l hB dX9_isTeller_1 (fun l1 el1 => ?_)
  refine zr_lconst hB dX9_isTeller_2 (m := 0) rfl (fun c3 ec3 => ?_)
  refine zr_aload_n hB 0 dX9_isTeller_3 rfl ?_
  refine zr_geti' hG 0 17 (σ0.1 0 17) dX9_isTeller_4 rfl wf_X9_181 rfl rfl ?_
  have b4 : 0 ≤ (σ0.1 0 17).toInt ∧ (σ0.1 0 17).toInt ≤ 6 := ⟨(hO0 0 17).1, (hO0 0 17).2.1⟩
  refine zr_iconst hB dX9_isTeller_7 rfl (fun c5 ec5 => ?_)
  refine zr_isub hB dX9_isTeller_8 (by omega) (by omega) (fun x6 ex6 => ?_)
  refine zr_i2l hB dX9_isTeller_9 (fun l7 el7 => ?_)
  refine zr_callsi hG (rest := []) dX9_isTeller_10 wm_X9_91 (c_M_in K hG.2.2.2.2.2.1 σ0 l1 c3 l7 hO0 ) rfl rfl (Nat.le_of_ble_eq_true rfl) ⟨Nat.le_of_ble_eq_true rfl, Nat.le_of_ble_eq_true rfl, rfl, rfl⟩ (fun r8 σ9 h10 => ?_)
  obtain ⟨rfl, r8q⟩ := h10
  have r8z := r8q.b
  exact zr_zret hG dX9_isTeller_13 (by omega) (by omega) ⟨rfl, zc_if.to r8q ⟨fun hq9 => by omega, fun hq9 => by omega⟩⟩

set_option maxHeartbeats 1000000 in
set_option maxRecDepth 100000 in
theorem c_M_teller (K : zc_K) (hi : zc_inj shM K.2.2.2.1) (σ0 : zc_S) (p1 : Int32) (p2 : Int32) (hO0 : zc_O okM σ0)  : zc_M shM K yX9_teller cX9_teller 3 (some .int) (zrm 2 46) σ0 [.ref (zk K 0), .int p1, .int p2] (zc_I (fun r9 σ9 => σ0 = σ9 ∧ ((¬ (0 ≤ p1.toInt ∧ p1.toInt < (σ0.1 0 17).toInt ∧ 0 ≤ p2.toInt ∧ p2.toInt ≤ 2) ∧ r9.toInt = -1) ∨ ((0 ≤ p1.toInt ∧ p1.toInt < (σ0.1 0 17).toInt ∧ 0 ≤ p2.toInt ∧ p2.toInt ≤ 2) ∧ p2.toInt = 0 ∧ r9.toInt = (σ0.1 8 p1.toInt.toNat).toInt) ∨ ((0 ≤ p1.toInt ∧ p1.toInt < (σ0.1 0 17).toInt ∧ 0 ≤ p2.toInt ∧ p2.toInt ≤ 2) ∧ p2.toInt = 1 ∧ r9.toInt = (σ0.1 9 p1.toInt.toNat).toInt) ∨ ((0 ≤ p1.toInt ∧ p1.toInt < (σ0.1 0 17).toInt ∧ 0 ≤ p2.toInt ∧ p2.toInt ≤ 2) ∧ p2.toInt = 2 ∧ r9.toInt = (σ0.1 10 p1.toInt.toNat).toInt)))) := by
  refine zc_start RX9 hi pfX9_teller rfl (Nat.le_of_ble_eq_true rfl) ?_
  intro G hG
  have hB := hG.1
  show zc_V 3 K G (zc_D shM K G σ0) [(0, .ref (zk K 0)), (1, .int p1), (2, .int p2)] 0 []
  have bw0_17 : 0 ≤ (σ0.1 0 17).toInt ∧ (σ0.1 0 17).toInt ≤ 6 := ⟨(hO0 0 17).1, (hO0 0 17).2.1⟩
  refine zr_aload_n hB 0 dX9_teller_0 rfl ?_
  refine zr_iload_n hB 1 dX9_teller_1 rfl ?_
  refine zr_callvi hG (rest := []) 0 dX9_teller_2 wm_X9_184 rfl rfl (c_M_isTeller K hG.2.2.2.2.2.1 σ0 p1 hO0 ) rfl rfl (Nat.le_of_ble_eq_true rfl) ⟨Nat.le_of_ble_eq_true rfl, Nat.le_of_ble_eq_true rfl, rfl, rfl⟩ (fun r1 σ2 h3 => ?_)
  obtain ⟨rfl, r1q⟩ := h3
  have r1z := r1q.b
  refine zr_if_ne hB dX9_teller_5 (tgt := 10) rfl (fun c4 => ?_) (fun c4 => ?_)
  · have q5 := r1q.t c4
    refine zr_iload_n hB 2 dX9_teller_10 rfl ?_
    refine zr_if_ne hB dX9_teller_11 (tgt := 23) rfl (fun c6 => ?_) (fun c6 => ?_)
    · refine zr_iload_n hB 2 dX9_teller_23 rfl ?_
      refine zr_iconst hB dX9_teller_24 rfl (fun c7 ec7 => ?_)
      refine zr_icmp_ne hB dX9_teller_25 (tgt := 37) rfl (fun c8 => ?_) (fun c8 => ?_)
      · refine zr_iload_n hB 2 dX9_teller_37 rfl ?_
        refine zr_iconst hB dX9_teller_38 rfl (fun c9 ec9 => ?_)
        refine zr_icmp_ne hB dX9_teller_39 (tgt := 51) rfl (fun c10 => ?_) (fun c10 => ?_)
        · refine zr_iconst hB dX9_teller_51 rfl (fun c11 ec11 => ?_)
          exact zr_iret hG dX9_teller_52 ⟨rfl, (by first | (exfalso; omega) | exact Or.inl ⟨by omega, by omega⟩ | exact Or.inr (Or.inl ⟨by omega, by omega, by omega⟩) | exact Or.inr (Or.inr (Or.inl ⟨by omega, by omega, by omega⟩)) | exact Or.inr (Or.inr (Or.inr (⟨by omega, by omega, by omega⟩))))⟩
        refine zr_aload_n hB 0 dX9_teller_42 rfl ?_
        refine zr_getr hG 0 20 dX9_teller_43 rfl wf_X9_38 rfl ?_
        refine zr_iload_n hB 1 dX9_teller_46 rfl ?_
        refine zr_iald hG 10 dX9_teller_47 rfl (by omega) (by omega) (fun x12 ex12 => ?_)
        refine zr_goto hB dX9_teller_48 (tgt := 52) rfl ?_
        exact zr_iret hG dX9_teller_52 ⟨rfl, (by have hqx12 := congrArg Int32.toInt ex12; first | (exfalso; omega) | exact Or.inl ⟨by omega, by omega⟩ | exact Or.inr (Or.inl ⟨by omega, by omega, by omega⟩) | exact Or.inr (Or.inr (Or.inl ⟨by omega, by omega, by omega⟩)) | exact Or.inr (Or.inr (Or.inr (⟨by omega, by omega, by omega⟩))))⟩
      refine zr_aload_n hB 0 dX9_teller_28 rfl ?_
      refine zr_getr hG 0 19 dX9_teller_29 rfl wf_X9_35 rfl ?_
      refine zr_iload_n hB 1 dX9_teller_32 rfl ?_
      refine zr_iald hG 9 dX9_teller_33 rfl (by omega) (by omega) (fun x13 ex13 => ?_)
      refine zr_goto hB dX9_teller_34 (tgt := 52) rfl ?_
      exact zr_iret hG dX9_teller_52 ⟨rfl, (by have hqx13 := congrArg Int32.toInt ex13; first | (exfalso; omega) | exact Or.inl ⟨by omega, by omega⟩ | exact Or.inr (Or.inl ⟨by omega, by omega, by omega⟩) | exact Or.inr (Or.inr (Or.inl ⟨by omega, by omega, by omega⟩)) | exact Or.inr (Or.inr (Or.inr (⟨by omega, by omega, by omega⟩))))⟩
    refine zr_aload_n hB 0 dX9_teller_14 rfl ?_
    refine zr_getr hG 0 18 dX9_teller_15 rfl wf_X9_32 rfl ?_
    refine zr_iload_n hB 1 dX9_teller_18 rfl ?_
    refine zr_iald hG 8 dX9_teller_19 rfl (by omega) (by omega) (fun x14 ex14 => ?_)
    have bx14 : 0 ≤ x14.toInt ∧ x14.toInt ≤ 4 := by rw [ex14]; exact ⟨(hO0 8 _).1, (hO0 8 _).2.1⟩
    refine zr_goto hB dX9_teller_20 (tgt := 52) rfl ?_
    exact zr_iret hG dX9_teller_52 ⟨rfl, (by have hqx14 := congrArg Int32.toInt ex14; first | (exfalso; omega) | exact Or.inl ⟨by omega, by omega⟩ | exact Or.inr (Or.inl ⟨by omega, by omega, by omega⟩) | exact Or.inr (Or.inr (Or.inl ⟨by omega, by omega, by omega⟩)) | exact Or.inr (Or.inr (Or.inr (⟨by omega, by omega, by omega⟩))))⟩
  have q15 := r1q.f c4
  refine zr_iconst hB dX9_teller_8 rfl (fun c16 ec16 => ?_)
  exact zr_iret hG dX9_teller_9 ⟨rfl, (by first | (exfalso; omega) | exact Or.inl ⟨by omega, by omega⟩ | exact Or.inr (Or.inl ⟨by omega, by omega, by omega⟩) | exact Or.inr (Or.inr (Or.inl ⟨by omega, by omega, by omega⟩)) | exact Or.inr (Or.inr (Or.inr (⟨by omega, by omega, by omega⟩))))⟩

set_option maxHeartbeats 1000000 in
set_option maxRecDepth 100000 in
theorem c_M_fault (K : zc_K) (hi : zc_inj shM K.2.2.2.1) (σ0 : zc_S)  (hO0 : zc_O okM σ0)  : zc_M shM K yX9_fault cX9_fault 1 (some .int) (zrm 0 0) σ0 [.ref (zk K 0)] (zc_I (fun r9 σ9 => σ0 = σ9 ∧ 0 ≤ r9.toInt ∧ r9.toInt ≤ 5 ∧ r9.toInt = (σ0.1 0 7).toInt)) := by
  refine zc_start RX9 hi pfX9_fault rfl (Nat.le_of_ble_eq_true rfl) ?_
  intro G hG
  have hB := hG.1
  show zc_V 1 K G (zc_D shM K G σ0) [(0, .ref (zk K 0))] 0 []
  refine zr_aload_n hB 0 dX9_fault_0 rfl ?_
  refine zr_geti' hG 0 7 (σ0.1 0 7) dX9_fault_1 rfl wf_X9_178 rfl rfl ?_
  have b1 : 0 ≤ (σ0.1 0 7).toInt ∧ (σ0.1 0 7).toInt ≤ 5 := ⟨(hO0 0 7).1, (hO0 0 7).2.1⟩
  exact zr_iret hG dX9_fault_4 ⟨rfl, by omega, by omega, by omega⟩

set_option maxHeartbeats 1000000 in
set_option maxRecDepth 100000 in
theorem c_M_down (K : zc_K) (hi : zc_inj shM K.2.2.2.1) (σ0 : zc_S) (p0 : Int32) (p1 : Int32) (hO0 : zc_O okM σ0) (h1a : 1 ≤ p1.toInt) (h1b : p1.toInt ≤ 100) : zc_M shM K yX9_down cX9_down 3 (some .int) (zrm 0 0) σ0 [.int p0, .int p1] (zc_I (fun r9 σ9 => σ0 = σ9)) := by
  refine zc_start RX9 hi pfX9_down rfl (Nat.le_of_ble_eq_true rfl) ?_
  intro G hG
  have hB := hG.1
  show zc_V 3 K G (zc_D shM K G σ0) [(0, .int p0), (1, .int p1)] 0 []
  refine zr_iload_n hB 0 dX9_down_0 rfl ?_
  refine zr_iload_n hB 1 dX9_down_1 rfl ?_
  refine zr_idivw hB dX9_down_2 (by omega) (fun x1 ex1 => ?_)
  refine zr_istore_n hB dX9_down_3 rfl (by decide) (lv' := [(2, .int x1), (0, .int p0), (1, .int p1)]) rfl ?_
  refine zr_iload_n hB 1 dX9_down_4 rfl ?_
  refine zr_iload_n hB 2 dX9_down_5 rfl ?_
  refine zr_iremw hB dX9_down_6 (by omega) (fun x2 ex2 => ?_)
  refine zr_if_eq hB dX9_down_7 (tgt := 20) rfl (fun c3 => ?_) (fun c3 => ?_)
  · refine zr_iload_n hB 0 dX9_down_20 rfl ?_
    exact zr_iret hG dX9_down_21 rfl
  refine zr_iload_n hB 1 dX9_down_10 rfl ?_
  refine zr_if_ge hB dX9_down_11 (tgt := 20) rfl (fun c4 => ?_) (fun c4 => ?_)
  · refine zr_iload_n hB 0 dX9_down_20 rfl ?_
    exact zr_iret hG dX9_down_21 rfl
  refine zr_iload_n hB 0 dX9_down_14 rfl ?_
  refine zr_iconst hB dX9_down_15 rfl (fun c5 ec5 => ?_)
  refine zr_isubw hB dX9_down_16 (fun x6 ex6 => ?_)
  refine zr_goto hB dX9_down_17 (tgt := 21) rfl ?_
  exact zr_iret hG dX9_down_21 rfl

set_option maxHeartbeats 1000000 in
set_option maxRecDepth 100000 in
theorem c_M_tellSame (K : zc_K) (hi : zc_inj shM K.2.2.2.1) (σ0 : zc_S) (p1 : Int32) (p2 : Int32) (p3 : Int32) (p4 : Int32) (hO0 : zc_O okM σ0) (h1a : 1 ≤ p1.toInt) (h2a : 0 ≤ p2.toInt) (h2b : p2.toInt ≤ 3) (h3a : 0 ≤ p3.toInt) (h3b : p3.toInt ≤ 63) (h4a : 1 ≤ p4.toInt) (h4b : p4.toInt ≤ 14) : zc_M shM K yX9_tellSame cX9_tellSame 6 (some .int) (zrm 3 68) σ0 [.ref (zk K 0), .int p1, .int p2, .int p3, .int p4] (zc_I (fun r9 σ9 => σ0 = σ9 ∧ (-1) ≤ r9.toInt ∧ r9.toInt ≤ 999 ∧ zp_q r9.toInt (zp_S (zp_k (zy_A σ0) p2.toInt p3.toInt) p1.toInt p3.toInt 78 (p3.toInt + p4.toInt - p1.toInt)))) := by
  refine zc_start RX9 hi pfX9_tellSame rfl (Nat.le_of_ble_eq_true rfl) ?_
  intro G hG
  have hB := hG.1
  show zc_V 6 K G (zc_D shM K G σ0) [(0, .ref (zk K 0)), (1, .int p1), (2, .int p2), (3, .int p3), (4, .int p4)] 0 []
  refine zr_iload_n hB 3 dX9_tellSame_0 rfl ?_
  refine zr_iload hB 4 dX9_tellSame_1 rfl ?_
  refine zr_iadd hB dX9_tellSame_3 (by omega) (by omega) (fun x1 ex1 => ?_)
  refine zr_iload_n hB 1 dX9_tellSame_4 rfl ?_
  have v3 := And.intro (zn_lo p1) (zn_hi p1)
  refine zr_isub hB dX9_tellSame_5 (by omega) (by omega) (fun x2 ex2 => ?_)
  refine zr_istore hB dX9_tellSame_6 (by decide) (lv' := [(5, .int x2), (0, .ref (zk K 0)), (1, .int p1), (2, .int p2), (3, .int p3), (4, .int p4)]) rfl ?_
  have L8_5 : ∀ (n8 : Nat) (y5_4 : Int32), (-2147483647) ≤ y5_4.toInt → y5_4.toInt ≤ 76 → -2147483648 ≤ y5_4.toInt → y5_4.toInt ≤ 2147483647 → (zp_S (zp_k (zy_A σ0) p2.toInt p3.toInt) p1.toInt p3.toInt 78 (p3.toInt + p4.toInt - p1.toInt) ↔ zp_S (zp_k (zy_A σ0) p2.toInt p3.toInt) p1.toInt p3.toInt (y5_4.toInt + 1).toNat y5_4.toInt) → y5_4.toInt + 2147483648 < (n8 : Int) → zc_V 6 K G (zc_D shM K G σ0) [(0, .ref (zk K 0)), (1, .int p1), (2, .int p2), (3, .int p3), (4, .int p4), (5, .int y5_4)] 8 [] := by
    intro n8
    induction n8 with
    | zero => intro y5_4 y5_4a y5_4b fa fb hS hn8; exfalso; omega
    | succ n8 ih8 =>
      intro y5_4 y5_4a y5_4b fa fb hS hn8
      refine zr_iload hB 5 dX9_tellSame_8 rfl ?_
      refine zr_if_lt hB dX9_tellSame_10 (tgt := 48) rfl (fun c6 => ?_) (fun c6 => ?_)
      · refine zr_iconst hB dX9_tellSame_48 rfl (fun c7 ec7 => ?_)
        exact zr_iret hG dX9_tellSame_49 ⟨rfl, by omega, by omega, (zp_q.n (by omega) (fun h9 => zp_Sn (by omega) (hS.mp h9)))⟩
      refine zr_iload hB 5 dX9_tellSame_13 rfl ?_
      refine zr_iload_n hB 3 dX9_tellSame_15 rfl ?_
      refine zr_icmp_gt hB dX9_tellSame_16 (tgt := 39) rfl (fun c8 => ?_) (fun c8 => ?_)
      · refine zr_iload hB 5 dX9_tellSame_39 rfl ?_
        refine zr_iload_n hB 1 dX9_tellSame_41 rfl ?_
        have v10 := And.intro (zn_lo p1) (zn_hi p1)
        refine zr_isub hB dX9_tellSame_42 (by omega) (by omega) (fun x9 ex9 => ?_)
        refine zr_istore hB dX9_tellSame_43 (by decide) (lv' := [(5, .int x9), (0, .ref (zk K 0)), (1, .int p1), (2, .int p2), (3, .int p3), (4, .int p4)]) rfl ?_
        refine zr_goto hB dX9_tellSame_45 (tgt := 8) rfl ?_
        exact zc_sub [1, 2, 3, 4, 5, 0] rfl (ih8 x9 (by omega) (by omega) (show -2147483648 ≤ x9.toInt by exact zn_lo _) (show x9.toInt ≤ 2147483647 by exact zn_hi _) (show (zp_S (zp_k (zy_A σ0) p2.toInt p3.toInt) p1.toInt p3.toInt 78 (p3.toInt + p4.toInt - p1.toInt) ↔ zp_S (zp_k (zy_A σ0) p2.toInt p3.toInt) p1.toInt p3.toInt (x9.toInt + 1).toNat x9.toInt) by exact hS.trans (zp_St (by omega) (by omega) (fun h9 => by omega) (by omega))) (show x9.toInt + 2147483648 < (n8 : Int) by omega))
      refine zr_aload_n hB 0 dX9_tellSame_19 rfl ?_
      refine zr_iload_n hB 2 dX9_tellSame_20 rfl ?_
      refine zr_iload hB 5 dX9_tellSame_21 rfl ?_
      refine zr_iload_n hB 3 dX9_tellSame_23 rfl ?_
      refine zr_callvi hG (rest := []) 0 dX9_tellSame_24 wm_X9_113 rfl rfl (c_M_knownOn K hG.2.2.2.2.2.1 σ0 p2 y5_4 p3 hO0 (by omega) (by omega) (by omega) (by omega)) rfl rfl (Nat.le_of_ble_eq_true rfl) ⟨Nat.le_of_ble_eq_true rfl, Nat.le_of_ble_eq_true rfl, rfl, rfl⟩ (fun r11 σ12 h13 => ?_)
      obtain ⟨rfl, r11a, r11b, g14⟩ := h13
      have hk : zp_q r11.toInt ((zp_k (zy_A σ0) p2.toInt p3.toInt) y5_4.toInt.toNat) := zp_kM (zx_or g14 (by omega)) (by omega) (by omega) (by omega)
      refine zr_if_lt hB dX9_tellSame_27 (tgt := 39) rfl (fun c15 => ?_) (fun c15 => ?_)
      · refine zr_iload hB 5 dX9_tellSame_39 rfl ?_
        refine zr_iload_n hB 1 dX9_tellSame_41 rfl ?_
        have v17 := And.intro (zn_lo p1) (zn_hi p1)
        refine zr_isub hB dX9_tellSame_42 (by omega) (by omega) (fun x16 ex16 => ?_)
        refine zr_istore hB dX9_tellSame_43 (by decide) (lv' := [(5, .int x16), (0, .ref (zk K 0)), (1, .int p1), (2, .int p2), (3, .int p3), (4, .int p4)]) rfl ?_
        refine zr_goto hB dX9_tellSame_45 (tgt := 8) rfl ?_
        exact zc_sub [1, 2, 3, 4, 5, 0] rfl (ih8 x16 (by omega) (by omega) (show -2147483648 ≤ x16.toInt by exact zn_lo _) (show x16.toInt ≤ 2147483647 by exact zn_hi _) (show (zp_S (zp_k (zy_A σ0) p2.toInt p3.toInt) p1.toInt p3.toInt 78 (p3.toInt + p4.toInt - p1.toInt) ↔ zp_S (zp_k (zy_A σ0) p2.toInt p3.toInt) p1.toInt p3.toInt (x16.toInt + 1).toNat x16.toInt) by exact hS.trans (zp_St (by omega) (by omega) (fun h9 => absurd (hk.is.mpr h9.2) (by omega)) (by omega))) (show x16.toInt + 2147483648 < (n8 : Int) by omega))
      refine zr_aload_n hB 0 dX9_tellSame_30 rfl ?_
      refine zr_iload_n hB 2 dX9_tellSame_31 rfl ?_
      refine zr_iload hB 5 dX9_tellSame_32 rfl ?_
      refine zr_iload_n hB 3 dX9_tellSame_34 rfl ?_
      refine zr_callvi hG (rest := []) 0 dX9_tellSame_35 wm_X9_113 rfl rfl (c_M_knownOn K hG.2.2.2.2.2.1 σ0 p2 y5_4 p3 hO0 (by omega) (by omega) (by omega) (by omega)) rfl rfl (Nat.le_of_ble_eq_true rfl) ⟨Nat.le_of_ble_eq_true rfl, Nat.le_of_ble_eq_true rfl, rfl, rfl⟩ (fun r18 σ19 h20 => ?_)
      obtain ⟨rfl, r18a, r18b, g21⟩ := h20
      have hk2 : zp_q r18.toInt ((zp_k (zy_A σ0) p2.toInt p3.toInt) y5_4.toInt.toNat) := zp_kM (zx_or g21 (by omega)) (by omega) (by omega) (by omega)
      exact zr_iret hG dX9_tellSame_38 ⟨rfl, by omega, by omega, (zp_q.y (by have h9 := hk2; rcases h9 with ⟨a, b⟩ | ⟨a, b⟩; exact absurd (hk.is.mp (by omega)) b; exact a) (hS.mpr (zp_Sy (by omega) (by omega) (hk.is.mp (by omega)))))⟩
  exact zc_sub [1, 2, 3, 4, 5, 0] rfl (L8_5 4294967298 x2 (by omega) (by omega) (show -2147483648 ≤ x2.toInt by exact zn_lo _) (show x2.toInt ≤ 2147483647 by exact zn_hi _) (show (zp_S (zp_k (zy_A σ0) p2.toInt p3.toInt) p1.toInt p3.toInt 78 (p3.toInt + p4.toInt - p1.toInt) ↔ zp_S (zp_k (zy_A σ0) p2.toInt p3.toInt) p1.toInt p3.toInt (x2.toInt + 1).toNat x2.toInt) by rw [show x2.toInt = p3.toInt + p4.toInt - p1.toInt by omega]; exact zp_Sf (by omega) _ _ _ (by omega) (by omega)) (show x2.toInt + 2147483648 < ((4294967298 : Nat) : Int) by omega))

set_option maxHeartbeats 1000000 in
set_option maxRecDepth 100000 in
theorem c_M_tellMean (K : zc_K) (hi : zc_inj shM K.2.2.2.1) (σ0 : zc_S) (p1 : Int32) (p2 : Int32) (p3 : Int32) (hO0 : zc_O okM σ0) (h1a : 1 ≤ p1.toInt) (h2a : 0 ≤ p2.toInt) (h2b : p2.toInt ≤ 3) (h3a : 0 ≤ p3.toInt) (h3b : p3.toInt ≤ 63) : zc_M shM K yX9_tellMean cX9_tellMean 8 (some .int) (zrm 3 68) σ0 [.ref (zk K 0), .int p1, .int p2, .int p3] (zc_I (fun r9 σ9 => σ0 = σ9 ∧ (-1) ≤ r9.toInt ∧ r9.toInt ≤ 999 ∧ zp_q r9.toInt (p1.toInt ≤ zp_ct (zp_k (zy_A σ0) p2.toInt p3.toInt) (p3.toInt + 1).toNat))) := by
  refine zc_start RX9 hi pfX9_tellMean rfl (Nat.le_of_ble_eq_true rfl) ?_
  intro G hG
  have hB := hG.1
  show zc_V 8 K G (zc_D shM K G σ0) [(0, .ref (zk K 0)), (1, .int p1), (2, .int p2), (3, .int p3)] 0 []
  refine zr_iconst hB dX9_tellMean_0 rfl (fun c1 ec1 => ?_)
  refine zr_istore hB dX9_tellMean_1 (by decide) (lv' := [(4, .int c1), (0, .ref (zk K 0)), (1, .int p1), (2, .int p2), (3, .int p3)]) rfl ?_
  refine zr_iconst hB dX9_tellMean_3 rfl (fun c2 ec2 => ?_)
  refine zr_istore hB dX9_tellMean_4 (by decide) (lv' := [(5, .int c2), (4, .int c1), (0, .ref (zk K 0)), (1, .int p1), (2, .int p2), (3, .int p3)]) rfl ?_
  refine zr_iload_n hB 5 dX9_tellMean_6 rfl ?_
  refine zr_istore hB dX9_tellMean_7 (by decide) (lv' := [(6, .int p3), (5, .int c2), (4, .int c1), (0, .ref (zk K 0)), (1, .int p1), (2, .int p2), (3, .int p3)]) rfl ?_
  have L9_11 : ∀ (n9 : Nat) (y4_3 : Int32) (y5_4 : Int32) (y6_5 : Int32), 0 ≤ y4_3.toInt → y4_3.toInt ≤ 64 → 0 ≤ y5_4.toInt → y5_4.toInt ≤ 63936 → (-1) ≤ y6_5.toInt → y6_5.toInt ≤ 63 → y5_4.toInt ≤ 999 * y4_3.toInt → y4_3.toInt + y6_5.toInt ≤ p3.toInt → y4_3.toInt ≤ p1.toInt → y6_5.toInt ≤ p3.toInt → -1 ≤ y6_5.toInt → y4_3.toInt = zp_ct (zp_k (zy_A σ0) p2.toInt p3.toInt) (p3.toInt + 1).toNat - zp_ct (zp_k (zy_A σ0) p2.toInt p3.toInt) (y6_5.toInt + 1).toNat → y6_5.toInt - (-1) < (n9 : Int) → zc_V 8 K G (zc_D shM K G σ0) [(0, .ref (zk K 0)), (1, .int p1), (2, .int p2), (3, .int p3), (4, .int y4_3), (5, .int y5_4), (6, .int y6_5)] 9 [] := by
    intro n9
    induction n9 with
    | zero => intro y4_3 y5_4 y6_5 y4_3a y4_3b y5_4a y5_4b y6_5a y6_5b e6 e7 e8 e9 e10 hc hn9; exfalso; omega
    | succ n9 ih9 =>
      intro y4_3 y5_4 y6_5 y4_3a y4_3b y5_4a y5_4b y6_5a y6_5b e6 e7 e8 e9 e10 hc hn9
      refine zr_iload hB 6 dX9_tellMean_9 rfl ?_
      refine zr_if_lt hB dX9_tellMean_11 (tgt := 51) rfl (fun c12 => ?_) (fun c12 => ?_)
      · have h0 := zp_c0 (zp_k (zy_A σ0) p2.toInt p3.toInt) (y6_5.toInt + 1).toNat
        have hz : ¬ y6_5.toInt < 0 ∨ zp_ct (zp_k (zy_A σ0) p2.toInt p3.toInt) (y6_5.toInt + 1).toNat = 0 := by by_cases g : y6_5.toInt < 0; (right; rw [show (y6_5.toInt + 1).toNat = 0 by omega]; rfl); exact Or.inl g
        refine zr_iload hB 4 dX9_tellMean_51 rfl ?_
        refine zr_iload_n hB 1 dX9_tellMean_53 rfl ?_
        refine zr_icmp_ge hB dX9_tellMean_54 (tgt := 61) rfl (fun c13 => ?_) (fun c13 => ?_)
        · refine zr_iload hB 5 dX9_tellMean_61 rfl ?_
          refine zr_iload_n hB 1 dX9_tellMean_63 rfl ?_
          refine zr_idiv hB dX9_tellMean_64 (by omega) (by omega) (fun x14 ex14 ex14a ex14b ex14c => ?_)
          have ex14d := ex14c 999 (by omega)
          exact zr_iret hG dX9_tellMean_65 ⟨rfl, by omega, by omega, (by unfold zp_q; omega)⟩
        refine zr_iconst hB dX9_tellMean_57 rfl (fun c15 ec15 => ?_)
        refine zr_goto hB dX9_tellMean_58 (tgt := 65) rfl ?_
        exact zr_iret hG dX9_tellMean_65 ⟨rfl, by omega, by omega, (by unfold zp_q; omega)⟩
      refine zr_iload hB 4 dX9_tellMean_14 rfl ?_
      refine zr_iload_n hB 1 dX9_tellMean_16 rfl ?_
      refine zr_icmp_ge hB dX9_tellMean_17 (tgt := 51) rfl (fun c16 => ?_) (fun c16 => ?_)
      · have h0 := zp_c0 (zp_k (zy_A σ0) p2.toInt p3.toInt) (y6_5.toInt + 1).toNat
        have hz : ¬ y6_5.toInt < 0 ∨ zp_ct (zp_k (zy_A σ0) p2.toInt p3.toInt) (y6_5.toInt + 1).toNat = 0 := by by_cases g : y6_5.toInt < 0; (right; rw [show (y6_5.toInt + 1).toNat = 0 by omega]; rfl); exact Or.inl g
        refine zr_iload hB 4 dX9_tellMean_51 rfl ?_
        refine zr_iload_n hB 1 dX9_tellMean_53 rfl ?_
        refine zr_icmp_ge hB dX9_tellMean_54 (tgt := 61) rfl (fun c17 => ?_) (fun c17 => ?_)
        · refine zr_iload hB 5 dX9_tellMean_61 rfl ?_
          refine zr_iload_n hB 1 dX9_tellMean_63 rfl ?_
          refine zr_idiv hB dX9_tellMean_64 (by omega) (by omega) (fun x18 ex18 ex18a ex18b ex18c => ?_)
          have ex18d := ex18c 999 (by omega)
          exact zr_iret hG dX9_tellMean_65 ⟨rfl, by omega, by omega, (by unfold zp_q; omega)⟩
        refine zr_iconst hB dX9_tellMean_57 rfl (fun c19 ec19 => ?_)
        refine zr_goto hB dX9_tellMean_58 (tgt := 65) rfl ?_
        exact zr_iret hG dX9_tellMean_65 ⟨rfl, by omega, by omega, (by unfold zp_q; omega)⟩
      refine zr_aload_n hB 0 dX9_tellMean_20 rfl ?_
      refine zr_iload_n hB 2 dX9_tellMean_21 rfl ?_
      refine zr_iload hB 6 dX9_tellMean_22 rfl ?_
      refine zr_iload_n hB 3 dX9_tellMean_24 rfl ?_
      refine zr_callvi hG (rest := []) 0 dX9_tellMean_25 wm_X9_113 rfl rfl (c_M_knownOn K hG.2.2.2.2.2.1 σ0 p2 y6_5 p3 hO0 (by omega) (by omega) (by omega) (by omega)) rfl rfl (Nat.le_of_ble_eq_true rfl) ⟨Nat.le_of_ble_eq_true rfl, Nat.le_of_ble_eq_true rfl, rfl, rfl⟩ (fun r20 σ21 h22 => ?_)
      obtain ⟨rfl, r20a, r20b, g23⟩ := h22
      have hk : zp_q r20.toInt ((zp_k (zy_A σ0) p2.toInt p3.toInt) y6_5.toInt.toNat) := zp_kM (zx_or g23 (by omega)) (by omega) (by omega) (by omega)
      refine zr_istore hB dX9_tellMean_28 (by decide) (lv' := [(7, .int r20), (0, .ref (zk K 0)), (1, .int p1), (2, .int p2), (3, .int p3), (4, .int y4_3), (5, .int y5_4), (6, .int y6_5)]) rfl ?_
      refine zr_iload hB 0 dX9_tellMean_30 rfl ?_
      refine zr_if_lt hB dX9_tellMean_32 (tgt := 45) rfl (fun c24 => ?_) (fun c24 => ?_)
      · refine zr_iinc hB 7 dX9_tellMean_45 rfl (by decide) rfl (by omega) (by omega) (fun x25 ex25 lv' hlv => ?_)
        obtain rfl : [(6, .int x25), (7, .int r20), (0, .ref (zk K 0)), (1, .int p1), (2, .int p2), (3, .int p3), (4, .int y4_3), (5, .int y5_4)] = lv' := hlv
        refine zr_goto hB dX9_tellMean_48 (tgt := 9) rfl ?_
        exact zc_sub [2, 3, 4, 5, 6, 7, 0] rfl (ih9 y4_3 y5_4 x25 (by omega) (by omega) (by omega) (by omega) (by omega) (by omega) (show y5_4.toInt ≤ 999 * y4_3.toInt by omega) (show y4_3.toInt + x25.toInt ≤ p3.toInt by omega) (show y4_3.toInt ≤ p1.toInt by omega) (show x25.toInt ≤ p3.toInt by omega) (show -1 ≤ x25.toInt by omega) (show y4_3.toInt = zp_ct (zp_k (zy_A σ0) p2.toInt p3.toInt) (p3.toInt + 1).toNat - zp_ct (zp_k (zy_A σ0) p2.toInt p3.toInt) (x25.toInt + 1).toNat by rw [show (x25.toInt + 1).toNat = y6_5.toInt.toNat by omega]; first | (have h9 := zp_cy (k := (zp_k (zy_A σ0) p2.toInt p3.toInt)) (n := y6_5.toInt.toNat) (m := (y6_5.toInt + 1).toNat) (by omega) (hk.is.mp (by omega)); omega) | (have h9 := zp_cn (k := (zp_k (zy_A σ0) p2.toInt p3.toInt)) (n := y6_5.toInt.toNat) (m := (y6_5.toInt + 1).toNat) (by omega) (fun h9 => absurd (hk.is.mpr h9) (by omega)); omega)) (by omega))
      refine zr_iinc hB 5 dX9_tellMean_35 rfl (by decide) rfl (by omega) (by omega) (fun x26 ex26 lv' hlv => ?_)
      obtain rfl : [(4, .int x26), (7, .int r20), (0, .ref (zk K 0)), (1, .int p1), (2, .int p2), (3, .int p3), (5, .int y5_4), (6, .int y6_5)] = lv' := hlv
      refine zr_iload hB 6 dX9_tellMean_38 rfl ?_
      refine zr_iload hB 1 dX9_tellMean_40 rfl ?_
      refine zr_iadd hB dX9_tellMean_42 (by omega) (by omega) (fun x27 ex27 => ?_)
      refine zr_istore hB dX9_tellMean_43 (by decide) (lv' := [(5, .int x27), (4, .int x26), (7, .int r20), (0, .ref (zk K 0)), (1, .int p1), (2, .int p2), (3, .int p3), (6, .int y6_5)]) rfl ?_
      refine zr_iinc hB 7 dX9_tellMean_45 rfl (by decide) rfl (by omega) (by omega) (fun x28 ex28 lv' hlv => ?_)
      obtain rfl : [(6, .int x28), (5, .int x27), (4, .int x26), (7, .int r20), (0, .ref (zk K 0)), (1, .int p1), (2, .int p2), (3, .int p3)] = lv' := hlv
      refine zr_goto hB dX9_tellMean_48 (tgt := 9) rfl ?_
      exact zc_sub [4, 5, 6, 7, 2, 1, 0] rfl (ih9 x26 x27 x28 (by omega) (by omega) (by omega) (by omega) (by omega) (by omega) (show x27.toInt ≤ 999 * x26.toInt by omega) (show x26.toInt + x28.toInt ≤ p3.toInt by omega) (show x26.toInt ≤ p1.toInt by omega) (show x28.toInt ≤ p3.toInt by omega) (show -1 ≤ x28.toInt by omega) (show x26.toInt = zp_ct (zp_k (zy_A σ0) p2.toInt p3.toInt) (p3.toInt + 1).toNat - zp_ct (zp_k (zy_A σ0) p2.toInt p3.toInt) (x28.toInt + 1).toNat by rw [show (x28.toInt + 1).toNat = y6_5.toInt.toNat by omega]; first | (have h9 := zp_cy (k := (zp_k (zy_A σ0) p2.toInt p3.toInt)) (n := y6_5.toInt.toNat) (m := (y6_5.toInt + 1).toNat) (by omega) (hk.is.mp (by omega)); omega) | (have h9 := zp_cn (k := (zp_k (zy_A σ0) p2.toInt p3.toInt)) (n := y6_5.toInt.toNat) (m := (y6_5.toInt + 1).toNat) (by omega) (fun h9 => absurd (hk.is.mpr h9) (by omega)); omega)) (by omega))
  exact zc_sub [3, 4, 5, 6, 2, 1, 0] rfl (L9_11 66 c1 c2 p3 (by omega) (by omega) (by omega) (by omega) (by omega) (by omega) (show c2.toInt ≤ 999 * c1.toInt by omega) (show c1.toInt + p3.toInt ≤ p3.toInt by omega) (show c1.toInt ≤ p1.toInt by omega) (show p3.toInt ≤ p3.toInt by omega) (show -1 ≤ p3.toInt by omega) (show c1.toInt = zp_ct (zp_k (zy_A σ0) p2.toInt p3.toInt) (p3.toInt + 1).toNat - zp_ct (zp_k (zy_A σ0) p2.toInt p3.toInt) (p3.toInt + 1).toNat by rw [show (p3.toInt + 1).toNat = (p3.toInt + 1).toNat by omega]; omega) (by omega))

set_option maxHeartbeats 1000000 in
set_option maxRecDepth 100000 in
theorem c_M_tellStep (K : zc_K) (hi : zc_inj shM K.2.2.2.1) (σ0 : zc_S) (p1 : Int32) (p2 : Int32) (p3 : Int32) (p4 : Int32) (p5 : Int32) (hO0 : zc_O okM σ0) (h3a : 0 ≤ p3.toInt) (h3b : p3.toInt ≤ 3) (h4a : 0 ≤ p4.toInt) (h4b : p4.toInt ≤ 63) : zc_M shM K yX9_tellStep cX9_tellStep 12 (some .int) (zrm 3 68) σ0 [.ref (zk K 0), .int p1, .int p2, .int p3, .int p4, .int p5] (zc_I (fun r9 σ9 => σ0 = σ9 ∧ (-1) ≤ r9.toInt ∧ r9.toInt ≤ 999 ∧ zp_q r9.toInt (2 ≤ zp_ct (zp_k (zy_A σ0) p3.toInt p4.toInt) (p4.toInt + 1).toNat))) := by
  refine zc_start RX9 hi pfX9_tellStep rfl (Nat.le_of_ble_eq_true rfl) ?_
  intro G hG
  have hB := hG.1
  show zc_V 12 K G (zc_D shM K G σ0) [(0, .ref (zk K 0)), (1, .int p1), (2, .int p2), (3, .int p3), (4, .int p4), (5, .int p5)] 0 []
  refine zr_iconst hB dX9_tellStep_0 rfl (fun c1 ec1 => ?_)
  refine zr_istore hB dX9_tellStep_1 (by decide) (lv' := [(6, .int c1), (0, .ref (zk K 0)), (1, .int p1), (2, .int p2), (3, .int p3), (4, .int p4), (5, .int p5)]) rfl ?_
  refine zr_iconst hB dX9_tellStep_3 rfl (fun c2 ec2 => ?_)
  refine zr_istore hB dX9_tellStep_4 (by decide) (lv' := [(7, .int c2), (6, .int c1), (0, .ref (zk K 0)), (1, .int p1), (2, .int p2), (3, .int p3), (4, .int p4), (5, .int p5)]) rfl ?_
  refine zr_iconst hB dX9_tellStep_6 rfl (fun c3 ec3 => ?_)
  refine zr_istore hB dX9_tellStep_7 (by decide) (lv' := [(8, .int c3), (7, .int c2), (6, .int c1), (0, .ref (zk K 0)), (1, .int p1), (2, .int p2), (3, .int p3), (4, .int p4), (5, .int p5)]) rfl ?_
  refine zr_iconst hB dX9_tellStep_9 rfl (fun c4 ec4 => ?_)
  refine zr_istore hB dX9_tellStep_10 (by decide) (lv' := [(9, .int c4), (8, .int c3), (7, .int c2), (6, .int c1), (0, .ref (zk K 0)), (1, .int p1), (2, .int p2), (3, .int p3), (4, .int p4), (5, .int p5)]) rfl ?_
  have L12_12 : ∀ (n12 : Nat) (y6_5 : Int32) (y7_6 : Int32) (y8_7 : Int32) (y9_8 : Int32), 0 ≤ y6_5.toInt → y6_5.toInt ≤ 64 → 0 ≤ y9_8.toInt → y9_8.toInt ≤ 64 → y9_8.toInt ≤ p4.toInt + 1 → 0 ≤ y9_8.toInt → y6_5.toInt ≤ y9_8.toInt → y6_5.toInt = zp_ct (zp_k (zy_A σ0) p3.toInt p4.toInt) y9_8.toInt.toNat → 64 - y9_8.toInt < (n12 : Int) → zc_V 12 K G (zc_D shM K G σ0) [(0, .ref (zk K 0)), (1, .int p1), (2, .int p2), (3, .int p3), (4, .int p4), (5, .int p5), (6, .int y6_5), (7, .int y7_6), (8, .int y8_7), (9, .int y9_8)] 12 [] := by
    intro n12
    induction n12 with
    | zero => intro y6_5 y7_6 y8_7 y9_8 y6_5a y6_5b y9_8a y9_8b e9 e10 e11 hc hn12; have vy7_6 := And.intro (zn_lo y7_6) (zn_hi y7_6); have vy8_7 := And.intro (zn_lo y8_7) (zn_hi y8_7); exfalso; omega
    | succ n12 ih12 =>
      intro y6_5 y7_6 y8_7 y9_8 y6_5a y6_5b y9_8a y9_8b e9 e10 e11 hc hn12
      have vy7_6 := And.intro (zn_lo y7_6) (zn_hi y7_6)
      have vy8_7 := And.intro (zn_lo y8_7) (zn_hi y8_7)
      refine zr_iload hB 9 dX9_tellStep_12 rfl ?_
      refine zr_iload hB 4 dX9_tellStep_14 rfl ?_
      refine zr_icmp_gt hB dX9_tellStep_16 (tgt := 141) rfl (fun c13 => ?_) (fun c13 => ?_)
      · have hcc : zp_ct (zp_k (zy_A σ0) p3.toInt p4.toInt) (p4.toInt + 1).toNat = y6_5.toInt := by rw [hc, show y9_8.toInt.toNat = (p4.toInt + 1).toNat by omega]
        refine zr_iload hB 7 dX9_tellStep_141 rfl ?_
        refine zr_iload hB 5 dX9_tellStep_143 rfl ?_
        refine zr_iload hB 8 dX9_tellStep_145 rfl ?_
        refine zr_imulw hB dX9_tellStep_147 (fun x14 ex14 => ?_)
        refine zr_iaddw hB dX9_tellStep_148 (fun x15 ex15 => ?_)
        refine zr_bipush hB dX9_tellStep_149 rfl (fun c16 ec16 => ?_)
        refine zr_callsi hG (rest := []) dX9_tellStep_151 wm_X9_187 (c_M_down K hG.2.2.2.2.2.1 σ0 x15 c16 hO0 (by omega) (by omega)) rfl rfl (Nat.le_of_ble_eq_true rfl) ⟨Nat.le_of_ble_eq_true rfl, Nat.le_of_ble_eq_true rfl, rfl, rfl⟩ (fun r17 σ18 h19 => ?_)
        obtain rfl := h19
        refine zr_istore hB dX9_tellStep_154 (by decide) (lv' := [(9, .int r17), (0, .ref (zk K 0)), (1, .int p1), (2, .int p2), (3, .int p3), (4, .int p4), (5, .int p5), (6, .int y6_5), (7, .int y7_6), (8, .int y8_7)]) rfl ?_
        refine zr_iload hB 7 dX9_tellStep_156 rfl ?_
        refine zr_iconst hB dX9_tellStep_158 rfl (fun c20 ec20 => ?_)
        refine zr_icmp_ge hB dX9_tellStep_159 (tgt := 166) rfl (fun c21 => ?_) (fun c21 => ?_)
        · refine zr_iload hB 0 dX9_tellStep_166 rfl ?_
          refine zr_if_ge hB dX9_tellStep_168 (tgt := 175) rfl (fun c22 => ?_) (fun c22 => ?_)
          · refine zr_iload hB 0 dX9_tellStep_175 rfl ?_
            refine zr_sipush hB dX9_tellStep_177 rfl (fun c23 ec23 => ?_)
            refine zr_icmp_le hB dX9_tellStep_180 (tgt := 189) rfl (fun c24 => ?_) (fun c24 => ?_)
            · refine zr_iload hB 0 dX9_tellStep_189 rfl ?_
              exact zr_iret hG dX9_tellStep_191 ⟨rfl, by omega, by omega, (by unfold zp_q; omega)⟩
            refine zr_sipush hB dX9_tellStep_183 rfl (fun c25 ec25 => ?_)
            refine zr_goto hB dX9_tellStep_186 (tgt := 191) rfl ?_
            exact zr_iret hG dX9_tellStep_191 ⟨rfl, by omega, by omega, (by unfold zp_q; omega)⟩
          refine zr_iconst hB dX9_tellStep_171 rfl (fun c26 ec26 => ?_)
          refine zr_goto hB dX9_tellStep_172 (tgt := 191) rfl ?_
          exact zr_iret hG dX9_tellStep_191 ⟨rfl, by omega, by omega, (by unfold zp_q; omega)⟩
        refine zr_iconst hB dX9_tellStep_162 rfl (fun c27 ec27 => ?_)
        refine zr_goto hB dX9_tellStep_163 (tgt := 191) rfl ?_
        exact zr_iret hG dX9_tellStep_191 ⟨rfl, by omega, by omega, (by unfold zp_q; omega)⟩
      refine zr_aload_n hB 0 dX9_tellStep_19 rfl ?_
      refine zr_iload_n hB 3 dX9_tellStep_20 rfl ?_
      refine zr_iload hB 9 dX9_tellStep_21 rfl ?_
      refine zr_iload hB 4 dX9_tellStep_23 rfl ?_
      refine zr_callvi hG (rest := []) 0 dX9_tellStep_25 wm_X9_113 rfl rfl (c_M_knownOn K hG.2.2.2.2.2.1 σ0 p3 y9_8 p4 hO0 (by omega) (by omega) (by omega) (by omega)) rfl rfl (Nat.le_of_ble_eq_true rfl) ⟨Nat.le_of_ble_eq_true rfl, Nat.le_of_ble_eq_true rfl, rfl, rfl⟩ (fun r28 σ29 h30 => ?_)
      obtain ⟨rfl, r28a, r28b, g31⟩ := h30
      have hk : zp_q r28.toInt ((zp_k (zy_A σ0) p3.toInt p4.toInt) y9_8.toInt.toNat) := zp_kM (zx_or g31 (by omega)) (by omega) (by omega) (by omega)
      refine zr_istore hB dX9_tellStep_28 (by decide) (lv' := [(10, .int r28), (0, .ref (zk K 0)), (1, .int p1), (2, .int p2), (3, .int p3), (4, .int p4), (5, .int p5), (6, .int y6_5), (7, .int y7_6), (8, .int y8_7), (9, .int y9_8)]) rfl ?_
      refine zr_iload hB 7 dX9_tellStep_30 rfl ?_
      refine zr_if_ne hB dX9_tellStep_32 (tgt := 54) rfl (fun c32 => ?_) (fun c32 => ?_)
      · refine zr_iload hB 0 dX9_tellStep_54 rfl ?_
        refine zr_if_ge hB dX9_tellStep_56 (tgt := 69) rfl (fun c33 => ?_) (fun c33 => ?_)
        · refine zr_bipush hB dX9_tellStep_69 rfl (fun c34 ec34 => ?_)
          refine zr_iload_n hB 2 dX9_tellStep_71 rfl ?_
          refine zr_imulw hB dX9_tellStep_72 (fun x35 ex35 => ?_)
          refine zr_iload hB 0 dX9_tellStep_73 rfl ?_
          refine zr_imulw hB dX9_tellStep_75 (fun x36 ex36 => ?_)
          refine zr_bipush hB dX9_tellStep_76 rfl (fun c37 ec37 => ?_)
          refine zr_iload_n hB 2 dX9_tellStep_78 rfl ?_
          refine zr_isubw hB dX9_tellStep_79 (fun x38 ex38 => ?_)
          refine zr_iload hB 8 dX9_tellStep_80 rfl ?_
          refine zr_iload hB 9 dX9_tellStep_82 rfl ?_
          refine zr_iaddw hB dX9_tellStep_84 (fun x39 ex39 => ?_)
          refine zr_imulw hB dX9_tellStep_85 (fun x40 ex40 => ?_)
          refine zr_iaddw hB dX9_tellStep_86 (fun x41 ex41 => ?_)
          refine zr_bipush hB dX9_tellStep_87 rfl (fun c42 ec42 => ?_)
          refine zr_callsi hG (rest := []) dX9_tellStep_89 wm_X9_187 (c_M_down K hG.2.2.2.2.2.1 σ0 x41 c42 hO0 (by omega) (by omega)) rfl rfl (Nat.le_of_ble_eq_true rfl) ⟨Nat.le_of_ble_eq_true rfl, Nat.le_of_ble_eq_true rfl, rfl, rfl⟩ (fun r43 σ44 h45 => ?_)
          obtain rfl := h45
          refine zr_istore hB dX9_tellStep_92 (by decide) (lv' := [(11, .int r43), (10, .int r28), (0, .ref (zk K 0)), (1, .int p1), (2, .int p2), (3, .int p3), (4, .int p4), (5, .int p5), (6, .int y6_5), (7, .int y7_6), (8, .int y8_7), (9, .int y9_8)]) rfl ?_
          refine zr_iload_n hB 4 dX9_tellStep_94 rfl ?_
          refine zr_iload hB 0 dX9_tellStep_95 rfl ?_
          refine zr_iload hB 9 dX9_tellStep_97 rfl ?_
          refine zr_isubw hB dX9_tellStep_99 (fun x46 ex46 => ?_)
          refine zr_imulw hB dX9_tellStep_100 (fun x47 ex47 => ?_)
          refine zr_bipush hB dX9_tellStep_101 rfl (fun c48 ec48 => ?_)
          refine zr_iload_n hB 4 dX9_tellStep_103 rfl ?_
          refine zr_isubw hB dX9_tellStep_104 (fun x49 ex49 => ?_)
          refine zr_iload hB 10 dX9_tellStep_105 rfl ?_
          refine zr_imulw hB dX9_tellStep_107 (fun x50 ex50 => ?_)
          refine zr_iaddw hB dX9_tellStep_108 (fun x51 ex51 => ?_)
          refine zr_bipush hB dX9_tellStep_109 rfl (fun c52 ec52 => ?_)
          refine zr_callsi hG (rest := []) dX9_tellStep_111 wm_X9_187 (c_M_down K hG.2.2.2.2.2.1 σ0 x51 c52 hO0 (by omega) (by omega)) rfl rfl (Nat.le_of_ble_eq_true rfl) ⟨Nat.le_of_ble_eq_true rfl, Nat.le_of_ble_eq_true rfl, rfl, rfl⟩ (fun r53 σ54 h55 => ?_)
          obtain rfl := h55
          refine zr_istore hB dX9_tellStep_114 (by decide) (lv' := [(8, .int r53), (11, .int r43), (10, .int r28), (0, .ref (zk K 0)), (1, .int p1), (2, .int p2), (3, .int p3), (4, .int p4), (5, .int p5), (6, .int y6_5), (7, .int y7_6), (9, .int y9_8)]) rfl ?_
          refine zr_iload hB 1 dX9_tellStep_116 rfl ?_
          refine zr_istore hB dX9_tellStep_118 (by decide) (lv' := [(7, .int r43), (8, .int r53), (11, .int r43), (10, .int r28), (0, .ref (zk K 0)), (1, .int p1), (2, .int p2), (3, .int p3), (4, .int p4), (5, .int p5), (6, .int y6_5), (9, .int y9_8)]) rfl ?_
          refine zr_iload hB 10 dX9_tellStep_120 rfl ?_
          refine zr_iload hB 3 dX9_tellStep_122 rfl ?_
          refine zr_if_lt hB dX9_tellStep_124 (tgt := 131) rfl (fun c56 => ?_) (fun c56 => ?_)
          · exfalso; omega
          refine zr_iconst hB dX9_tellStep_127 rfl (fun c57 ec57 => ?_)
          refine zr_goto hB dX9_tellStep_128 (tgt := 132) rfl ?_
          refine zr_iadd hB dX9_tellStep_132 (by omega) (by omega) (fun x58 ex58 => ?_)
          refine zr_istore hB dX9_tellStep_133 (by decide) (lv' := [(6, .int x58), (7, .int r43), (8, .int r53), (11, .int r43), (10, .int r28), (0, .ref (zk K 0)), (1, .int p1), (2, .int p2), (3, .int p3), (4, .int p4), (5, .int p5), (9, .int y9_8)]) rfl ?_
          refine zr_iinc hB 11 dX9_tellStep_135 rfl (by decide) rfl (by omega) (by omega) (fun x59 ex59 lv' hlv => ?_)
          obtain rfl : [(9, .int x59), (6, .int x58), (7, .int r43), (8, .int r53), (11, .int r43), (10, .int r28), (0, .ref (zk K 0)), (1, .int p1), (2, .int p2), (3, .int p3), (4, .int p4), (5, .int p5)] = lv' := hlv
          refine zr_goto hB dX9_tellStep_138 (tgt := 12) rfl ?_
          exact zc_sub [6, 7, 8, 9, 10, 11, 1, 2, 3, 0] rfl (ih12 x58 r43 r53 x59 (by omega) (by omega) (by omega) (by omega) (show x59.toInt ≤ p4.toInt + 1 by omega) (show 0 ≤ x59.toInt by omega) (show x58.toInt ≤ x59.toInt by omega) (show x58.toInt = zp_ct (zp_k (zy_A σ0) p3.toInt p4.toInt) x59.toInt.toNat by rw [show x59.toInt.toNat = (y9_8.toInt + 1).toNat by omega]; first | (have h9 := zp_cy (k := (zp_k (zy_A σ0) p3.toInt p4.toInt)) (n := y9_8.toInt.toNat) (m := (y9_8.toInt + 1).toNat) (by omega) (hk.is.mp (by omega)); omega) | (have h9 := zp_cn (k := (zp_k (zy_A σ0) p3.toInt p4.toInt)) (n := y9_8.toInt.toNat) (m := (y9_8.toInt + 1).toNat) (by omega) (fun h9 => absurd (hk.is.mpr h9) (by omega)); omega)) (by omega))
        refine zr_iload hB 8 dX9_tellStep_59 rfl ?_
        refine zr_iload hB 9 dX9_tellStep_61 rfl ?_
        refine zr_iaddw hB dX9_tellStep_63 (fun x60 ex60 => ?_)
        refine zr_istore hB dX9_tellStep_64 (by decide) (lv' := [(7, .int x60), (10, .int r28), (0, .ref (zk K 0)), (1, .int p1), (2, .int p2), (3, .int p3), (4, .int p4), (5, .int p5), (6, .int y6_5), (8, .int y8_7), (9, .int y9_8)]) rfl ?_
        refine zr_goto hB dX9_tellStep_66 (tgt := 120) rfl ?_
        refine zr_iload hB 8 dX9_tellStep_120 rfl ?_
        refine zr_iload hB 1 dX9_tellStep_122 rfl ?_
        refine zr_if_lt hB dX9_tellStep_124 (tgt := 131) rfl (fun c61 => ?_) (fun c61 => ?_)
        · refine zr_iconst hB dX9_tellStep_131 rfl (fun c62 ec62 => ?_)
          refine zr_iadd hB dX9_tellStep_132 (by omega) (by omega) (fun x63 ex63 => ?_)
          refine zr_istore hB dX9_tellStep_133 (by decide) (lv' := [(6, .int x63), (7, .int x60), (10, .int r28), (0, .ref (zk K 0)), (1, .int p1), (2, .int p2), (3, .int p3), (4, .int p4), (5, .int p5), (8, .int y8_7), (9, .int y9_8)]) rfl ?_
          refine zr_iinc hB 10 dX9_tellStep_135 rfl (by decide) rfl (by omega) (by omega) (fun x64 ex64 lv' hlv => ?_)
          obtain rfl : [(9, .int x64), (6, .int x63), (7, .int x60), (10, .int r28), (0, .ref (zk K 0)), (1, .int p1), (2, .int p2), (3, .int p3), (4, .int p4), (5, .int p5), (8, .int y8_7)] = lv' := hlv
          refine zr_goto hB dX9_tellStep_138 (tgt := 12) rfl ?_
          exact zc_sub [4, 5, 6, 7, 8, 9, 1, 2, 10, 0] rfl (ih12 x63 x60 y8_7 x64 (by omega) (by omega) (by omega) (by omega) (show x64.toInt ≤ p4.toInt + 1 by omega) (show 0 ≤ x64.toInt by omega) (show x63.toInt ≤ x64.toInt by omega) (show x63.toInt = zp_ct (zp_k (zy_A σ0) p3.toInt p4.toInt) x64.toInt.toNat by rw [show x64.toInt.toNat = (y9_8.toInt + 1).toNat by omega]; first | (have h9 := zp_cy (k := (zp_k (zy_A σ0) p3.toInt p4.toInt)) (n := y9_8.toInt.toNat) (m := (y9_8.toInt + 1).toNat) (by omega) (hk.is.mp (by omega)); omega) | (have h9 := zp_cn (k := (zp_k (zy_A σ0) p3.toInt p4.toInt)) (n := y9_8.toInt.toNat) (m := (y9_8.toInt + 1).toNat) (by omega) (fun h9 => absurd (hk.is.mpr h9) (by omega)); omega)) (by omega))
        exfalso; omega
      refine zr_iload hB 0 dX9_tellStep_35 rfl ?_
      refine zr_if_lt hB dX9_tellStep_37 (tgt := 48) rfl (fun c65 => ?_) (fun c65 => ?_)
      · refine zr_iconst hB dX9_tellStep_48 rfl (fun c66 ec66 => ?_)
        refine zr_istore hB dX9_tellStep_49 (by decide) (lv' := [(7, .int c66), (10, .int r28), (0, .ref (zk K 0)), (1, .int p1), (2, .int p2), (3, .int p3), (4, .int p4), (5, .int p5), (6, .int y6_5), (8, .int y8_7), (9, .int y9_8)]) rfl ?_
        refine zr_goto hB dX9_tellStep_51 (tgt := 120) rfl ?_
        refine zr_iload hB 8 dX9_tellStep_120 rfl ?_
        refine zr_iload hB 1 dX9_tellStep_122 rfl ?_
        refine zr_if_lt hB dX9_tellStep_124 (tgt := 131) rfl (fun c67 => ?_) (fun c67 => ?_)
        · refine zr_iconst hB dX9_tellStep_131 rfl (fun c68 ec68 => ?_)
          refine zr_iadd hB dX9_tellStep_132 (by omega) (by omega) (fun x69 ex69 => ?_)
          refine zr_istore hB dX9_tellStep_133 (by decide) (lv' := [(6, .int x69), (7, .int c66), (10, .int r28), (0, .ref (zk K 0)), (1, .int p1), (2, .int p2), (3, .int p3), (4, .int p4), (5, .int p5), (8, .int y8_7), (9, .int y9_8)]) rfl ?_
          refine zr_iinc hB 10 dX9_tellStep_135 rfl (by decide) rfl (by omega) (by omega) (fun x70 ex70 lv' hlv => ?_)
          obtain rfl : [(9, .int x70), (6, .int x69), (7, .int c66), (10, .int r28), (0, .ref (zk K 0)), (1, .int p1), (2, .int p2), (3, .int p3), (4, .int p4), (5, .int p5), (8, .int y8_7)] = lv' := hlv
          refine zr_goto hB dX9_tellStep_138 (tgt := 12) rfl ?_
          exact zc_sub [4, 5, 6, 7, 8, 9, 1, 2, 10, 0] rfl (ih12 x69 c66 y8_7 x70 (by omega) (by omega) (by omega) (by omega) (show x70.toInt ≤ p4.toInt + 1 by omega) (show 0 ≤ x70.toInt by omega) (show x69.toInt ≤ x70.toInt by omega) (show x69.toInt = zp_ct (zp_k (zy_A σ0) p3.toInt p4.toInt) x70.toInt.toNat by rw [show x70.toInt.toNat = (y9_8.toInt + 1).toNat by omega]; first | (have h9 := zp_cy (k := (zp_k (zy_A σ0) p3.toInt p4.toInt)) (n := y9_8.toInt.toNat) (m := (y9_8.toInt + 1).toNat) (by omega) (hk.is.mp (by omega)); omega) | (have h9 := zp_cn (k := (zp_k (zy_A σ0) p3.toInt p4.toInt)) (n := y9_8.toInt.toNat) (m := (y9_8.toInt + 1).toNat) (by omega) (fun h9 => absurd (hk.is.mpr h9) (by omega)); omega)) (by omega))
        exfalso; omega
      refine zr_bipush hB dX9_tellStep_40 rfl (fun c71 ec71 => ?_)
      refine zr_iload hB 0 dX9_tellStep_42 rfl ?_
      refine zr_imuld hB dX9_tellStep_44 ec71 (by omega) (by omega) (fun x72 ex72 => ?_)
      refine zr_goto hB dX9_tellStep_45 (tgt := 49) rfl ?_
      refine zr_istore hB dX9_tellStep_49 (by decide) (lv' := [(7, .int x72), (10, .int r28), (0, .ref (zk K 0)), (1, .int p1), (2, .int p2), (3, .int p3), (4, .int p4), (5, .int p5), (6, .int y6_5), (8, .int y8_7), (9, .int y9_8)]) rfl ?_
      refine zr_goto hB dX9_tellStep_51 (tgt := 120) rfl ?_
      refine zr_iload hB 8 dX9_tellStep_120 rfl ?_
      refine zr_iload hB 1 dX9_tellStep_122 rfl ?_
      refine zr_if_lt hB dX9_tellStep_124 (tgt := 131) rfl (fun c73 => ?_) (fun c73 => ?_)
      · exfalso; omega
      refine zr_iconst hB dX9_tellStep_127 rfl (fun c74 ec74 => ?_)
      refine zr_goto hB dX9_tellStep_128 (tgt := 132) rfl ?_
      refine zr_iadd hB dX9_tellStep_132 (by omega) (by omega) (fun x75 ex75 => ?_)
      refine zr_istore hB dX9_tellStep_133 (by decide) (lv' := [(6, .int x75), (7, .int x72), (10, .int r28), (0, .ref (zk K 0)), (1, .int p1), (2, .int p2), (3, .int p3), (4, .int p4), (5, .int p5), (8, .int y8_7), (9, .int y9_8)]) rfl ?_
      refine zr_iinc hB 10 dX9_tellStep_135 rfl (by decide) rfl (by omega) (by omega) (fun x76 ex76 lv' hlv => ?_)
      obtain rfl : [(9, .int x76), (6, .int x75), (7, .int x72), (10, .int r28), (0, .ref (zk K 0)), (1, .int p1), (2, .int p2), (3, .int p3), (4, .int p4), (5, .int p5), (8, .int y8_7)] = lv' := hlv
      refine zr_goto hB dX9_tellStep_138 (tgt := 12) rfl ?_
      exact zc_sub [4, 5, 6, 7, 8, 9, 1, 2, 10, 0] rfl (ih12 x75 x72 y8_7 x76 (by omega) (by omega) (by omega) (by omega) (show x76.toInt ≤ p4.toInt + 1 by omega) (show 0 ≤ x76.toInt by omega) (show x75.toInt ≤ x76.toInt by omega) (show x75.toInt = zp_ct (zp_k (zy_A σ0) p3.toInt p4.toInt) x76.toInt.toNat by rw [show x76.toInt.toNat = (y9_8.toInt + 1).toNat by omega]; first | (have h9 := zp_cy (k := (zp_k (zy_A σ0) p3.toInt p4.toInt)) (n := y9_8.toInt.toNat) (m := (y9_8.toInt + 1).toNat) (by omega) (hk.is.mp (by omega)); omega) | (have h9 := zp_cn (k := (zp_k (zy_A σ0) p3.toInt p4.toInt)) (n := y9_8.toInt.toNat) (m := (y9_8.toInt + 1).toNat) (by omega) (fun h9 => absurd (hk.is.mpr h9) (by omega)); omega)) (by omega))
  exact zc_sub [4, 5, 6, 7, 8, 9, 3, 2, 1, 0] rfl (L12_12 66 c1 c2 c3 c4 (by omega) (by omega) (by omega) (by omega) (show c4.toInt ≤ p4.toInt + 1 by omega) (show 0 ≤ c4.toInt by omega) (show c1.toInt ≤ c4.toInt by omega) (show c1.toInt = zp_ct (zp_k (zy_A σ0) p3.toInt p4.toInt) c4.toInt.toNat by rw [show c4.toInt.toNat = 0 by omega]; show _ = (0 : Int); omega) (by omega))

set_option maxHeartbeats 1000000 in
set_option maxRecDepth 100000 in
theorem c_M_isFeast (K : zc_K) (hi : zc_inj shM K.2.2.2.1) (σ0 : zc_S) (p1 : Int32) (hO0 : zc_O okM σ0)  : zc_M shM K yX9_isFeast cX9_isFeast 2 (some .boolean) (zrm 2 45) σ0 [.ref (zk K 0), .int p1] (zc_I (fun r9 σ9 => σ0 = σ9 ∧ 0 ≤ r9.toInt ∧ r9.toInt ≤ 1 ∧ r9.toInt = zp_f 2 σ0 p1.toInt)) := by
  refine zc_start RX9 hi pfX9_isFeast rfl (Nat.le_of_ble_eq_true rfl) ?_
  intro G hG
  have hB := hG.1
  show zc_V 2 K G (zc_D shM K G σ0) [(0, .ref (zk K 0)), (1, .int p1)] 0 []
  refine zr_iload_n hB 1 dX9_isFeast_0 rfl ?_
  refine zr_callsi hG (rest := []) dX9_isFeast_1 wm_X9_97 (c_M_isDay K hG.2.2.2.2.2.1 σ0 p1 hO0 ) rfl rfl (Nat.le_of_ble_eq_true rfl) ⟨Nat.le_of_ble_eq_true rfl, Nat.le_of_ble_eq_true rfl, rfl, rfl⟩ (fun r1 σ2 h3 => ?_)
  obtain ⟨rfl, r1q⟩ := h3
  have r1z := r1q.b
  refine zr_if_eq hB dX9_isFeast_4 (tgt := 20) rfl (fun c4 => ?_) (fun c4 => ?_)
  · have q5 := r1q.f c4
    refine zr_iconst hB dX9_isFeast_20 rfl (fun c6 ec6 => ?_)
    exact zr_zret hG dX9_isFeast_21 (by omega) (by omega) ⟨rfl, by omega, by omega, (by unfold zp_f; split <;> omega)⟩
  have q7 := r1q.t c4
  refine zr_aload_n hB 0 dX9_isFeast_7 rfl ?_
  refine zr_getr hG 0 3 dX9_isFeast_8 rfl wf_X9_13 rfl ?_
  refine zr_iload_n hB 1 dX9_isFeast_11 rfl ?_
  refine zr_zald hG 2 dX9_isFeast_12 rfl (by omega) (by omega) (fun x8 ex8 => ?_)
  have bx8 : 0 ≤ x8.toInt ∧ x8.toInt ≤ 1 := by rw [ex8]; exact ⟨(hO0 2 _).1, (hO0 2 _).2.1⟩
  refine zr_if_eq hB dX9_isFeast_13 (tgt := 20) rfl (fun c9 => ?_) (fun c9 => ?_)
  · refine zr_iconst hB dX9_isFeast_20 rfl (fun c10 ec10 => ?_)
    exact zr_zret hG dX9_isFeast_21 (by omega) (by omega) ⟨rfl, by omega, by omega, (by have hqx8 := congrArg Int32.toInt ex8; unfold zp_f; split <;> omega)⟩
  refine zr_iconst hB dX9_isFeast_16 rfl (fun c11 ec11 => ?_)
  refine zr_goto hB dX9_isFeast_17 (tgt := 21) rfl ?_
  exact zr_zret hG dX9_isFeast_21 (by omega) (by omega) ⟨rfl, by omega, by omega, (by have hqx8 := congrArg Int32.toInt ex8; unfold zp_f; split <;> omega)⟩

set_option maxHeartbeats 1000000 in
set_option maxRecDepth 100000 in
theorem c_M_tellLike (K : zc_K) (hi : zc_inj shM K.2.2.2.1) (σ0 : zc_S) (p1 : Int32) (p2 : Int32) (p3 : Int32) (p4 : Int32) (hO0 : zc_O okM σ0) (h2a : 0 ≤ p2.toInt) (h2b : p2.toInt ≤ 3) (h3a : 0 ≤ p3.toInt) (h3b : p3.toInt ≤ 63) (h4a : 1 ≤ p4.toInt) (h4b : p4.toInt ≤ 14) : zc_M shM K yX9_tellLike cX9_tellLike 9 (some .int) (zrm 3 68) σ0 [.ref (zk K 0), .int p1, .int p2, .int p3, .int p4] (zc_I (fun r9 σ9 => σ0 = σ9 ∧ (-1) ≤ r9.toInt ∧ r9.toInt ≤ 999 ∧ zc_hid ((1 ≤ p1.toInt → zp_q r9.toInt (zp_L (zp_k (zy_A σ0) p2.toInt p3.toInt) (zp_f 2 σ0) p3.toInt p4.toInt))))) := by
  refine zc_start RX9 hi pfX9_tellLike rfl (Nat.le_of_ble_eq_true rfl) ?_
  intro G hG
  have hB := hG.1
  show zc_V 9 K G (zc_D shM K G σ0) [(0, .ref (zk K 0)), (1, .int p1), (2, .int p2), (3, .int p3), (4, .int p4)] 0 []
  refine zr_iconst hB dX9_tellLike_0 rfl (fun c1 ec1 => ?_)
  refine zr_istore hB dX9_tellLike_1 (by decide) (lv' := [(5, .int c1), (0, .ref (zk K 0)), (1, .int p1), (2, .int p2), (3, .int p3), (4, .int p4)]) rfl ?_
  refine zr_iconst hB dX9_tellLike_3 rfl (fun c2 ec2 => ?_)
  refine zr_istore hB dX9_tellLike_4 (by decide) (lv' := [(6, .int c2), (5, .int c1), (0, .ref (zk K 0)), (1, .int p1), (2, .int p2), (3, .int p3), (4, .int p4)]) rfl ?_
  refine zr_iload_n hB 5 dX9_tellLike_6 rfl ?_
  refine zr_istore hB dX9_tellLike_7 (by decide) (lv' := [(7, .int p3), (6, .int c2), (5, .int c1), (0, .ref (zk K 0)), (1, .int p1), (2, .int p2), (3, .int p3), (4, .int p4)]) rfl ?_
  have L9_10 : ∀ (n9 : Nat) (y5_3 : Int32) (y6_4 : Int32) (y7_5 : Int32), 0 ≤ y5_3.toInt → y5_3.toInt ≤ 64 → 0 ≤ y6_4.toInt → y6_4.toInt ≤ 63936 → (-1) ≤ y7_5.toInt → y7_5.toInt ≤ 63 → y6_4.toInt ≤ 999 * y5_3.toInt → y5_3.toInt + y7_5.toInt ≤ p3.toInt → y7_5.toInt ≤ p3.toInt → 0 ≤ y5_3.toInt → (zc_hid ((y5_3.toInt = 0 → ∀ t : Nat, y7_5.toInt < (t : Int) → (t : Int) ≤ p3.toInt → (p3.toInt + p4.toInt - (t : Int)) % 7 = 0 → (zp_k (zy_A σ0) p2.toInt p3.toInt) t → ¬ (zp_f 2 σ0) (t : Int) = (zp_f 2 σ0) (p3.toInt + p4.toInt)))) → (zc_hid ((0 < y5_3.toInt → zp_L (zp_k (zy_A σ0) p2.toInt p3.toInt) (zp_f 2 σ0) p3.toInt p4.toInt))) → y7_5.toInt - (-1) < (n9 : Int) → zc_V 9 K G (zc_D shM K G σ0) [(0, .ref (zk K 0)), (1, .int p1), (2, .int p2), (3, .int p3), (4, .int p4), (5, .int y5_3), (6, .int y6_4), (7, .int y7_5)] 9 [] := by
    intro n9
    induction n9 with
    | zero => intro y5_3 y6_4 y7_5 y5_3a y5_3b y6_4a y6_4b y7_5a y7_5b e6 e7 e8 e9 h1 h2 hn9; exfalso; omega
    | succ n9 ih9 =>
      intro y5_3 y6_4 y7_5 y5_3a y5_3b y6_4a y6_4b y7_5a y7_5b e6 e7 e8 e9 h1 h2 hn9
      refine zr_iload hB 7 dX9_tellLike_9 rfl ?_
      refine zr_if_lt hB dX9_tellLike_11 (tgt := 83) rfl (fun c11 => ?_) (fun c11 => ?_)
      · refine zr_iload hB 5 dX9_tellLike_83 rfl ?_
        refine zr_if_ne hB dX9_tellLike_85 (tgt := 92) rfl (fun c12 => ?_) (fun c12 => ?_)
        · refine zr_iload hB 6 dX9_tellLike_92 rfl ?_
          refine zr_iload hB 5 dX9_tellLike_94 rfl ?_
          refine zr_idiv hB dX9_tellLike_96 (by omega) (by omega) (fun x13 ex13 ex13a ex13b ex13c => ?_)
          have ex13d := ex13c 999 (by omega)
          exact zr_iret hG dX9_tellLike_97 ⟨rfl, by omega, by omega, (fun hn => zp_q.y (by omega) (h2 (by omega)))⟩
        refine zr_iconst hB dX9_tellLike_88 rfl (fun c14 ec14 => ?_)
        refine zr_goto hB dX9_tellLike_89 (tgt := 97) rfl ?_
        exact zr_iret hG dX9_tellLike_97 ⟨rfl, by omega, by omega, (fun hn => zp_q.n (by omega) (by rintro ⟨t, a, b, c, e⟩; exact h1 (by omega) t (by omega) a b c e))⟩
      refine zr_iload hB 5 dX9_tellLike_14 rfl ?_
      refine zr_iload_n hB 1 dX9_tellLike_16 rfl ?_
      refine zr_icmp_ge hB dX9_tellLike_17 (tgt := 83) rfl (fun c15 => ?_) (fun c15 => ?_)
      · refine zr_iload hB 5 dX9_tellLike_83 rfl ?_
        refine zr_if_ne hB dX9_tellLike_85 (tgt := 92) rfl (fun c16 => ?_) (fun c16 => ?_)
        · refine zr_iload hB 6 dX9_tellLike_92 rfl ?_
          refine zr_iload hB 5 dX9_tellLike_94 rfl ?_
          refine zr_idiv hB dX9_tellLike_96 (by omega) (by omega) (fun x17 ex17 ex17a ex17b ex17c => ?_)
          have ex17d := ex17c 999 (by omega)
          exact zr_iret hG dX9_tellLike_97 ⟨rfl, by omega, by omega, (fun hn => zp_q.y (by omega) (h2 (by omega)))⟩
        refine zr_iconst hB dX9_tellLike_88 rfl (fun c18 ec18 => ?_)
        refine zr_goto hB dX9_tellLike_89 (tgt := 97) rfl ?_
        exact zr_iret hG dX9_tellLike_97 ⟨rfl, by omega, by omega, (fun hn => zp_q.n (by omega) (by rintro ⟨t, a, b, c, e⟩; exact h1 (by omega) t (by omega) a b c e))⟩
      refine zr_aload_n hB 0 dX9_tellLike_20 rfl ?_
      refine zr_iload_n hB 2 dX9_tellLike_21 rfl ?_
      refine zr_iload hB 7 dX9_tellLike_22 rfl ?_
      refine zr_iload_n hB 3 dX9_tellLike_24 rfl ?_
      refine zr_callvi hG (rest := []) 0 dX9_tellLike_25 wm_X9_113 rfl rfl (c_M_knownOn K hG.2.2.2.2.2.1 σ0 p2 y7_5 p3 hO0 (by omega) (by omega) (by omega) (by omega)) rfl rfl (Nat.le_of_ble_eq_true rfl) ⟨Nat.le_of_ble_eq_true rfl, Nat.le_of_ble_eq_true rfl, rfl, rfl⟩ (fun r19 σ20 h21 => ?_)
      obtain ⟨rfl, r19a, r19b, g22⟩ := h21
      have hk : zp_q r19.toInt ((zp_k (zy_A σ0) p2.toInt p3.toInt) y7_5.toInt.toNat) := zp_kM (zx_or g22 (by omega)) (by omega) (by omega) (by omega)
      refine zr_istore hB dX9_tellLike_28 (by decide) (lv' := [(8, .int r19), (0, .ref (zk K 0)), (1, .int p1), (2, .int p2), (3, .int p3), (4, .int p4), (5, .int y5_3), (6, .int y6_4), (7, .int y7_5)]) rfl ?_
      refine zr_iload hB 0 dX9_tellLike_30 rfl ?_
      refine zr_if_lt hB dX9_tellLike_32 (tgt := 77) rfl (fun c23 => ?_) (fun c23 => ?_)
      · refine zr_iinc hB 8 dX9_tellLike_77 rfl (by decide) rfl (by omega) (by omega) (fun x24 ex24 lv' hlv => ?_)
        obtain rfl : [(7, .int x24), (8, .int r19), (0, .ref (zk K 0)), (1, .int p1), (2, .int p2), (3, .int p3), (4, .int p4), (5, .int y5_3), (6, .int y6_4)] = lv' := hlv
        refine zr_goto hB dX9_tellLike_80 (tgt := 9) rfl ?_
        exact zc_sub [2, 3, 4, 5, 6, 7, 8, 0] rfl (ih9 y5_3 y6_4 x24 (by omega) (by omega) (by omega) (by omega) (by omega) (by omega) (show y6_4.toInt ≤ 999 * y5_3.toInt by omega) (show y5_3.toInt + x24.toInt ≤ p3.toInt by omega) (show x24.toInt ≤ p3.toInt by omega) (show 0 ≤ y5_3.toInt by omega) (show zc_hid ((y5_3.toInt = 0 → ∀ t : Nat, x24.toInt < (t : Int) → (t : Int) ≤ p3.toInt → (p3.toInt + p4.toInt - (t : Int)) % 7 = 0 → (zp_k (zy_A σ0) p2.toInt p3.toInt) t → ¬ (zp_f 2 σ0) (t : Int) = (zp_f 2 σ0) (p3.toInt + p4.toInt))) by first | (intro h0; exfalso; omega) | (intro h0 t a b c d e; by_cases h9 : y7_5.toInt < (t : Int); exact h1 (by omega) t h9 b c d e; (obtain rfl : t = y7_5.toInt.toNat := (by omega); exact absurd (hk.is.mpr d) (by omega)))) (show zc_hid ((0 < y5_3.toInt → zp_L (zp_k (zy_A σ0) p2.toInt p3.toInt) (zp_f 2 σ0) p3.toInt p4.toInt)) by exact h2) (by omega))
      refine zr_aload_n hB 1 dX9_tellLike_35 rfl ?_
      refine zr_iload hB 8 dX9_tellLike_36 rfl ?_
      refine zr_callvi hG (rest := []) 0 dX9_tellLike_38 wm_X9_190 rfl rfl (c_M_isFeast K hG.2.2.2.2.2.1 σ0 y7_5 hO0 ) rfl rfl (Nat.le_of_ble_eq_true rfl) ⟨Nat.le_of_ble_eq_true rfl, Nat.le_of_ble_eq_true rfl, rfl, rfl⟩ (fun r25 σ26 h27 => ?_)
      obtain ⟨rfl, r25a, r25b, g28⟩ := h27
      have hfd : r25.toInt = (zp_f 2 σ0) y7_5.toInt := g28
      refine zr_aload_n hB 1 dX9_tellLike_41 rfl ?_
      refine zr_iload_n hB 4 dX9_tellLike_42 rfl ?_
      refine zr_iload hB 5 dX9_tellLike_43 rfl ?_
      refine zr_iadd hB dX9_tellLike_45 (by omega) (by omega) (fun x29 ex29 => ?_)
      refine zr_callvi hG (rest := [.int r25]) 0 dX9_tellLike_46 wm_X9_190 rfl rfl (c_M_isFeast K hG.2.2.2.2.2.1 σ0 x29 hO0 ) rfl rfl (Nat.le_of_ble_eq_true rfl) ⟨Nat.le_of_ble_eq_true rfl, Nat.le_of_ble_eq_true rfl, rfl, rfl⟩ (fun r30 σ31 h32 => ?_)
      obtain ⟨rfl, r30a, r30b, g33⟩ := h32
      have hfe : r30.toInt = (zp_f 2 σ0) (p3.toInt + p4.toInt) := by rw [g33, show x29.toInt = p3.toInt + p4.toInt by omega]
      refine zr_icmp_ne hB dX9_tellLike_49 (tgt := 77) rfl (fun c34 => ?_) (fun c34 => ?_)
      · refine zr_iinc hB 8 dX9_tellLike_77 rfl (by decide) rfl (by omega) (by omega) (fun x35 ex35 lv' hlv => ?_)
        obtain rfl : [(7, .int x35), (8, .int r19), (0, .ref (zk K 0)), (1, .int p1), (2, .int p2), (3, .int p3), (4, .int p4), (5, .int y5_3), (6, .int y6_4)] = lv' := hlv
        refine zr_goto hB dX9_tellLike_80 (tgt := 9) rfl ?_
        exact zc_sub [2, 3, 4, 5, 6, 7, 8, 0] rfl (ih9 y5_3 y6_4 x35 (by omega) (by omega) (by omega) (by omega) (by omega) (by omega) (show y6_4.toInt ≤ 999 * y5_3.toInt by omega) (show y5_3.toInt + x35.toInt ≤ p3.toInt by omega) (show x35.toInt ≤ p3.toInt by omega) (show 0 ≤ y5_3.toInt by omega) (show zc_hid ((y5_3.toInt = 0 → ∀ t : Nat, x35.toInt < (t : Int) → (t : Int) ≤ p3.toInt → (p3.toInt + p4.toInt - (t : Int)) % 7 = 0 → (zp_k (zy_A σ0) p2.toInt p3.toInt) t → ¬ (zp_f 2 σ0) (t : Int) = (zp_f 2 σ0) (p3.toInt + p4.toInt))) by first | (intro h0; exfalso; omega) | (intro h0 t a b c d e; by_cases h9 : y7_5.toInt < (t : Int); exact h1 (by omega) t h9 b c d e; (obtain rfl : t = y7_5.toInt.toNat := (by omega); first | omega | (rw [show ((y7_5.toInt.toNat : Nat) : Int) = y7_5.toInt by omega, ← hfd, ← hfe] at e; omega)))) (show zc_hid ((0 < y5_3.toInt → zp_L (zp_k (zy_A σ0) p2.toInt p3.toInt) (zp_f 2 σ0) p3.toInt p4.toInt)) by first | exact fun h9 => h2 (by omega) | (intro _; exact ⟨y7_5.toInt.toNat, by omega, by omega, (hk.is.mp (by omega)), by rw [show ((y7_5.toInt.toNat : Nat) : Int) = y7_5.toInt by omega, ← hfd, ← hfe]; omega⟩)) (by omega))
      refine zr_iload hB 8 dX9_tellLike_52 rfl ?_
      refine zr_bipush hB dX9_tellLike_54 rfl (fun c36 ec36 => ?_)
      refine zr_iremc hB dX9_tellLike_56 ec36 (by omega) (by decide) (fun x37 ex37 => ?_)
      refine zr_iload_n hB 4 dX9_tellLike_57 rfl ?_
      refine zr_iload hB 5 dX9_tellLike_58 rfl ?_
      refine zr_iadd hB dX9_tellLike_60 (by omega) (by omega) (fun x38 ex38 => ?_)
      refine zr_bipush hB dX9_tellLike_61 rfl (fun c39 ec39 => ?_)
      refine zr_iremc hB dX9_tellLike_63 ec39 (by omega) (by decide) (fun x40 ex40 => ?_)
      refine zr_icmp_ne hB dX9_tellLike_64 (tgt := 77) rfl (fun c41 => ?_) (fun c41 => ?_)
      · refine zr_iinc hB 8 dX9_tellLike_77 rfl (by decide) rfl (by omega) (by omega) (fun x42 ex42 lv' hlv => ?_)
        obtain rfl : [(7, .int x42), (8, .int r19), (0, .ref (zk K 0)), (1, .int p1), (2, .int p2), (3, .int p3), (4, .int p4), (5, .int y5_3), (6, .int y6_4)] = lv' := hlv
        refine zr_goto hB dX9_tellLike_80 (tgt := 9) rfl ?_
        exact zc_sub [2, 3, 4, 5, 6, 7, 8, 0] rfl (ih9 y5_3 y6_4 x42 (by omega) (by omega) (by omega) (by omega) (by omega) (by omega) (show y6_4.toInt ≤ 999 * y5_3.toInt by omega) (show y5_3.toInt + x42.toInt ≤ p3.toInt by omega) (show x42.toInt ≤ p3.toInt by omega) (show 0 ≤ y5_3.toInt by omega) (show zc_hid ((y5_3.toInt = 0 → ∀ t : Nat, x42.toInt < (t : Int) → (t : Int) ≤ p3.toInt → (p3.toInt + p4.toInt - (t : Int)) % 7 = 0 → (zp_k (zy_A σ0) p2.toInt p3.toInt) t → ¬ (zp_f 2 σ0) (t : Int) = (zp_f 2 σ0) (p3.toInt + p4.toInt))) by first | (intro h0; exfalso; omega) | (intro h0 t a b c d e; by_cases h9 : y7_5.toInt < (t : Int); exact h1 (by omega) t h9 b c d e; (obtain rfl : t = y7_5.toInt.toNat := (by omega); first | omega | (rw [show ((y7_5.toInt.toNat : Nat) : Int) = y7_5.toInt by omega, ← hfd, ← hfe] at e; omega)))) (show zc_hid ((0 < y5_3.toInt → zp_L (zp_k (zy_A σ0) p2.toInt p3.toInt) (zp_f 2 σ0) p3.toInt p4.toInt)) by first | exact fun h9 => h2 (by omega) | (intro _; exact ⟨y7_5.toInt.toNat, by omega, by omega, (hk.is.mp (by omega)), by rw [show ((y7_5.toInt.toNat : Nat) : Int) = y7_5.toInt by omega, ← hfd, ← hfe]; omega⟩)) (by omega))
      refine zr_iinc hB 6 dX9_tellLike_67 rfl (by decide) rfl (by omega) (by omega) (fun x43 ex43 lv' hlv => ?_)
      obtain rfl : [(5, .int x43), (8, .int r19), (0, .ref (zk K 0)), (1, .int p1), (2, .int p2), (3, .int p3), (4, .int p4), (6, .int y6_4), (7, .int y7_5)] = lv' := hlv
      refine zr_iload hB 7 dX9_tellLike_70 rfl ?_
      refine zr_iload hB 1 dX9_tellLike_72 rfl ?_
      refine zr_iadd hB dX9_tellLike_74 (by omega) (by omega) (fun x44 ex44 => ?_)
      refine zr_istore hB dX9_tellLike_75 (by decide) (lv' := [(6, .int x44), (5, .int x43), (8, .int r19), (0, .ref (zk K 0)), (1, .int p1), (2, .int p2), (3, .int p3), (4, .int p4), (7, .int y7_5)]) rfl ?_
      refine zr_iinc hB 8 dX9_tellLike_77 rfl (by decide) rfl (by omega) (by omega) (fun x45 ex45 lv' hlv => ?_)
      obtain rfl : [(7, .int x45), (6, .int x44), (5, .int x43), (8, .int r19), (0, .ref (zk K 0)), (1, .int p1), (2, .int p2), (3, .int p3), (4, .int p4)] = lv' := hlv
      refine zr_goto hB dX9_tellLike_80 (tgt := 9) rfl ?_
      exact zc_sub [4, 5, 6, 7, 8, 2, 1, 0] rfl (ih9 x43 x44 x45 (by omega) (by omega) (by omega) (by omega) (by omega) (by omega) (show x44.toInt ≤ 999 * x43.toInt by omega) (show x43.toInt + x45.toInt ≤ p3.toInt by omega) (show x45.toInt ≤ p3.toInt by omega) (show 0 ≤ x43.toInt by omega) (show zc_hid ((x43.toInt = 0 → ∀ t : Nat, x45.toInt < (t : Int) → (t : Int) ≤ p3.toInt → (p3.toInt + p4.toInt - (t : Int)) % 7 = 0 → (zp_k (zy_A σ0) p2.toInt p3.toInt) t → ¬ (zp_f 2 σ0) (t : Int) = (zp_f 2 σ0) (p3.toInt + p4.toInt))) by first | (intro h0; exfalso; omega) | (intro h0 t a b c d e; by_cases h9 : y7_5.toInt < (t : Int); exact h1 (by omega) t h9 b c d e; (obtain rfl : t = y7_5.toInt.toNat := (by omega); first | omega | (rw [show ((y7_5.toInt.toNat : Nat) : Int) = y7_5.toInt by omega, ← hfd, ← hfe] at e; omega)))) (show zc_hid ((0 < x43.toInt → zp_L (zp_k (zy_A σ0) p2.toInt p3.toInt) (zp_f 2 σ0) p3.toInt p4.toInt)) by first | exact fun h9 => h2 (by omega) | (intro _; exact ⟨y7_5.toInt.toNat, by omega, by omega, (hk.is.mp (by omega)), by rw [show ((y7_5.toInt.toNat : Nat) : Int) = y7_5.toInt by omega, ← hfd, ← hfe]; omega⟩)) (by omega))
  exact zc_sub [3, 4, 5, 6, 7, 2, 1, 0] rfl (L9_10 66 c1 c2 p3 (by omega) (by omega) (by omega) (by omega) (by omega) (by omega) (show c2.toInt ≤ 999 * c1.toInt by omega) (show c1.toInt + p3.toInt ≤ p3.toInt by omega) (show p3.toInt ≤ p3.toInt by omega) (show 0 ≤ c1.toInt by omega) (show zc_hid ((c1.toInt = 0 → ∀ t : Nat, p3.toInt < (t : Int) → (t : Int) ≤ p3.toInt → (p3.toInt + p4.toInt - (t : Int)) % 7 = 0 → (zp_k (zy_A σ0) p2.toInt p3.toInt) t → ¬ (zp_f 2 σ0) (t : Int) = (zp_f 2 σ0) (p3.toInt + p4.toInt))) by intro h0 t a b; exfalso; omega) (show zc_hid ((0 < c1.toInt → zp_L (zp_k (zy_A σ0) p2.toInt p3.toInt) (zp_f 2 σ0) p3.toInt p4.toInt)) by intro h9; exfalso; omega) (by omega))

set_option maxHeartbeats 1000000 in
set_option maxRecDepth 100000 in
theorem c_M_tellPlain (K : zc_K) (hi : zc_inj shM K.2.2.2.1) (σ0 : zc_S) (p1 : Int32) (p2 : Int32) (p3 : Int32) (p4 : Int32) (p5 : Int32) (p6 : Int32) (hO0 : zc_O okM σ0) (h1a : 0 ≤ p1.toInt) (h1b : p1.toInt ≤ 4) (h4a : 0 ≤ p4.toInt) (h4b : p4.toInt ≤ 3) (h5a : 0 ≤ p5.toInt) (h5b : p5.toInt ≤ 63) (h6a : 1 ≤ p6.toInt) (h6b : p6.toInt ≤ 14) (hx0 : (p1.toInt = 2 ∨ 1 ≤ p2.toInt)) : zc_M shM K yX9_tellPlain cX9_tellPlain 7 (some .int) (zrm 4 99) σ0 [.ref (zk K 0), .int p1, .int p2, .int p3, .int p4, .int p5, .int p6] (zc_I (fun r9 σ9 => σ0 = σ9 ∧ (-1) ≤ r9.toInt ∧ r9.toInt ≤ 999 ∧ zc_hid ((¬ p1.toInt = 4 → zp_q r9.toInt (zp_T (zp_k (zy_A σ0) p4.toInt p5.toInt) (zp_f 2 σ0) p1.toInt p2.toInt p5.toInt p6.toInt))))) := by
  refine zc_start RX9 hi pfX9_tellPlain rfl (Nat.le_of_ble_eq_true rfl) ?_
  intro G hG
  have hB := hG.1
  show zc_V 7 K G (zc_D shM K G σ0) [(0, .ref (zk K 0)), (1, .int p1), (2, .int p2), (3, .int p3), (4, .int p4), (5, .int p5), (6, .int p6)] 0 []
  refine zr_iload_n hB 1 dX9_tellPlain_0 rfl ?_
  refine zr_if_ne hB dX9_tellPlain_1 (tgt := 18) rfl (fun c1 => ?_) (fun c1 => ?_)
  · refine zr_iload_n hB 1 dX9_tellPlain_18 rfl ?_
    refine zr_iconst hB dX9_tellPlain_19 rfl (fun c2 ec2 => ?_)
    refine zr_icmp_ne hB dX9_tellPlain_20 (tgt := 35) rfl (fun c3 => ?_) (fun c3 => ?_)
    · refine zr_iload_n hB 1 dX9_tellPlain_35 rfl ?_
      refine zr_iconst hB dX9_tellPlain_36 rfl (fun c4 ec4 => ?_)
      refine zr_icmp_ne hB dX9_tellPlain_37 (tgt := 55) rfl (fun c5 => ?_) (fun c5 => ?_)
      · refine zr_aload_n hB 0 dX9_tellPlain_55 rfl ?_
        refine zr_iload_n hB 2 dX9_tellPlain_56 rfl ?_
        refine zr_iload hB 4 dX9_tellPlain_57 rfl ?_
        refine zr_iload hB 5 dX9_tellPlain_59 rfl ?_
        refine zr_iload hB 6 dX9_tellPlain_61 rfl ?_
        refine zr_callvi hG (rest := []) 0 dX9_tellPlain_63 wm_X9_204 rfl rfl (c_M_tellLike K hG.2.2.2.2.2.1 σ0 p2 p4 p5 p6 hO0 (by omega) (by omega) (by omega) (by omega) (by omega) (by omega)) rfl rfl (Nat.le_of_ble_eq_true rfl) ⟨Nat.le_of_ble_eq_true rfl, Nat.le_of_ble_eq_true rfl, rfl, rfl⟩ (fun r6 σ7 h8 => ?_)
        obtain ⟨rfl, r6a, r6b, g9⟩ := h8
        exact zr_iret hG dX9_tellPlain_66 ⟨rfl, by omega, by omega, (fun h1 => (g9 (by omega)).iff (zp_T3 (by omega)).symm)⟩
      refine zr_aload_n hB 0 dX9_tellPlain_40 rfl ?_
      refine zr_iload_n hB 2 dX9_tellPlain_41 rfl ?_
      refine zr_iload_n hB 3 dX9_tellPlain_42 rfl ?_
      refine zr_iload hB 4 dX9_tellPlain_43 rfl ?_
      refine zr_iload hB 5 dX9_tellPlain_45 rfl ?_
      refine zr_iload hB 6 dX9_tellPlain_47 rfl ?_
      refine zr_callvi hG (rest := []) 0 dX9_tellPlain_49 wm_X9_200 rfl rfl (c_M_tellStep K hG.2.2.2.2.2.1 σ0 p2 p3 p4 p5 p6 hO0 (by omega) (by omega) (by omega) (by omega)) rfl rfl (Nat.le_of_ble_eq_true rfl) ⟨Nat.le_of_ble_eq_true rfl, Nat.le_of_ble_eq_true rfl, rfl, rfl⟩ (fun r10 σ11 h12 => ?_)
      obtain ⟨rfl, r10a, r10b, g13⟩ := h12
      refine zr_goto hB dX9_tellPlain_52 (tgt := 66) rfl ?_
      exact zr_iret hG dX9_tellPlain_66 ⟨rfl, by omega, by omega, (fun h1 => g13.iff (zp_T2 (by omega)).symm)⟩
    refine zr_aload_n hB 0 dX9_tellPlain_23 rfl ?_
    refine zr_iload_n hB 2 dX9_tellPlain_24 rfl ?_
    refine zr_iload hB 4 dX9_tellPlain_25 rfl ?_
    refine zr_iload hB 5 dX9_tellPlain_27 rfl ?_
    refine zr_callvi hG (rest := []) 0 dX9_tellPlain_29 wm_X9_197 rfl rfl (c_M_tellMean K hG.2.2.2.2.2.1 σ0 p2 p4 p5 hO0 (by omega) (by omega) (by omega) (by omega) (by omega)) rfl rfl (Nat.le_of_ble_eq_true rfl) ⟨Nat.le_of_ble_eq_true rfl, Nat.le_of_ble_eq_true rfl, rfl, rfl⟩ (fun r14 σ15 h16 => ?_)
    obtain ⟨rfl, r14a, r14b, g17⟩ := h16
    refine zr_goto hB dX9_tellPlain_32 (tgt := 66) rfl ?_
    exact zr_iret hG dX9_tellPlain_66 ⟨rfl, by omega, by omega, (fun h1 => g17.iff (zp_T1 (by omega)).symm)⟩
  refine zr_aload_n hB 0 dX9_tellPlain_4 rfl ?_
  refine zr_iload_n hB 2 dX9_tellPlain_5 rfl ?_
  refine zr_iload hB 4 dX9_tellPlain_6 rfl ?_
  refine zr_iload hB 5 dX9_tellPlain_8 rfl ?_
  refine zr_iload hB 6 dX9_tellPlain_10 rfl ?_
  refine zr_callvi hG (rest := []) 0 dX9_tellPlain_12 wm_X9_193 rfl rfl (c_M_tellSame K hG.2.2.2.2.2.1 σ0 p2 p4 p5 p6 hO0 (by omega) (by omega) (by omega) (by omega) (by omega) (by omega) (by omega)) rfl rfl (Nat.le_of_ble_eq_true rfl) ⟨Nat.le_of_ble_eq_true rfl, Nat.le_of_ble_eq_true rfl, rfl, rfl⟩ (fun r18 σ19 h20 => ?_)
  obtain ⟨rfl, r18a, r18b, g21⟩ := h20
  refine zr_goto hB dX9_tellPlain_15 (tgt := 66) rfl ?_
  exact zr_iret hG dX9_tellPlain_66 ⟨rfl, by omega, by omega, (fun h1 => g21.iff (zp_T0 (by omega)).symm)⟩

set_option maxHeartbeats 1000000 in
set_option maxRecDepth 100000 in
theorem c_M_weightOf (K : zc_K) (hi : zc_inj shM K.2.2.2.1) (σ0 : zc_S) (p1 : Int32) (p2 : Int32) (p3 : Int32) (p4 : Int32) (p5 : Int32) (hO0 : zc_O okM σ0) (h1a : 0 ≤ p1.toInt) (h1b : p1.toInt ≤ 5) (h3a : 0 ≤ p3.toInt) (h3b : p3.toInt ≤ 3) (h4a : 0 ≤ p4.toInt) (h4b : p4.toInt ≤ 63) (h5a : 1 ≤ p5.toInt) (h5b : p5.toInt ≤ 14) (hx0 : p1.toInt < (σ0.1 0 17).toInt) (hT : zm_T σ0) : zc_M shM K yX9_weightOf cX9_weightOf 11 (some .int) (zrm 5 125) σ0 [.ref (zk K 0), .int p1, .int p2, .int p3, .int p4, .int p5] (zc_I (fun r9 σ9 => σ0 = σ9 ∧ 0 ≤ r9.toInt ∧ r9.toInt ≤ 1000 ∧ zc_hid ((¬ (σ0.1 8 p1.toInt.toNat).toInt = 4 → 1 ≤ p2.toInt → ((r9.toInt = 0 ∧ ¬ (zp_W (zy_A σ0) (zp_f 2 σ0) p3.toInt (zw_TM σ0) p5.toInt p1.toInt.toNat p4.toInt)) ∨ (1 ≤ r9.toInt ∧ (zp_W (zy_A σ0) (zp_f 2 σ0) p3.toInt (zw_TM σ0) p5.toInt p1.toInt.toNat p4.toInt))))))) := by
  refine zc_start RX9 hi pfX9_weightOf rfl (Nat.le_of_ble_eq_true rfl) ?_
  intro G hG
  have hB := hG.1
  show zc_V 11 K G (zc_D shM K G σ0) [(0, .ref (zk K 0)), (1, .int p1), (2, .int p2), (3, .int p3), (4, .int p4), (5, .int p5)] 0 []
  have bw0_17 : 0 ≤ (σ0.1 0 17).toInt ∧ (σ0.1 0 17).toInt ≤ 6 := ⟨(hO0 0 17).1, (hO0 0 17).2.1⟩
  refine zr_iconst hB dX9_weightOf_0 rfl (fun c1 ec1 => ?_)
  refine zr_istore hB dX9_weightOf_1 (by decide) (lv' := [(6, .int c1), (0, .ref (zk K 0)), (1, .int p1), (2, .int p2), (3, .int p3), (4, .int p4), (5, .int p5)]) rfl ?_
  refine zr_iconst hB dX9_weightOf_3 rfl (fun c2 ec2 => ?_)
  refine zr_istore hB dX9_weightOf_4 (by decide) (lv' := [(7, .int c2), (6, .int c1), (0, .ref (zk K 0)), (1, .int p1), (2, .int p2), (3, .int p3), (4, .int p4), (5, .int p5)]) rfl ?_
  refine zr_iload hB 6 dX9_weightOf_6 rfl ?_
  refine zr_istore hB dX9_weightOf_8 (by decide) (lv' := [(8, .int p4), (7, .int c2), (6, .int c1), (0, .ref (zk K 0)), (1, .int p1), (2, .int p2), (3, .int p3), (4, .int p4), (5, .int p5)]) rfl ?_
  have L10_10 : ∀ (n10 : Nat) (y6_3 : Int32) (y7_4 : Int32) (y8_5 : Int32), 0 ≤ y6_3.toInt → y6_3.toInt ≤ 64 → 0 ≤ y7_4.toInt → y7_4.toInt ≤ 63936 → 0 ≤ y8_5.toInt → y8_5.toInt ≤ 63 → y7_4.toInt ≤ 999 * y6_3.toInt → y6_3.toInt + y8_5.toInt ≤ p4.toInt → y8_5.toInt ≤ p4.toInt → 0 ≤ y6_3.toInt → (zc_hid ((¬ (σ0.1 8 p1.toInt.toNat).toInt = 4 → y6_3.toInt = 0 → ∀ t : Nat, y8_5.toInt < (t : Int) → (t : Int) ≤ p4.toInt → (zp_k (zy_A σ0) p3.toInt p4.toInt) t → p5.toInt ≤ (t : Int) → ¬ (zp_P (zy_A σ0) (zp_f 2 σ0) p3.toInt (zw_TM σ0) p5.toInt p1.toInt.toNat ((t : Int) - p5.toInt))))) → (zc_hid ((¬ (σ0.1 8 p1.toInt.toNat).toInt = 4 → 0 < y6_3.toInt → (zp_W (zy_A σ0) (zp_f 2 σ0) p3.toInt (zw_TM σ0) p5.toInt p1.toInt.toNat p4.toInt)))) → y8_5.toInt - 0 < (n10 : Int) → zc_V 11 K G (zc_D shM K G σ0) [(0, .ref (zk K 0)), (1, .int p1), (2, .int p2), (3, .int p3), (4, .int p4), (5, .int p5), (6, .int y6_3), (7, .int y7_4), (8, .int y8_5)] 10 [] := by
    intro n10
    induction n10 with
    | zero => intro y6_3 y7_4 y8_5 y6_3a y6_3b y7_4a y7_4b y8_5a y8_5b e6 e7 e8 e9 w1 w2 hn10; exfalso; omega
    | succ n10 ih10 =>
      intro y6_3 y7_4 y8_5 y6_3a y6_3b y7_4a y7_4b y8_5a y8_5b e6 e7 e8 e9 w1 w2 hn10
      refine zr_iload hB 8 dX9_weightOf_10 rfl ?_
      refine zr_iload hB 5 dX9_weightOf_12 rfl ?_
      refine zr_icmp_lt hB dX9_weightOf_14 (tgt := 114) rfl (fun c11 => ?_) (fun c11 => ?_)
      · refine zr_sipush hB dX9_weightOf_114 rfl (fun c12 ec12 => ?_)
        refine zr_iconst hB dX9_weightOf_117 rfl (fun c13 ec13 => ?_)
        refine zr_iload hB 6 dX9_weightOf_118 rfl ?_
        refine zr_if_ne hB dX9_weightOf_120 (tgt := 129) rfl (fun c14 => ?_) (fun c14 => ?_)
        · refine zr_iload hB 7 dX9_weightOf_129 rfl ?_
          refine zr_iload hB 6 dX9_weightOf_131 rfl ?_
          refine zr_idiv hB dX9_weightOf_133 (by omega) (by omega) (fun x15 ex15 ex15a ex15b ex15c => ?_)
          have ex15d := ex15c 999 (by omega)
          refine zr_iadd hB dX9_weightOf_134 (by omega) (by omega) (fun x16 ex16 => ?_)
          refine zr_idiv hB dX9_weightOf_135 (by omega) (by omega) (fun x17 ex17 ex17a ex17b ex17c => ?_)
          exact zr_iret hG dX9_weightOf_136 ⟨rfl, by omega, by omega, (fun h4 hn => by by_cases h9 : y6_3.toInt = 0; exact Or.inl ⟨(by first | omega | exact zp_w0 ex17 (by omega) (by omega)), (by rintro ⟨t, a, b, c, d⟩; exact w1 h4 h9 t (by omega) b c a d)⟩; exact Or.inr ⟨(by first | exact zp_w1 ex17 (by omega) (by omega) (by omega) | (exfalso; omega)), w2 h4 (by omega)⟩)⟩
        refine zr_sipush hB dX9_weightOf_123 rfl (fun c18 ec18 => ?_)
        refine zr_goto hB dX9_weightOf_126 (tgt := 134) rfl ?_
        refine zr_iadd hB dX9_weightOf_134 (by omega) (by omega) (fun x19 ex19 => ?_)
        refine zr_idiv hB dX9_weightOf_135 (by omega) (by omega) (fun x20 ex20 ex20a ex20b ex20c => ?_)
        exact zr_iret hG dX9_weightOf_136 ⟨rfl, by omega, by omega, (fun h4 hn => by by_cases h9 : y6_3.toInt = 0; exact Or.inl ⟨(by first | omega | exact zp_w0 ex20 (by omega) (by omega)), (by rintro ⟨t, a, b, c, d⟩; exact w1 h4 h9 t (by omega) b c a d)⟩; exact Or.inr ⟨(by first | exact zp_w1 ex20 (by omega) (by omega) (by omega) | (exfalso; omega)), w2 h4 (by omega)⟩)⟩
      refine zr_iload hB 6 dX9_weightOf_17 rfl ?_
      refine zr_iload_n hB 2 dX9_weightOf_19 rfl ?_
      refine zr_icmp_ge hB dX9_weightOf_20 (tgt := 114) rfl (fun c21 => ?_) (fun c21 => ?_)
      · refine zr_sipush hB dX9_weightOf_114 rfl (fun c22 ec22 => ?_)
        refine zr_iconst hB dX9_weightOf_117 rfl (fun c23 ec23 => ?_)
        refine zr_iload hB 6 dX9_weightOf_118 rfl ?_
        refine zr_if_ne hB dX9_weightOf_120 (tgt := 129) rfl (fun c24 => ?_) (fun c24 => ?_)
        · refine zr_iload hB 7 dX9_weightOf_129 rfl ?_
          refine zr_iload hB 6 dX9_weightOf_131 rfl ?_
          refine zr_idiv hB dX9_weightOf_133 (by omega) (by omega) (fun x25 ex25 ex25a ex25b ex25c => ?_)
          have ex25d := ex25c 999 (by omega)
          refine zr_iadd hB dX9_weightOf_134 (by omega) (by omega) (fun x26 ex26 => ?_)
          refine zr_idiv hB dX9_weightOf_135 (by omega) (by omega) (fun x27 ex27 ex27a ex27b ex27c => ?_)
          exact zr_iret hG dX9_weightOf_136 ⟨rfl, by omega, by omega, (fun h4 hn => by by_cases h9 : y6_3.toInt = 0; exact Or.inl ⟨(by first | omega | exact zp_w0 ex27 (by omega) (by omega)), (by rintro ⟨t, a, b, c, d⟩; exact w1 h4 h9 t (by omega) b c a d)⟩; exact Or.inr ⟨(by first | exact zp_w1 ex27 (by omega) (by omega) (by omega) | (exfalso; omega)), w2 h4 (by omega)⟩)⟩
        refine zr_sipush hB dX9_weightOf_123 rfl (fun c28 ec28 => ?_)
        refine zr_goto hB dX9_weightOf_126 (tgt := 134) rfl ?_
        refine zr_iadd hB dX9_weightOf_134 (by omega) (by omega) (fun x29 ex29 => ?_)
        refine zr_idiv hB dX9_weightOf_135 (by omega) (by omega) (fun x30 ex30 ex30a ex30b ex30c => ?_)
        exact zr_iret hG dX9_weightOf_136 ⟨rfl, by omega, by omega, (fun h4 hn => by by_cases h9 : y6_3.toInt = 0; exact Or.inl ⟨(by first | omega | exact zp_w0 ex30 (by omega) (by omega)), (by rintro ⟨t, a, b, c, d⟩; exact w1 h4 h9 t (by omega) b c a d)⟩; exact Or.inr ⟨(by first | exact zp_w1 ex30 (by omega) (by omega) (by omega) | (exfalso; omega)), w2 h4 (by omega)⟩)⟩
      refine zr_aload_n hB 0 dX9_weightOf_23 rfl ?_
      refine zr_iload_n hB 3 dX9_weightOf_24 rfl ?_
      refine zr_iload hB 8 dX9_weightOf_25 rfl ?_
      refine zr_iload hB 4 dX9_weightOf_27 rfl ?_
      refine zr_callvi hG (rest := []) 0 dX9_weightOf_29 wm_X9_113 rfl rfl (c_M_knownOn K hG.2.2.2.2.2.1 σ0 p3 y8_5 p4 hO0 (by omega) (by omega) (by omega) (by omega)) rfl rfl (Nat.le_of_ble_eq_true rfl) ⟨Nat.le_of_ble_eq_true rfl, Nat.le_of_ble_eq_true rfl, rfl, rfl⟩ (fun r31 σ32 h33 => ?_)
      obtain ⟨rfl, r31a, r31b, g34⟩ := h33
      have hk : zp_q r31.toInt ((zp_k (zy_A σ0) p3.toInt p4.toInt) y8_5.toInt.toNat) := zp_kM (zx_or g34 (by omega)) (by omega) (by omega) (by omega)
      refine zr_istore hB dX9_weightOf_32 (by decide) (lv' := [(9, .int r31), (0, .ref (zk K 0)), (1, .int p1), (2, .int p2), (3, .int p3), (4, .int p4), (5, .int p5), (6, .int y6_3), (7, .int y7_4), (8, .int y8_5)]) rfl ?_
      refine zr_iload hB 0 dX9_weightOf_34 rfl ?_
      refine zr_if_ge hB dX9_weightOf_36 (tgt := 43) rfl (fun c35 => ?_) (fun c35 => ?_)
      · refine zr_aload_n hB 1 dX9_weightOf_43 rfl ?_
        refine zr_aload_n hB 1 dX9_weightOf_44 rfl ?_
        refine zr_getr hG 0 18 dX9_weightOf_45 rfl wf_X9_32 rfl ?_
        refine zr_iload_n hB 2 dX9_weightOf_48 rfl ?_
        refine zr_iald hG 8 dX9_weightOf_49 rfl (by omega) (by omega) (fun x36 ex36 => ?_)
        have bx36 : 0 ≤ x36.toInt ∧ x36.toInt ≤ 4 := by rw [ex36]; exact ⟨(hO0 8 _).1, (hO0 8 _).2.1⟩
        refine zr_aload_n hB 1 dX9_weightOf_50 rfl ?_
        refine zr_getr hG 0 19 dX9_weightOf_51 rfl wf_X9_35 rfl ?_
        refine zr_iload_n hB 2 dX9_weightOf_54 rfl ?_
        refine zr_iald hG 9 dX9_weightOf_55 rfl (by omega) (by omega) (fun x37 ex37 => ?_)
        have t38 := hT p1.toInt (by omega) (by omega)
        rw [← ex36, ← ex37] at t38
        refine zr_aload_n hB 1 dX9_weightOf_56 rfl ?_
        refine zr_getr hG 0 20 dX9_weightOf_57 rfl wf_X9_38 rfl ?_
        refine zr_iload_n hB 2 dX9_weightOf_60 rfl ?_
        refine zr_iald hG 10 dX9_weightOf_61 rfl (by omega) (by omega) (fun x39 ex39 => ?_)
        refine zr_iload_n hB 4 dX9_weightOf_62 rfl ?_
        refine zr_iload hB 9 dX9_weightOf_63 rfl ?_
        refine zr_iload hB 6 dX9_weightOf_65 rfl ?_
        refine zr_isub hB dX9_weightOf_67 (by omega) (by omega) (fun x40 ex40 => ?_)
        refine zr_iload hB 6 dX9_weightOf_68 rfl ?_
        refine zr_callvi hG (rest := []) 0 dX9_weightOf_70 wm_X9_207 rfl rfl (c_M_tellPlain K hG.2.2.2.2.2.1 σ0 x36 x37 x39 p3 x40 p5 hO0 (by omega) (by omega) (by omega) (by omega) (by omega) (by omega) (by omega) (by omega) (by omega)) rfl rfl (Nat.le_of_ble_eq_true rfl) ⟨Nat.le_of_ble_eq_true rfl, Nat.le_of_ble_eq_true rfl, rfl, rfl⟩ (fun r41 σ42 h43 => ?_)
        obtain ⟨rfl, r41a, r41b, g44⟩ := h43
        have hp : zc_hid (¬ (σ0.1 8 p1.toInt.toNat).toInt = 4 → zp_q r41.toInt (zp_P (zy_A σ0) (zp_f 2 σ0) p3.toInt (zw_TM σ0) p5.toInt p1.toInt.toNat (y8_5.toInt - p5.toInt))) := by intro h4; have q1 : x36.toInt = (σ0.1 8 p1.toInt.toNat).toInt := (by rw [ex36]); have q2 : x37.toInt = (σ0.1 9 p1.toInt.toNat).toInt := (by rw [ex37]); have h9 := g44 (by omega); rw [q1, q2, show x40.toInt = (y8_5.toInt - p5.toInt) by omega] at h9; exact h9
        refine zr_istore hB dX9_weightOf_73 (by decide) (lv' := [(10, .int r41), (9, .int r31), (0, .ref (zk K 0)), (1, .int p1), (2, .int p2), (3, .int p3), (4, .int p4), (5, .int p5), (6, .int y6_3), (7, .int y7_4), (8, .int y8_5)]) rfl ?_
        refine zr_iload hB 0 dX9_weightOf_75 rfl ?_
        refine zr_if_lt hB dX9_weightOf_77 (tgt := 108) rfl (fun c45 => ?_) (fun c45 => ?_)
        · refine zr_iinc hB 10 dX9_weightOf_108 rfl (by decide) rfl (by omega) (by omega) (fun x46 ex46 lv' hlv => ?_)
          obtain rfl : [(8, .int x46), (10, .int r41), (9, .int r31), (0, .ref (zk K 0)), (1, .int p1), (2, .int p2), (3, .int p3), (4, .int p4), (5, .int p5), (6, .int y6_3), (7, .int y7_4)] = lv' := hlv
          refine zr_goto hB dX9_weightOf_111 (tgt := 10) rfl ?_
          exact zc_sub [3, 4, 5, 6, 7, 8, 9, 10, 0] rfl (ih10 y6_3 y7_4 x46 (by omega) (by omega) (by omega) (by omega) (by omega) (by omega) (show y7_4.toInt ≤ 999 * y6_3.toInt by omega) (show y6_3.toInt + x46.toInt ≤ p4.toInt by omega) (show x46.toInt ≤ p4.toInt by omega) (show 0 ≤ y6_3.toInt by omega) (show zc_hid ((¬ (σ0.1 8 p1.toInt.toNat).toInt = 4 → y6_3.toInt = 0 → ∀ t : Nat, x46.toInt < (t : Int) → (t : Int) ≤ p4.toInt → (zp_k (zy_A σ0) p3.toInt p4.toInt) t → p5.toInt ≤ (t : Int) → ¬ (zp_P (zy_A σ0) (zp_f 2 σ0) p3.toInt (zw_TM σ0) p5.toInt p1.toInt.toNat ((t : Int) - p5.toInt)))) by first | (intro h4 h0; exfalso; omega) | (intro h4 h0 t a b c d; by_cases h9 : y8_5.toInt < (t : Int); exact w1 h4 (by omega) t h9 b c d; (obtain rfl : t = y8_5.toInt.toNat := (by omega); rw [show ((y8_5.toInt.toNat : Nat) : Int) = y8_5.toInt by omega]; exact fun h9 => absurd ((hp h4).is.mpr h9) (by omega)))) (show zc_hid ((¬ (σ0.1 8 p1.toInt.toNat).toInt = 4 → 0 < y6_3.toInt → (zp_W (zy_A σ0) (zp_f 2 σ0) p3.toInt (zw_TM σ0) p5.toInt p1.toInt.toNat p4.toInt))) by first | exact fun h4 h9 => w2 h4 (by omega) | (intro h4 _; exact ⟨y8_5.toInt.toNat, by omega, by omega, (hk.is.mp (by omega)), by rw [show ((y8_5.toInt.toNat : Nat) : Int) = y8_5.toInt by omega]; exact (hp h4).is.mp (by omega)⟩)) (by omega))
        refine zr_iinc hB 8 dX9_weightOf_80 rfl (by decide) rfl (by omega) (by omega) (fun x47 ex47 lv' hlv => ?_)
        obtain rfl : [(6, .int x47), (10, .int r41), (9, .int r31), (0, .ref (zk K 0)), (1, .int p1), (2, .int p2), (3, .int p3), (4, .int p4), (5, .int p5), (7, .int y7_4), (8, .int y8_5)] = lv' := hlv
        refine zr_iload hB 9 dX9_weightOf_83 rfl ?_
        refine zr_iload hB 2 dX9_weightOf_85 rfl ?_
        refine zr_iload hB 1 dX9_weightOf_87 rfl ?_
        refine zr_icmp_ge hB dX9_weightOf_89 (tgt := 100) rfl (fun c48 => ?_) (fun c48 => ?_)
        · refine zr_iload hB 2 dX9_weightOf_100 rfl ?_
          refine zr_iload hB 1 dX9_weightOf_102 rfl ?_
          refine zr_isub hB dX9_weightOf_104 (by omega) (by omega) (fun x49 ex49 => ?_)
          refine zr_iadd hB dX9_weightOf_105 (by omega) (by omega) (fun x50 ex50 => ?_)
          refine zr_istore hB dX9_weightOf_106 (by decide) (lv' := [(7, .int x50), (6, .int x47), (10, .int r41), (9, .int r31), (0, .ref (zk K 0)), (1, .int p1), (2, .int p2), (3, .int p3), (4, .int p4), (5, .int p5), (8, .int y8_5)]) rfl ?_
          refine zr_iinc hB 10 dX9_weightOf_108 rfl (by decide) rfl (by omega) (by omega) (fun x51 ex51 lv' hlv => ?_)
          obtain rfl : [(8, .int x51), (7, .int x50), (6, .int x47), (10, .int r41), (9, .int r31), (0, .ref (zk K 0)), (1, .int p1), (2, .int p2), (3, .int p3), (4, .int p4), (5, .int p5)] = lv' := hlv
          refine zr_goto hB dX9_weightOf_111 (tgt := 10) rfl ?_
          exact zc_sub [5, 6, 7, 8, 9, 10, 2, 1, 0] rfl (ih10 x47 x50 x51 (by omega) (by omega) (by omega) (by omega) (by omega) (by omega) (show x50.toInt ≤ 999 * x47.toInt by omega) (show x47.toInt + x51.toInt ≤ p4.toInt by omega) (show x51.toInt ≤ p4.toInt by omega) (show 0 ≤ x47.toInt by omega) (show zc_hid ((¬ (σ0.1 8 p1.toInt.toNat).toInt = 4 → x47.toInt = 0 → ∀ t : Nat, x51.toInt < (t : Int) → (t : Int) ≤ p4.toInt → (zp_k (zy_A σ0) p3.toInt p4.toInt) t → p5.toInt ≤ (t : Int) → ¬ (zp_P (zy_A σ0) (zp_f 2 σ0) p3.toInt (zw_TM σ0) p5.toInt p1.toInt.toNat ((t : Int) - p5.toInt)))) by first | (intro h4 h0; exfalso; omega) | (intro h4 h0 t a b c d; by_cases h9 : y8_5.toInt < (t : Int); exact w1 h4 (by omega) t h9 b c d; (obtain rfl : t = y8_5.toInt.toNat := (by omega); rw [show ((y8_5.toInt.toNat : Nat) : Int) = y8_5.toInt by omega]; exact fun h9 => absurd ((hp h4).is.mpr h9) (by omega)))) (show zc_hid ((¬ (σ0.1 8 p1.toInt.toNat).toInt = 4 → 0 < x47.toInt → (zp_W (zy_A σ0) (zp_f 2 σ0) p3.toInt (zw_TM σ0) p5.toInt p1.toInt.toNat p4.toInt))) by first | exact fun h4 h9 => w2 h4 (by omega) | (intro h4 _; exact ⟨y8_5.toInt.toNat, by omega, by omega, (hk.is.mp (by omega)), by rw [show ((y8_5.toInt.toNat : Nat) : Int) = y8_5.toInt by omega]; exact (hp h4).is.mp (by omega)⟩)) (by omega))
        refine zr_iload hB 1 dX9_weightOf_92 rfl ?_
        refine zr_iload hB 2 dX9_weightOf_94 rfl ?_
        refine zr_isub hB dX9_weightOf_96 (by omega) (by omega) (fun x52 ex52 => ?_)
        refine zr_goto hB dX9_weightOf_97 (tgt := 105) rfl ?_
        refine zr_iadd hB dX9_weightOf_105 (by omega) (by omega) (fun x53 ex53 => ?_)
        refine zr_istore hB dX9_weightOf_106 (by decide) (lv' := [(7, .int x53), (6, .int x47), (10, .int r41), (9, .int r31), (0, .ref (zk K 0)), (1, .int p1), (2, .int p2), (3, .int p3), (4, .int p4), (5, .int p5), (8, .int y8_5)]) rfl ?_
        refine zr_iinc hB 10 dX9_weightOf_108 rfl (by decide) rfl (by omega) (by omega) (fun x54 ex54 lv' hlv => ?_)
        obtain rfl : [(8, .int x54), (7, .int x53), (6, .int x47), (10, .int r41), (9, .int r31), (0, .ref (zk K 0)), (1, .int p1), (2, .int p2), (3, .int p3), (4, .int p4), (5, .int p5)] = lv' := hlv
        refine zr_goto hB dX9_weightOf_111 (tgt := 10) rfl ?_
        exact zc_sub [5, 6, 7, 8, 9, 10, 2, 1, 0] rfl (ih10 x47 x53 x54 (by omega) (by omega) (by omega) (by omega) (by omega) (by omega) (show x53.toInt ≤ 999 * x47.toInt by omega) (show x47.toInt + x54.toInt ≤ p4.toInt by omega) (show x54.toInt ≤ p4.toInt by omega) (show 0 ≤ x47.toInt by omega) (show zc_hid ((¬ (σ0.1 8 p1.toInt.toNat).toInt = 4 → x47.toInt = 0 → ∀ t : Nat, x54.toInt < (t : Int) → (t : Int) ≤ p4.toInt → (zp_k (zy_A σ0) p3.toInt p4.toInt) t → p5.toInt ≤ (t : Int) → ¬ (zp_P (zy_A σ0) (zp_f 2 σ0) p3.toInt (zw_TM σ0) p5.toInt p1.toInt.toNat ((t : Int) - p5.toInt)))) by first | (intro h4 h0; exfalso; omega) | (intro h4 h0 t a b c d; by_cases h9 : y8_5.toInt < (t : Int); exact w1 h4 (by omega) t h9 b c d; (obtain rfl : t = y8_5.toInt.toNat := (by omega); rw [show ((y8_5.toInt.toNat : Nat) : Int) = y8_5.toInt by omega]; exact fun h9 => absurd ((hp h4).is.mpr h9) (by omega)))) (show zc_hid ((¬ (σ0.1 8 p1.toInt.toNat).toInt = 4 → 0 < x47.toInt → (zp_W (zy_A σ0) (zp_f 2 σ0) p3.toInt (zw_TM σ0) p5.toInt p1.toInt.toNat p4.toInt))) by first | exact fun h4 h9 => w2 h4 (by omega) | (intro h4 _; exact ⟨y8_5.toInt.toNat, by omega, by omega, (hk.is.mp (by omega)), by rw [show ((y8_5.toInt.toNat : Nat) : Int) = y8_5.toInt by omega]; exact (hp h4).is.mp (by omega)⟩)) (by omega))
      refine zr_iconst hB dX9_weightOf_39 rfl (fun c55 ec55 => ?_)
      refine zr_goto hB dX9_weightOf_40 (tgt := 73) rfl ?_
      refine zr_istore hB dX9_weightOf_73 (by decide) (lv' := [(10, .int c55), (9, .int r31), (0, .ref (zk K 0)), (1, .int p1), (2, .int p2), (3, .int p3), (4, .int p4), (5, .int p5), (6, .int y6_3), (7, .int y7_4), (8, .int y8_5)]) rfl ?_
      refine zr_iload hB 0 dX9_weightOf_75 rfl ?_
      refine zr_if_lt hB dX9_weightOf_77 (tgt := 108) rfl (fun c56 => ?_) (fun c56 => ?_)
      · refine zr_iinc hB 10 dX9_weightOf_108 rfl (by decide) rfl (by omega) (by omega) (fun x57 ex57 lv' hlv => ?_)
        obtain rfl : [(8, .int x57), (10, .int c55), (9, .int r31), (0, .ref (zk K 0)), (1, .int p1), (2, .int p2), (3, .int p3), (4, .int p4), (5, .int p5), (6, .int y6_3), (7, .int y7_4)] = lv' := hlv
        refine zr_goto hB dX9_weightOf_111 (tgt := 10) rfl ?_
        exact zc_sub [3, 4, 5, 6, 7, 8, 9, 10, 0] rfl (ih10 y6_3 y7_4 x57 (by omega) (by omega) (by omega) (by omega) (by omega) (by omega) (show y7_4.toInt ≤ 999 * y6_3.toInt by omega) (show y6_3.toInt + x57.toInt ≤ p4.toInt by omega) (show x57.toInt ≤ p4.toInt by omega) (show 0 ≤ y6_3.toInt by omega) (show zc_hid ((¬ (σ0.1 8 p1.toInt.toNat).toInt = 4 → y6_3.toInt = 0 → ∀ t : Nat, x57.toInt < (t : Int) → (t : Int) ≤ p4.toInt → (zp_k (zy_A σ0) p3.toInt p4.toInt) t → p5.toInt ≤ (t : Int) → ¬ (zp_P (zy_A σ0) (zp_f 2 σ0) p3.toInt (zw_TM σ0) p5.toInt p1.toInt.toNat ((t : Int) - p5.toInt)))) by first | (intro h4 h0; exfalso; omega) | (intro h4 h0 t a b c d; by_cases h9 : y8_5.toInt < (t : Int); exact w1 h4 (by omega) t h9 b c d; (obtain rfl : t = y8_5.toInt.toNat := (by omega); exact absurd (hk.is.mpr c) (by omega)))) (show zc_hid ((¬ (σ0.1 8 p1.toInt.toNat).toInt = 4 → 0 < y6_3.toInt → (zp_W (zy_A σ0) (zp_f 2 σ0) p3.toInt (zw_TM σ0) p5.toInt p1.toInt.toNat p4.toInt))) by exact w2) (by omega))
      exfalso; omega
  exact zc_sub [3, 4, 5, 6, 7, 8, 2, 1, 0] rfl (L10_10 65 c1 c2 p4 (by omega) (by omega) (by omega) (by omega) (by omega) (by omega) (show c2.toInt ≤ 999 * c1.toInt by omega) (show c1.toInt + p4.toInt ≤ p4.toInt by omega) (show p4.toInt ≤ p4.toInt by omega) (show 0 ≤ c1.toInt by omega) (show zc_hid ((¬ (σ0.1 8 p1.toInt.toNat).toInt = 4 → c1.toInt = 0 → ∀ t : Nat, p4.toInt < (t : Int) → (t : Int) ≤ p4.toInt → (zp_k (zy_A σ0) p3.toInt p4.toInt) t → p5.toInt ≤ (t : Int) → ¬ (zp_P (zy_A σ0) (zp_f 2 σ0) p3.toInt (zw_TM σ0) p5.toInt p1.toInt.toNat ((t : Int) - p5.toInt)))) by intro h4 h0 t a b; exfalso; omega) (show zc_hid ((¬ (σ0.1 8 p1.toInt.toNat).toInt = 4 → 0 < c1.toInt → (zp_W (zy_A σ0) (zp_f 2 σ0) p3.toInt (zw_TM σ0) p5.toInt p1.toInt.toNat p4.toInt))) by intro h4 h9; exfalso; omega) (by omega))

set_option maxHeartbeats 1000000 in
set_option maxRecDepth 100000 in
theorem c_M_tellJoined (K : zc_K) (hi : zc_inj shM K.2.2.2.1) (σ0 : zc_S) (p1 : Int32) (p2 : Int32) (p3 : Int32) (p4 : Int32) (hO0 : zc_O okM σ0) (h1a : 0 ≤ p1.toInt) (h1b : p1.toInt ≤ 5) (h2a : 0 ≤ p2.toInt) (h2b : p2.toInt ≤ 3) (h3a : 0 ≤ p3.toInt) (h3b : p3.toInt ≤ 63) (h4a : 1 ≤ p4.toInt) (h4b : p4.toInt ≤ 14) (hx0 : p1.toInt < (σ0.1 0 17).toInt) (hT : zm_T σ0) : zc_M shM K yX9_tellJoined cX9_tellJoined 10 (some .int) (zrm 6 155) σ0 [.ref (zk K 0), .int p1, .int p2, .int p3, .int p4] (zc_I (fun r9 σ9 => σ0 = σ9 ∧ (-1) ≤ r9.toInt ∧ r9.toInt ≤ 999 ∧ zc_hid ((1 ≤ (σ0.1 9 p1.toInt.toNat).toInt → zp_q r9.toInt (zp_J (zy_A σ0) (zp_f 2 σ0) p2.toInt (zw_TM σ0) p4.toInt p1.toInt.toNat p3.toInt))))) := by
  refine zc_start RX9 hi pfX9_tellJoined rfl (Nat.le_of_ble_eq_true rfl) ?_
  intro G hG
  have hB := hG.1
  show zc_V 10 K G (zc_D shM K G σ0) [(0, .ref (zk K 0)), (1, .int p1), (2, .int p2), (3, .int p3), (4, .int p4)] 0 []
  have bw0_17 : 0 ≤ (σ0.1 0 17).toInt ∧ (σ0.1 0 17).toInt ≤ 6 := ⟨(hO0 0 17).1, (hO0 0 17).2.1⟩
  refine zr_iconst hB dX9_tellJoined_0 rfl (fun c1 ec1 => ?_)
  refine zr_istore hB dX9_tellJoined_1 (by decide) (lv' := [(5, .int c1), (0, .ref (zk K 0)), (1, .int p1), (2, .int p2), (3, .int p3), (4, .int p4)]) rfl ?_
  refine zr_iconst hB dX9_tellJoined_3 rfl (fun c2 ec2 => ?_)
  refine zr_istore hB dX9_tellJoined_4 (by decide) (lv' := [(6, .int c2), (5, .int c1), (0, .ref (zk K 0)), (1, .int p1), (2, .int p2), (3, .int p3), (4, .int p4)]) rfl ?_
  refine zr_iconst hB dX9_tellJoined_6 rfl (fun c3 ec3 => ?_)
  refine zr_istore hB dX9_tellJoined_7 (by decide) (lv' := [(7, .int c3), (6, .int c2), (5, .int c1), (0, .ref (zk K 0)), (1, .int p1), (2, .int p2), (3, .int p3), (4, .int p4)]) rfl ?_
  have L9_11 : ∀ (n9 : Nat) (y5_4 : Int32) (y6_5 : Int32) (y7_6 : Int32), 0 ≤ y5_4.toInt → y5_4.toInt ≤ 5000 → 0 ≤ y6_5.toInt → y6_5.toInt ≤ 4995000 → 0 ≤ y7_6.toInt → y7_6.toInt ≤ 5 → y6_5.toInt ≤ 999 * y5_4.toInt → y5_4.toInt ≤ 1000 * y7_6.toInt → y7_6.toInt ≤ p1.toInt → 0 ≤ y5_4.toInt → (zc_hid ((1 ≤ (σ0.1 9 p1.toInt.toNat).toInt → y5_4.toInt = 0 → ∀ i : Nat, (i : Int) < y7_6.toInt → ¬ (σ0.1 8 i).toInt = 4 → (zp_P (zy_A σ0) (zp_f 2 σ0) p2.toInt (zw_TM σ0) p4.toInt i p3.toInt) → ¬ (zp_W (zy_A σ0) (zp_f 2 σ0) p2.toInt (zw_TM σ0) p4.toInt i p3.toInt)))) → (zc_hid ((1 ≤ (σ0.1 9 p1.toInt.toNat).toInt → 0 < y5_4.toInt → (zp_J (zy_A σ0) (zp_f 2 σ0) p2.toInt (zw_TM σ0) p4.toInt p1.toInt.toNat p3.toInt)))) → 5 - y7_6.toInt < (n9 : Int) → zc_V 10 K G (zc_D shM K G σ0) [(0, .ref (zk K 0)), (1, .int p1), (2, .int p2), (3, .int p3), (4, .int p4), (5, .int y5_4), (6, .int y6_5), (7, .int y7_6)] 9 [] := by
    intro n9
    induction n9 with
    | zero => intro y5_4 y6_5 y7_6 y5_4a y5_4b y6_5a y6_5b y7_6a y7_6b e7 e8 e9 e10 j1 j2 hn9; exfalso; omega
    | succ n9 ih9 =>
      intro y5_4 y6_5 y7_6 y5_4a y5_4b y6_5a y6_5b y7_6a y7_6b e7 e8 e9 e10 j1 j2 hn9
      refine zr_iload hB 7 dX9_tellJoined_9 rfl ?_
      refine zr_iload_n hB 1 dX9_tellJoined_11 rfl ?_
      refine zr_icmp_ge hB dX9_tellJoined_12 (tgt := 111) rfl (fun c12 => ?_) (fun c12 => ?_)
      · refine zr_iload hB 5 dX9_tellJoined_111 rfl ?_
        refine zr_if_ne hB dX9_tellJoined_113 (tgt := 120) rfl (fun c13 => ?_) (fun c13 => ?_)
        · refine zr_iload hB 6 dX9_tellJoined_120 rfl ?_
          refine zr_iload hB 5 dX9_tellJoined_122 rfl ?_
          refine zr_idiv hB dX9_tellJoined_124 (by omega) (by omega) (fun x14 ex14 ex14a ex14b ex14c => ?_)
          have ex14d := ex14c 999 (by omega)
          exact zr_iret hG dX9_tellJoined_125 ⟨rfl, by omega, by omega, (fun hp => zp_q.y (by omega) (j2 hp (by omega)))⟩
        refine zr_iconst hB dX9_tellJoined_116 rfl (fun c15 ec15 => ?_)
        refine zr_goto hB dX9_tellJoined_117 (tgt := 125) rfl ?_
        exact zr_iret hG dX9_tellJoined_125 ⟨rfl, by omega, by omega, (fun hp => zp_q.n (by omega) (by rintro ⟨i, a, b, c, d⟩; exact j1 hp (by omega) i (by omega) b c d))⟩
      refine zr_aload_n hB 0 dX9_tellJoined_15 rfl ?_
      refine zr_getr hG 0 18 dX9_tellJoined_16 rfl wf_X9_32 rfl ?_
      refine zr_iload hB 7 dX9_tellJoined_19 rfl ?_
      refine zr_iald hG 8 dX9_tellJoined_21 rfl (by omega) (by omega) (fun x16 ex16 => ?_)
      have bx16 : 0 ≤ x16.toInt ∧ x16.toInt ≤ 4 := by rw [ex16]; exact ⟨(hO0 8 _).1, (hO0 8 _).2.1⟩
      refine zr_iconst hB dX9_tellJoined_22 rfl (fun c17 ec17 => ?_)
      refine zr_icmp_ne hB dX9_tellJoined_23 (tgt := 30) rfl (fun c18 => ?_) (fun c18 => ?_)
      · refine zr_aload_n hB 0 dX9_tellJoined_30 rfl ?_
        refine zr_aload_n hB 0 dX9_tellJoined_31 rfl ?_
        refine zr_getr hG 0 18 dX9_tellJoined_32 rfl wf_X9_32 rfl ?_
        refine zr_iload hB 7 dX9_tellJoined_35 rfl ?_
        refine zr_iald hG 8 dX9_tellJoined_37 rfl (by omega) (by omega) (fun x19 ex19 => ?_)
        obtain rfl : x16 = x19 := ex16.trans ex19.symm
        refine zr_aload_n hB 0 dX9_tellJoined_38 rfl ?_
        refine zr_getr hG 0 19 dX9_tellJoined_39 rfl wf_X9_35 rfl ?_
        refine zr_iload hB 7 dX9_tellJoined_42 rfl ?_
        refine zr_iald hG 9 dX9_tellJoined_44 rfl (by omega) (by omega) (fun x20 ex20 => ?_)
        have t21 := hT y7_6.toInt (by omega) (by omega)
        rw [← ex16, ← ex20] at t21
        refine zr_aload_n hB 0 dX9_tellJoined_45 rfl ?_
        refine zr_getr hG 0 20 dX9_tellJoined_46 rfl wf_X9_38 rfl ?_
        refine zr_iload hB 7 dX9_tellJoined_49 rfl ?_
        refine zr_iald hG 10 dX9_tellJoined_51 rfl (by omega) (by omega) (fun x22 ex22 => ?_)
        refine zr_iload_n hB 2 dX9_tellJoined_52 rfl ?_
        refine zr_iload_n hB 3 dX9_tellJoined_53 rfl ?_
        refine zr_iload hB 4 dX9_tellJoined_54 rfl ?_
        refine zr_callvi hG (rest := []) 0 dX9_tellJoined_56 wm_X9_207 rfl rfl (c_M_tellPlain K hG.2.2.2.2.2.1 σ0 x16 x20 x22 p2 p3 p4 hO0 (by omega) (by omega) (by omega) (by omega) (by omega) (by omega) (by omega) (by omega) (by omega)) rfl rfl (Nat.le_of_ble_eq_true rfl) ⟨Nat.le_of_ble_eq_true rfl, Nat.le_of_ble_eq_true rfl, rfl, rfl⟩ (fun r23 σ24 h25 => ?_)
        obtain ⟨rfl, r23a, r23b, g26⟩ := h25
        have ht : zc_hid (¬ (σ0.1 8 y7_6.toInt.toNat).toInt = 4 → zp_q r23.toInt (zp_P (zy_A σ0) (zp_f 2 σ0) p2.toInt (zw_TM σ0) p4.toInt y7_6.toInt.toNat p3.toInt)) := by intro h4; have q1 : x16.toInt = (σ0.1 8 y7_6.toInt.toNat).toInt := (by rw [ex16]); have q2 : x20.toInt = (σ0.1 9 y7_6.toInt.toNat).toInt := (by rw [ex20]); have h9 := g26 (by omega); rw [q1, q2] at h9; exact h9
        refine zr_istore hB dX9_tellJoined_59 (by decide) (lv' := [(8, .int r23), (0, .ref (zk K 0)), (1, .int p1), (2, .int p2), (3, .int p3), (4, .int p4), (5, .int y5_4), (6, .int y6_5), (7, .int y7_6)]) rfl ?_
        refine zr_iload hB 0 dX9_tellJoined_61 rfl ?_
        refine zr_if_ge hB dX9_tellJoined_63 (tgt := 70) rfl (fun c27 => ?_) (fun c27 => ?_)
        · refine zr_aload_n hB 1 dX9_tellJoined_70 rfl ?_
          refine zr_iload hB 8 dX9_tellJoined_71 rfl ?_
          refine zr_aload_n hB 1 dX9_tellJoined_73 rfl ?_
          refine zr_getr hG 0 19 dX9_tellJoined_74 rfl wf_X9_35 rfl ?_
          refine zr_iload_n hB 2 dX9_tellJoined_77 rfl ?_
          refine zr_iald hG 9 dX9_tellJoined_78 rfl (by omega) (by omega) (fun x28 ex28 => ?_)
          refine zr_iload_n hB 3 dX9_tellJoined_79 rfl ?_
          refine zr_iload_n hB 4 dX9_tellJoined_80 rfl ?_
          refine zr_iload hB 5 dX9_tellJoined_81 rfl ?_
          refine zr_callvi hG (rest := []) 0 dX9_tellJoined_83 wm_X9_211 rfl rfl (c_M_weightOf K hG.2.2.2.2.2.1 σ0 y7_6 x28 p2 p3 p4 hO0 (by omega) (by omega) (by omega) (by omega) (by omega) (by omega) (by omega) (by omega) (by omega) hT) rfl rfl (Nat.le_of_ble_eq_true rfl) ⟨Nat.le_of_ble_eq_true rfl, Nat.le_of_ble_eq_true rfl, rfl, rfl⟩ (fun r29 σ30 h31 => ?_)
          obtain ⟨rfl, r29a, r29b, g32⟩ := h31
          have hw : zc_hid (1 ≤ (σ0.1 9 p1.toInt.toNat).toInt → ¬ (σ0.1 8 y7_6.toInt.toNat).toInt = 4 → ((r29.toInt = 0 ∧ ¬ (zp_W (zy_A σ0) (zp_f 2 σ0) p2.toInt (zw_TM σ0) p4.toInt y7_6.toInt.toNat p3.toInt)) ∨ (1 ≤ r29.toInt ∧ (zp_W (zy_A σ0) (zp_f 2 σ0) p2.toInt (zw_TM σ0) p4.toInt y7_6.toInt.toNat p3.toInt)))) := by intro hp h4; have h8 : x28.toInt = (σ0.1 9 p1.toInt.toNat).toInt := (by rw [ex28]); exact g32 h4 (by omega)
          refine zr_istore hB dX9_tellJoined_86 (by decide) (lv' := [(9, .int r29), (8, .int r23), (0, .ref (zk K 0)), (1, .int p1), (2, .int p2), (3, .int p3), (4, .int p4), (5, .int y5_4), (6, .int y6_5), (7, .int y7_6)]) rfl ?_
          refine zr_iload hB 7 dX9_tellJoined_88 rfl ?_
          refine zr_iload hB 0 dX9_tellJoined_90 rfl ?_
          refine zr_iadd hB dX9_tellJoined_92 (by omega) (by omega) (fun x33 ex33 => ?_)
          refine zr_istore hB dX9_tellJoined_93 (by decide) (lv' := [(5, .int x33), (9, .int r29), (8, .int r23), (0, .ref (zk K 0)), (1, .int p1), (2, .int p2), (3, .int p3), (4, .int p4), (6, .int y6_5), (7, .int y7_6)]) rfl ?_
          refine zr_iload hB 8 dX9_tellJoined_95 rfl ?_
          refine zr_iload hB 1 dX9_tellJoined_97 rfl ?_
          refine zr_iload hB 2 dX9_tellJoined_99 rfl ?_
          refine zr_imulb hB dX9_tellJoined_101 (A := 1000) (B := 999) (by omega) (by omega) (by omega) (by omega) (by decide) (fun x34 ex34 ex34a ex34b ex34c ex34d => ?_)
          refine zr_iadd hB dX9_tellJoined_102 (by omega) (by omega) (fun x35 ex35 => ?_)
          refine zr_istore hB dX9_tellJoined_103 (by decide) (lv' := [(6, .int x35), (5, .int x33), (9, .int r29), (8, .int r23), (0, .ref (zk K 0)), (1, .int p1), (2, .int p2), (3, .int p3), (4, .int p4), (7, .int y7_6)]) rfl ?_
          refine zr_iinc hB 9 dX9_tellJoined_105 rfl (by decide) rfl (by omega) (by omega) (fun x36 ex36 lv' hlv => ?_)
          obtain rfl : [(7, .int x36), (6, .int x35), (5, .int x33), (9, .int r29), (8, .int r23), (0, .ref (zk K 0)), (1, .int p1), (2, .int p2), (3, .int p3), (4, .int p4)] = lv' := hlv
          refine zr_goto hB dX9_tellJoined_108 (tgt := 9) rfl ?_
          exact zc_sub [5, 6, 7, 8, 9, 2, 1, 0] rfl (ih9 x33 x35 x36 (by omega) (by omega) (by omega) (by omega) (by omega) (by omega) (show x35.toInt ≤ 999 * x33.toInt by omega) (show x33.toInt ≤ 1000 * x36.toInt by omega) (show x36.toInt ≤ p1.toInt by omega) (show 0 ≤ x33.toInt by omega) (show zc_hid ((1 ≤ (σ0.1 9 p1.toInt.toNat).toInt → x33.toInt = 0 → ∀ i : Nat, (i : Int) < x36.toInt → ¬ (σ0.1 8 i).toInt = 4 → (zp_P (zy_A σ0) (zp_f 2 σ0) p2.toInt (zw_TM σ0) p4.toInt i p3.toInt) → ¬ (zp_W (zy_A σ0) (zp_f 2 σ0) p2.toInt (zw_TM σ0) p4.toInt i p3.toInt))) by intro hp h0 i hi c d; by_cases h9 : (i : Int) < y7_6.toInt; exact j1 hp (by omega) i h9 c d; (obtain rfl : i = y7_6.toInt.toNat := (by omega); rcases hw hp c with ⟨a, b⟩ | ⟨a, b⟩; exact b; (exfalso; omega))) (show zc_hid ((1 ≤ (σ0.1 9 p1.toInt.toNat).toInt → 0 < x33.toInt → (zp_J (zy_A σ0) (zp_f 2 σ0) p2.toInt (zw_TM σ0) p4.toInt p1.toInt.toNat p3.toInt))) by intro hp h9; by_cases h8 : y5_4.toInt = 0; (have h4 : ¬ (σ0.1 8 y7_6.toInt.toNat).toInt = 4 := (by have hq := congrArg Int32.toInt ex16; omega); rcases hw hp h4 with ⟨a, b⟩ | ⟨a, b⟩; (exfalso; omega); exact ⟨y7_6.toInt.toNat, by omega, h4, (ht h4).is.mp (by omega), b⟩); exact j2 hp (by omega)) (by omega))
        refine zr_iconst hB dX9_tellJoined_66 rfl (fun c37 ec37 => ?_)
        refine zr_goto hB dX9_tellJoined_67 (tgt := 86) rfl ?_
        refine zr_istore hB dX9_tellJoined_86 (by decide) (lv' := [(9, .int c37), (8, .int r23), (0, .ref (zk K 0)), (1, .int p1), (2, .int p2), (3, .int p3), (4, .int p4), (5, .int y5_4), (6, .int y6_5), (7, .int y7_6)]) rfl ?_
        refine zr_iload hB 7 dX9_tellJoined_88 rfl ?_
        refine zr_iload hB 0 dX9_tellJoined_90 rfl ?_
        refine zr_iadd hB dX9_tellJoined_92 (by omega) (by omega) (fun x38 ex38 => ?_)
        refine zr_istore hB dX9_tellJoined_93 (by decide) (lv' := [(5, .int x38), (9, .int c37), (8, .int r23), (0, .ref (zk K 0)), (1, .int p1), (2, .int p2), (3, .int p3), (4, .int p4), (6, .int y6_5), (7, .int y7_6)]) rfl ?_
        refine zr_iload hB 8 dX9_tellJoined_95 rfl ?_
        refine zr_iload hB 1 dX9_tellJoined_97 rfl ?_
        refine zr_iload hB 2 dX9_tellJoined_99 rfl ?_
        refine zr_imuld hB dX9_tellJoined_101 ec37 (by omega) (by omega) (fun x39 ex39 => ?_)
        refine zr_iadd hB dX9_tellJoined_102 (by omega) (by omega) (fun x40 ex40 => ?_)
        refine zr_istore hB dX9_tellJoined_103 (by decide) (lv' := [(6, .int x40), (5, .int x38), (9, .int c37), (8, .int r23), (0, .ref (zk K 0)), (1, .int p1), (2, .int p2), (3, .int p3), (4, .int p4), (7, .int y7_6)]) rfl ?_
        refine zr_iinc hB 9 dX9_tellJoined_105 rfl (by decide) rfl (by omega) (by omega) (fun x41 ex41 lv' hlv => ?_)
        obtain rfl : [(7, .int x41), (6, .int x40), (5, .int x38), (9, .int c37), (8, .int r23), (0, .ref (zk K 0)), (1, .int p1), (2, .int p2), (3, .int p3), (4, .int p4)] = lv' := hlv
        refine zr_goto hB dX9_tellJoined_108 (tgt := 9) rfl ?_
        exact zc_sub [5, 6, 7, 8, 9, 2, 1, 0] rfl (ih9 x38 x40 x41 (by omega) (by omega) (by omega) (by omega) (by omega) (by omega) (show x40.toInt ≤ 999 * x38.toInt by omega) (show x38.toInt ≤ 1000 * x41.toInt by omega) (show x41.toInt ≤ p1.toInt by omega) (show 0 ≤ x38.toInt by omega) (show zc_hid ((1 ≤ (σ0.1 9 p1.toInt.toNat).toInt → x38.toInt = 0 → ∀ i : Nat, (i : Int) < x41.toInt → ¬ (σ0.1 8 i).toInt = 4 → (zp_P (zy_A σ0) (zp_f 2 σ0) p2.toInt (zw_TM σ0) p4.toInt i p3.toInt) → ¬ (zp_W (zy_A σ0) (zp_f 2 σ0) p2.toInt (zw_TM σ0) p4.toInt i p3.toInt))) by intro hp h0 i hi c d; by_cases h9 : (i : Int) < y7_6.toInt; exact j1 hp (by omega) i h9 c d; (obtain rfl : i = y7_6.toInt.toNat := (by omega); exact absurd ((ht c).is.mpr d) (by omega))) (show zc_hid ((1 ≤ (σ0.1 9 p1.toInt.toNat).toInt → 0 < x38.toInt → (zp_J (zy_A σ0) (zp_f 2 σ0) p2.toInt (zw_TM σ0) p4.toInt p1.toInt.toNat p3.toInt))) by intro hp h9; exact j2 hp (by omega)) (by omega))
      refine zr_iconst hB dX9_tellJoined_26 rfl (fun c42 ec42 => ?_)
      refine zr_goto hB dX9_tellJoined_27 (tgt := 59) rfl ?_
      refine zr_istore hB dX9_tellJoined_59 (by decide) (lv' := [(8, .int c42), (0, .ref (zk K 0)), (1, .int p1), (2, .int p2), (3, .int p3), (4, .int p4), (5, .int y5_4), (6, .int y6_5), (7, .int y7_6)]) rfl ?_
      refine zr_iload hB 0 dX9_tellJoined_61 rfl ?_
      refine zr_if_ge hB dX9_tellJoined_63 (tgt := 70) rfl (fun c43 => ?_) (fun c43 => ?_)
      · exfalso; omega
      refine zr_iconst hB dX9_tellJoined_66 rfl (fun c44 ec44 => ?_)
      refine zr_goto hB dX9_tellJoined_67 (tgt := 86) rfl ?_
      refine zr_istore hB dX9_tellJoined_86 (by decide) (lv' := [(9, .int c44), (8, .int c42), (0, .ref (zk K 0)), (1, .int p1), (2, .int p2), (3, .int p3), (4, .int p4), (5, .int y5_4), (6, .int y6_5), (7, .int y7_6)]) rfl ?_
      refine zr_iload hB 7 dX9_tellJoined_88 rfl ?_
      refine zr_iload hB 0 dX9_tellJoined_90 rfl ?_
      refine zr_iadd hB dX9_tellJoined_92 (by omega) (by omega) (fun x45 ex45 => ?_)
      refine zr_istore hB dX9_tellJoined_93 (by decide) (lv' := [(5, .int x45), (9, .int c44), (8, .int c42), (0, .ref (zk K 0)), (1, .int p1), (2, .int p2), (3, .int p3), (4, .int p4), (6, .int y6_5), (7, .int y7_6)]) rfl ?_
      refine zr_iload hB 8 dX9_tellJoined_95 rfl ?_
      refine zr_iload hB 1 dX9_tellJoined_97 rfl ?_
      refine zr_iload hB 2 dX9_tellJoined_99 rfl ?_
      refine zr_imulc hB dX9_tellJoined_101 ec42 (by omega) (by omega) (fun x46 ex46 => ?_)
      refine zr_iadd hB dX9_tellJoined_102 (by omega) (by omega) (fun x47 ex47 => ?_)
      refine zr_istore hB dX9_tellJoined_103 (by decide) (lv' := [(6, .int x47), (5, .int x45), (9, .int c44), (8, .int c42), (0, .ref (zk K 0)), (1, .int p1), (2, .int p2), (3, .int p3), (4, .int p4), (7, .int y7_6)]) rfl ?_
      refine zr_iinc hB 9 dX9_tellJoined_105 rfl (by decide) rfl (by omega) (by omega) (fun x48 ex48 lv' hlv => ?_)
      obtain rfl : [(7, .int x48), (6, .int x47), (5, .int x45), (9, .int c44), (8, .int c42), (0, .ref (zk K 0)), (1, .int p1), (2, .int p2), (3, .int p3), (4, .int p4)] = lv' := hlv
      refine zr_goto hB dX9_tellJoined_108 (tgt := 9) rfl ?_
      exact zc_sub [5, 6, 7, 8, 9, 2, 1, 0] rfl (ih9 x45 x47 x48 (by omega) (by omega) (by omega) (by omega) (by omega) (by omega) (show x47.toInt ≤ 999 * x45.toInt by omega) (show x45.toInt ≤ 1000 * x48.toInt by omega) (show x48.toInt ≤ p1.toInt by omega) (show 0 ≤ x45.toInt by omega) (show zc_hid ((1 ≤ (σ0.1 9 p1.toInt.toNat).toInt → x45.toInt = 0 → ∀ i : Nat, (i : Int) < x48.toInt → ¬ (σ0.1 8 i).toInt = 4 → (zp_P (zy_A σ0) (zp_f 2 σ0) p2.toInt (zw_TM σ0) p4.toInt i p3.toInt) → ¬ (zp_W (zy_A σ0) (zp_f 2 σ0) p2.toInt (zw_TM σ0) p4.toInt i p3.toInt))) by intro hp h0 i hi c d; by_cases h9 : (i : Int) < y7_6.toInt; exact j1 hp (by omega) i h9 c d; (obtain rfl : i = y7_6.toInt.toNat := (by omega); exfalso; have hq := congrArg Int32.toInt ex16; omega)) (show zc_hid ((1 ≤ (σ0.1 9 p1.toInt.toNat).toInt → 0 < x45.toInt → (zp_J (zy_A σ0) (zp_f 2 σ0) p2.toInt (zw_TM σ0) p4.toInt p1.toInt.toNat p3.toInt))) by intro hp h9; exact j2 hp (by omega)) (by omega))
  exact zc_sub [3, 4, 5, 6, 7, 2, 1, 0] rfl (L9_11 7 c1 c2 c3 (by omega) (by omega) (by omega) (by omega) (by omega) (by omega) (show c2.toInt ≤ 999 * c1.toInt by omega) (show c1.toInt ≤ 1000 * c3.toInt by omega) (show c3.toInt ≤ p1.toInt by omega) (show 0 ≤ c1.toInt by omega) (show zc_hid ((1 ≤ (σ0.1 9 p1.toInt.toNat).toInt → c1.toInt = 0 → ∀ i : Nat, (i : Int) < c3.toInt → ¬ (σ0.1 8 i).toInt = 4 → (zp_P (zy_A σ0) (zp_f 2 σ0) p2.toInt (zw_TM σ0) p4.toInt i p3.toInt) → ¬ (zp_W (zy_A σ0) (zp_f 2 σ0) p2.toInt (zw_TM σ0) p4.toInt i p3.toInt))) by intro hp h0 i hi; exfalso; omega) (show zc_hid ((1 ≤ (σ0.1 9 p1.toInt.toNat).toInt → 0 < c1.toInt → (zp_J (zy_A σ0) (zp_f 2 σ0) p2.toInt (zw_TM σ0) p4.toInt p1.toInt.toNat p3.toInt))) by intro hp h9; exfalso; omega) (by omega))

set_option maxHeartbeats 1000000 in
set_option maxRecDepth 100000 in
theorem c_M_tellBy (K : zc_K) (hi : zc_inj shM K.2.2.2.1) (σ0 : zc_S) (p1 : Int32) (p2 : Int32) (p3 : Int32) (p4 : Int32) (hO0 : zc_O okM σ0) (h1a : 0 ≤ p1.toInt) (h1b : p1.toInt ≤ 5) (h2a : 0 ≤ p2.toInt) (h2b : p2.toInt ≤ 3) (h3a : 0 ≤ p3.toInt) (h3b : p3.toInt ≤ 63) (h4a : 1 ≤ p4.toInt) (h4b : p4.toInt ≤ 14) (hx0 : p1.toInt < (σ0.1 0 17).toInt) (hT : zm_T σ0) : zc_M shM K yX9_tellBy cX9_tellBy 5 (some .int) (zrm 7 184) σ0 [.ref (zk K 0), .int p1, .int p2, .int p3, .int p4] (zc_I (fun r9 σ9 => σ0 = σ9 ∧ (-1) ≤ r9.toInt ∧ r9.toInt ≤ 999 ∧ zc_hid ((((σ0.1 8 p1.toInt.toNat).toInt = 2 ∨ 1 ≤ (σ0.1 9 p1.toInt.toNat).toInt) → zp_q r9.toInt (zp_B (zy_A σ0) (zp_f 2 σ0) p2.toInt (zw_TM σ0) p4.toInt p1.toInt.toNat p3.toInt))))) := by
  refine zc_start RX9 hi pfX9_tellBy rfl (Nat.le_of_ble_eq_true rfl) ?_
  intro G hG
  have hB := hG.1
  show zc_V 5 K G (zc_D shM K G σ0) [(0, .ref (zk K 0)), (1, .int p1), (2, .int p2), (3, .int p3), (4, .int p4)] 0 []
  have bw0_17 : 0 ≤ (σ0.1 0 17).toInt ∧ (σ0.1 0 17).toInt ≤ 6 := ⟨(hO0 0 17).1, (hO0 0 17).2.1⟩
  refine zr_aload_n hB 0 dX9_tellBy_0 rfl ?_
  refine zr_getr hG 0 18 dX9_tellBy_1 rfl wf_X9_32 rfl ?_
  refine zr_iload_n hB 1 dX9_tellBy_4 rfl ?_
  refine zr_iald hG 8 dX9_tellBy_5 rfl (by omega) (by omega) (fun x1 ex1 => ?_)
  have bx1 : 0 ≤ x1.toInt ∧ x1.toInt ≤ 4 := by rw [ex1]; exact ⟨(hO0 8 _).1, (hO0 8 _).2.1⟩
  refine zr_iconst hB dX9_tellBy_6 rfl (fun c2 ec2 => ?_)
  refine zr_icmp_ne hB dX9_tellBy_7 (tgt := 22) rfl (fun c3 => ?_) (fun c3 => ?_)
  · refine zr_aload_n hB 0 dX9_tellBy_22 rfl ?_
    refine zr_aload_n hB 0 dX9_tellBy_23 rfl ?_
    refine zr_getr hG 0 18 dX9_tellBy_24 rfl wf_X9_32 rfl ?_
    refine zr_iload_n hB 1 dX9_tellBy_27 rfl ?_
    refine zr_iald hG 8 dX9_tellBy_28 rfl (by omega) (by omega) (fun x4 ex4 => ?_)
    obtain rfl : x1 = x4 := ex1.trans ex4.symm
    refine zr_aload_n hB 0 dX9_tellBy_29 rfl ?_
    refine zr_getr hG 0 19 dX9_tellBy_30 rfl wf_X9_35 rfl ?_
    refine zr_iload_n hB 1 dX9_tellBy_33 rfl ?_
    refine zr_iald hG 9 dX9_tellBy_34 rfl (by omega) (by omega) (fun x5 ex5 => ?_)
    have t6 := hT p1.toInt (by omega) (by omega)
    rw [← ex1, ← ex5] at t6
    refine zr_aload_n hB 0 dX9_tellBy_35 rfl ?_
    refine zr_getr hG 0 20 dX9_tellBy_36 rfl wf_X9_38 rfl ?_
    refine zr_iload_n hB 1 dX9_tellBy_39 rfl ?_
    refine zr_iald hG 10 dX9_tellBy_40 rfl (by omega) (by omega) (fun x7 ex7 => ?_)
    refine zr_iload_n hB 2 dX9_tellBy_41 rfl ?_
    refine zr_iload_n hB 3 dX9_tellBy_42 rfl ?_
    refine zr_iload hB 4 dX9_tellBy_43 rfl ?_
    refine zr_callvi hG (rest := []) 0 dX9_tellBy_45 wm_X9_207 rfl rfl (c_M_tellPlain K hG.2.2.2.2.2.1 σ0 x1 x5 x7 p2 p3 p4 hO0 (by omega) (by omega) (by omega) (by omega) (by omega) (by omega) (by omega) (by omega) (by omega)) rfl rfl (Nat.le_of_ble_eq_true rfl) ⟨Nat.le_of_ble_eq_true rfl, Nat.le_of_ble_eq_true rfl, rfl, rfl⟩ (fun r8 σ9 h10 => ?_)
    obtain ⟨rfl, r8a, r8b, g11⟩ := h10
    have ht : zc_hid (¬ (σ0.1 8 p1.toInt.toNat).toInt = 4 → zp_q r8.toInt (zp_P (zy_A σ0) (zp_f 2 σ0) p2.toInt (zw_TM σ0) p4.toInt p1.toInt.toNat p3.toInt)) := by intro h4; have q1 : x1.toInt = (σ0.1 8 p1.toInt.toNat).toInt := (by rw [ex1]); have q2 : x5.toInt = (σ0.1 9 p1.toInt.toNat).toInt := (by rw [ex5]); have h9 := g11 (by omega); rw [q1, q2] at h9; exact h9
    exact zr_iret hG dX9_tellBy_48 ⟨rfl, by omega, by omega, (fun hp => by have hq := congrArg Int32.toInt ex1; have h4 : ¬ (σ0.1 8 p1.toInt.toNat).toInt = 4 := (by omega); exact (ht h4).iff (zp_Bp h4).symm)⟩
  refine zr_aload_n hB 0 dX9_tellBy_10 rfl ?_
  refine zr_iload_n hB 1 dX9_tellBy_11 rfl ?_
  refine zr_iload_n hB 2 dX9_tellBy_12 rfl ?_
  refine zr_iload_n hB 3 dX9_tellBy_13 rfl ?_
  refine zr_iload hB 4 dX9_tellBy_14 rfl ?_
  refine zr_callvi hG (rest := []) 0 dX9_tellBy_16 wm_X9_214 rfl rfl (c_M_tellJoined K hG.2.2.2.2.2.1 σ0 p1 p2 p3 p4 hO0 (by omega) (by omega) (by omega) (by omega) (by omega) (by omega) (by omega) (by omega) (by omega) hT) rfl rfl (Nat.le_of_ble_eq_true rfl) ⟨Nat.le_of_ble_eq_true rfl, Nat.le_of_ble_eq_true rfl, rfl, rfl⟩ (fun r12 σ13 h14 => ?_)
  obtain ⟨rfl, r12a, r12b, g15⟩ := h14
  refine zr_goto hB dX9_tellBy_19 (tgt := 48) rfl ?_
  exact zr_iret hG dX9_tellBy_48 ⟨rfl, by omega, by omega, (fun hp => by have hq := congrArg Int32.toInt ex1; exact (g15 (by omega)).iff (zp_Bj (show (σ0.1 8 p1.toInt.toNat).toInt = 4 by omega)).symm)⟩

set_option maxHeartbeats 1000000 in
set_option maxRecDepth 100000 in
theorem c_M_tells (K : zc_K) (hi : zc_inj shM K.2.2.2.1) (σ0 : zc_S) (p1 : Int32) (p2 : Int32) (p3 : Int32) (p4 : Int32) (hO0 : zc_O okM σ0) (hT : zm_T σ0) : zc_M shM K yX9_tells cX9_tells 5 (some .int) (zrm 8 208) σ0 [.ref (zk K 0), .int p1, .int p2, .int p3, .int p4] (zc_I (fun r9 σ9 => σ0 = σ9 ∧ (-4) ≤ r9.toInt ∧ r9.toInt ≤ 999)) := by
  refine zc_start RX9 hi pfX9_tells rfl (Nat.le_of_ble_eq_true rfl) ?_
  intro G hG
  have hB := hG.1
  show zc_V 5 K G (zc_D shM K G σ0) [(0, .ref (zk K 0)), (1, .int p1), (2, .int p2), (3, .int p3), (4, .int p4)] 0 []
  have bw0_17 : 0 ≤ (σ0.1 0 17).toInt ∧ (σ0.1 0 17).toInt ≤ 6 := ⟨(hO0 0 17).1, (hO0 0 17).2.1⟩
  refine zr_iload_n hB 1 dX9_tells_0 rfl ?_
  refine zr_callsi hG (rest := []) dX9_tells_1 wm_X9_108 (c_M_isShop K hG.2.2.2.2.2.1 σ0 p1 hO0 ) rfl rfl (Nat.le_of_ble_eq_true rfl) ⟨Nat.le_of_ble_eq_true rfl, Nat.le_of_ble_eq_true rfl, rfl, rfl⟩ (fun r1 σ2 h3 => ?_)
  obtain ⟨rfl, r1q⟩ := h3
  have r1z := r1q.b
  refine zr_if_eq hB dX9_tells_4 (tgt := 52) rfl (fun c4 => ?_) (fun c4 => ?_)
  · have q5 := r1q.f c4
    refine zr_iconst hB dX9_tells_52 rfl (fun c6 ec6 => ?_)
    exact zr_iret hG dX9_tells_53 ⟨rfl, by omega, by omega⟩
  have q7 := r1q.t c4
  refine zr_aload_n hB 0 dX9_tells_7 rfl ?_
  refine zr_iload_n hB 2 dX9_tells_8 rfl ?_
  refine zr_callvi hG (rest := []) 0 dX9_tells_9 wm_X9_184 rfl rfl (c_M_isTeller K hG.2.2.2.2.2.1 σ0 p2 hO0 ) rfl rfl (Nat.le_of_ble_eq_true rfl) ⟨Nat.le_of_ble_eq_true rfl, Nat.le_of_ble_eq_true rfl, rfl, rfl⟩ (fun r8 σ9 h10 => ?_)
  obtain ⟨rfl, r8q⟩ := h10
  have r8z := r8q.b
  refine zr_if_eq hB dX9_tells_12 (tgt := 52) rfl (fun c11 => ?_) (fun c11 => ?_)
  · have q12 := r8q.f c11
    refine zr_iconst hB dX9_tells_52 rfl (fun c13 ec13 => ?_)
    exact zr_iret hG dX9_tells_53 ⟨rfl, by omega, by omega⟩
  have q14 := r8q.t c11
  refine zr_iload_n hB 3 dX9_tells_15 rfl ?_
  have v16 := And.intro (zn_lo p3) (zn_hi p3)
  refine zr_i2l hB dX9_tells_16 (fun l15 el15 => ?_)
  refine zr_lconst hB dX9_tells_17 (m := 0) rfl (fun c17 ec17 => ?_)
  refine zr_aload_n hB 0 dX9_tells_18 rfl ?_
  refine zr_geti' hG 0 1 (σ0.1 0 1) dX9_tells_19 rfl wf_X9_101 rfl rfl ?_
  have b18 : 0 ≤ (σ0.1 0 1).toInt ∧ (σ0.1 0 1).toInt ≤ 63 := ⟨(hO0 0 1).1, (hO0 0 1).2.1⟩
  refine zr_i2l hB dX9_tells_22 (fun l19 el19 => ?_)
  refine zr_callsi hG (rest := []) dX9_tells_23 wm_X9_91 (c_M_in K hG.2.2.2.2.2.1 σ0 l15 c17 l19 hO0 ) rfl rfl (Nat.le_of_ble_eq_true rfl) ⟨Nat.le_of_ble_eq_true rfl, Nat.le_of_ble_eq_true rfl, rfl, rfl⟩ (fun r20 σ21 h22 => ?_)
  obtain ⟨rfl, r20q⟩ := h22
  have r20z := r20q.b
  refine zr_if_eq hB dX9_tells_26 (tgt := 52) rfl (fun c23 => ?_) (fun c23 => ?_)
  · have q24 := r20q.f c23
    refine zr_iconst hB dX9_tells_52 rfl (fun c25 ec25 => ?_)
    exact zr_iret hG dX9_tells_53 ⟨rfl, by omega, by omega⟩
  have q26 := r20q.t c23
  refine zr_iload hB 4 dX9_tells_29 rfl ?_
  refine zr_callsi hG (rest := []) dX9_tells_31 wm_X9_219 (c_M_isAhead K hG.2.2.2.2.2.1 σ0 p4 hO0 ) rfl rfl (Nat.le_of_ble_eq_true rfl) ⟨Nat.le_of_ble_eq_true rfl, Nat.le_of_ble_eq_true rfl, rfl, rfl⟩ (fun r27 σ28 h29 => ?_)
  obtain ⟨rfl, r27q⟩ := h29
  have r27z := r27q.b
  refine zr_if_eq hB dX9_tells_34 (tgt := 52) rfl (fun c30 => ?_) (fun c30 => ?_)
  · have q31 := r27q.f c30
    refine zr_iconst hB dX9_tells_52 rfl (fun c32 ec32 => ?_)
    exact zr_iret hG dX9_tells_53 ⟨rfl, by omega, by omega⟩
  have q33 := r27q.t c30
  refine zr_aload_n hB 0 dX9_tells_37 rfl ?_
  refine zr_iload_n hB 2 dX9_tells_38 rfl ?_
  refine zr_iload_n hB 1 dX9_tells_39 rfl ?_
  refine zr_iload_n hB 3 dX9_tells_40 rfl ?_
  refine zr_iload hB 4 dX9_tells_41 rfl ?_
  refine zr_callvi hG (rest := []) 0 dX9_tells_43 wm_X9_222 rfl rfl (c_M_tellBy K hG.2.2.2.2.2.1 σ0 p2 p1 p3 p4 hO0 (by omega) (by omega) (by omega) (by omega) (by omega) (by omega) (by omega) (by omega) (by omega) hT) rfl rfl (Nat.le_of_ble_eq_true rfl) ⟨Nat.le_of_ble_eq_true rfl, Nat.le_of_ble_eq_true rfl, rfl, rfl⟩ (fun r34 σ35 h36 => ?_)
  obtain ⟨rfl, r34a, r34b, g37⟩ := h36
  refine zr_callsi hG (rest := []) dX9_tells_46 wm_X9_117 (c_M_orNone K hG.2.2.2.2.2.1 σ0 r34 hO0 (by omega) (by omega)) rfl rfl (Nat.le_of_ble_eq_true rfl) ⟨Nat.le_of_ble_eq_true rfl, Nat.le_of_ble_eq_true rfl, rfl, rfl⟩ (fun r38 σ39 h40 => ?_)
  obtain ⟨rfl, r38a, r38b, g41⟩ := h40
  refine zr_goto hB dX9_tells_49 (tgt := 53) rfl ?_
  exact zr_iret hG dX9_tells_53 ⟨rfl, by omega, by omega⟩

set_option maxHeartbeats 1000000 in
set_option maxRecDepth 100000 in
theorem c_M_weight (K : zc_K) (hi : zc_inj shM K.2.2.2.1) (σ0 : zc_S) (p1 : Int32) (p2 : Int32) (p3 : Int32) (p4 : Int32) (p5 : Int32) (hO0 : zc_O okM σ0) (hT : zm_T σ0) : zc_M shM K yX9_weight cX9_weight 6 (some .int) (zrm 8 208) σ0 [.ref (zk K 0), .int p1, .int p2, .int p3, .int p4, .int p5] (zc_I (fun r9 σ9 => σ0 = σ9)) := by
  refine zc_start RX9 hi pfX9_weight rfl (Nat.le_of_ble_eq_true rfl) ?_
  intro G hG
  have hB := hG.1
  show zc_V 6 K G (zc_D shM K G σ0) [(0, .ref (zk K 0)), (1, .int p1), (2, .int p2), (3, .int p3), (4, .int p4), (5, .int p5)] 0 []
  have bw0_17 : 0 ≤ (σ0.1 0 17).toInt ∧ (σ0.1 0 17).toInt ≤ 6 := ⟨(hO0 0 17).1, (hO0 0 17).2.1⟩
  refine zr_iload_n hB 1 dX9_weight_0 rfl ?_
  refine zr_callsi hG (rest := []) dX9_weight_1 wm_X9_108 (c_M_isShop K hG.2.2.2.2.2.1 σ0 p1 hO0 ) rfl rfl (Nat.le_of_ble_eq_true rfl) ⟨Nat.le_of_ble_eq_true rfl, Nat.le_of_ble_eq_true rfl, rfl, rfl⟩ (fun r1 σ2 h3 => ?_)
  obtain ⟨rfl, r1q⟩ := h3
  have r1z := r1q.b
  refine zr_if_eq hB dX9_weight_4 (tgt := 71) rfl (fun c4 => ?_) (fun c4 => ?_)
  · have q5 := r1q.f c4
    refine zr_iconst hB dX9_weight_71 rfl (fun c6 ec6 => ?_)
    exact zr_iret hG dX9_weight_72 rfl
  have q7 := r1q.t c4
  refine zr_aload_n hB 0 dX9_weight_7 rfl ?_
  refine zr_iload_n hB 2 dX9_weight_8 rfl ?_
  refine zr_callvi hG (rest := []) 0 dX9_weight_9 wm_X9_184 rfl rfl (c_M_isTeller K hG.2.2.2.2.2.1 σ0 p2 hO0 ) rfl rfl (Nat.le_of_ble_eq_true rfl) ⟨Nat.le_of_ble_eq_true rfl, Nat.le_of_ble_eq_true rfl, rfl, rfl⟩ (fun r8 σ9 h10 => ?_)
  obtain ⟨rfl, r8q⟩ := h10
  have r8z := r8q.b
  refine zr_if_eq hB dX9_weight_12 (tgt := 71) rfl (fun c11 => ?_) (fun c11 => ?_)
  · have q12 := r8q.f c11
    refine zr_iconst hB dX9_weight_71 rfl (fun c13 ec13 => ?_)
    exact zr_iret hG dX9_weight_72 rfl
  have q14 := r8q.t c11
  refine zr_iload_n hB 3 dX9_weight_15 rfl ?_
  have v16 := And.intro (zn_lo p3) (zn_hi p3)
  refine zr_i2l hB dX9_weight_16 (fun l15 el15 => ?_)
  refine zr_lconst hB dX9_weight_17 (m := 0) rfl (fun c17 ec17 => ?_)
  refine zr_iload_n hB 2 dX9_weight_18 rfl ?_
  refine zr_iconst hB dX9_weight_19 rfl (fun c18 ec18 => ?_)
  refine zr_isub hB dX9_weight_20 (by omega) (by omega) (fun x19 ex19 => ?_)
  refine zr_i2l hB dX9_weight_21 (fun l20 el20 => ?_)
  refine zr_callsi hG (rest := []) dX9_weight_22 wm_X9_91 (c_M_in K hG.2.2.2.2.2.1 σ0 l15 c17 l20 hO0 ) rfl rfl (Nat.le_of_ble_eq_true rfl) ⟨Nat.le_of_ble_eq_true rfl, Nat.le_of_ble_eq_true rfl, rfl, rfl⟩ (fun r21 σ22 h23 => ?_)
  obtain ⟨rfl, r21q⟩ := h23
  have r21z := r21q.b
  refine zr_if_eq hB dX9_weight_25 (tgt := 71) rfl (fun c24 => ?_) (fun c24 => ?_)
  · have q25 := r21q.f c24
    refine zr_iconst hB dX9_weight_71 rfl (fun c26 ec26 => ?_)
    exact zr_iret hG dX9_weight_72 rfl
  have q27 := r21q.t c24
  refine zr_aload_n hB 0 dX9_weight_28 rfl ?_
  refine zr_getr hG 0 18 dX9_weight_29 rfl wf_X9_32 rfl ?_
  refine zr_iload_n hB 2 dX9_weight_32 rfl ?_
  refine zr_iald hG 8 dX9_weight_33 rfl (by omega) (by omega) (fun x28 ex28 => ?_)
  have bx28 : 0 ≤ x28.toInt ∧ x28.toInt ≤ 4 := by rw [ex28]; exact ⟨(hO0 8 _).1, (hO0 8 _).2.1⟩
  refine zr_iconst hB dX9_weight_34 rfl (fun c29 ec29 => ?_)
  refine zr_icmp_ne hB dX9_weight_35 (tgt := 71) rfl (fun c30 => ?_) (fun c30 => ?_)
  · refine zr_iconst hB dX9_weight_71 rfl (fun c31 ec31 => ?_)
    exact zr_iret hG dX9_weight_72 rfl
  refine zr_aload_n hB 0 dX9_weight_38 rfl ?_
  refine zr_getr hG 0 18 dX9_weight_39 rfl wf_X9_32 rfl ?_
  refine zr_iload_n hB 3 dX9_weight_42 rfl ?_
  refine zr_iald hG 8 dX9_weight_43 rfl (by omega) (by omega) (fun x32 ex32 => ?_)
  have bx32 : 0 ≤ x32.toInt ∧ x32.toInt ≤ 4 := by rw [ex32]; exact ⟨(hO0 8 _).1, (hO0 8 _).2.1⟩
  refine zr_iconst hB dX9_weight_44 rfl (fun c33 ec33 => ?_)
  refine zr_icmp_eq hB dX9_weight_45 (tgt := 71) rfl (fun c34 => ?_) (fun c34 => ?_)
  · refine zr_iconst hB dX9_weight_71 rfl (fun c35 ec35 => ?_)
    exact zr_iret hG dX9_weight_72 rfl
  refine zr_iload hB 4 dX9_weight_48 rfl ?_
  have v37 := And.intro (zn_lo p4) (zn_hi p4)
  refine zr_i2l hB dX9_weight_50 (fun l36 el36 => ?_)
  refine zr_lconst hB dX9_weight_51 (m := 0) rfl (fun c38 ec38 => ?_)
  refine zr_aload_n hB 0 dX9_weight_52 rfl ?_
  refine zr_geti' hG 0 1 (σ0.1 0 1) dX9_weight_53 rfl wf_X9_101 rfl rfl ?_
  have b39 : 0 ≤ (σ0.1 0 1).toInt ∧ (σ0.1 0 1).toInt ≤ 63 := ⟨(hO0 0 1).1, (hO0 0 1).2.1⟩
  refine zr_i2l hB dX9_weight_56 (fun l40 el40 => ?_)
  refine zr_callsi hG (rest := []) dX9_weight_57 wm_X9_91 (c_M_in K hG.2.2.2.2.2.1 σ0 l36 c38 l40 hO0 ) rfl rfl (Nat.le_of_ble_eq_true rfl) ⟨Nat.le_of_ble_eq_true rfl, Nat.le_of_ble_eq_true rfl, rfl, rfl⟩ (fun r41 σ42 h43 => ?_)
  obtain ⟨rfl, r41q⟩ := h43
  have r41z := r41q.b
  refine zr_if_eq hB dX9_weight_60 (tgt := 71) rfl (fun c44 => ?_) (fun c44 => ?_)
  · have q45 := r41q.f c44
    refine zr_iconst hB dX9_weight_71 rfl (fun c46 ec46 => ?_)
    exact zr_iret hG dX9_weight_72 rfl
  have q47 := r41q.t c44
  refine zr_iload hB 5 dX9_weight_63 rfl ?_
  refine zr_callsi hG (rest := []) dX9_weight_65 wm_X9_219 (c_M_isAhead K hG.2.2.2.2.2.1 σ0 p5 hO0 ) rfl rfl (Nat.le_of_ble_eq_true rfl) ⟨Nat.le_of_ble_eq_true rfl, Nat.le_of_ble_eq_true rfl, rfl, rfl⟩ (fun r48 σ49 h50 => ?_)
  obtain ⟨rfl, r48q⟩ := h50
  have r48z := r48q.b
  refine zr_if_ne hB dX9_weight_68 (tgt := 73) rfl (fun c51 => ?_) (fun c51 => ?_)
  · have q52 := r48q.t c51
    refine zr_aload_n hB 0 dX9_weight_73 rfl ?_
    refine zr_iload_n hB 3 dX9_weight_74 rfl ?_
    refine zr_iload_n hB 1 dX9_weight_75 rfl ?_
    refine zr_iload hB 4 dX9_weight_76 rfl ?_
    refine zr_iload hB 5 dX9_weight_78 rfl ?_
    refine zr_callvi hG (rest := []) 0 dX9_weight_80 wm_X9_222 rfl rfl (c_M_tellBy K hG.2.2.2.2.2.1 σ0 p3 p1 p4 p5 hO0 (by omega) (by omega) (by omega) (by omega) (by omega) (by omega) (by omega) (by omega) (by omega) hT) rfl rfl (Nat.le_of_ble_eq_true rfl) ⟨Nat.le_of_ble_eq_true rfl, Nat.le_of_ble_eq_true rfl, rfl, rfl⟩ (fun r53 σ54 h55 => ?_)
    obtain ⟨rfl, r53a, r53b, g56⟩ := h55
    refine zr_if_ge hB dX9_weight_83 (tgt := 91) rfl (fun c57 => ?_) (fun c57 => ?_)
    · refine zr_aload_n hB 0 dX9_weight_91 rfl ?_
      refine zr_iload_n hB 3 dX9_weight_92 rfl ?_
      refine zr_aload_n hB 0 dX9_weight_93 rfl ?_
      refine zr_getr hG 0 19 dX9_weight_94 rfl wf_X9_35 rfl ?_
      refine zr_iload_n hB 2 dX9_weight_97 rfl ?_
      refine zr_iald hG 9 dX9_weight_98 rfl (by omega) (by omega) (fun x58 ex58 => ?_)
      refine zr_iload_n hB 1 dX9_weight_99 rfl ?_
      refine zr_iload hB 4 dX9_weight_100 rfl ?_
      refine zr_iload hB 5 dX9_weight_102 rfl ?_
      refine zr_callvi hG (rest := []) 0 dX9_weight_104 wm_X9_211 rfl rfl (c_M_weightOf K hG.2.2.2.2.2.1 σ0 p3 x58 p1 p4 p5 hO0 (by omega) (by omega) (by omega) (by omega) (by omega) (by omega) (by omega) (by omega) (by omega) hT) rfl rfl (Nat.le_of_ble_eq_true rfl) ⟨Nat.le_of_ble_eq_true rfl, Nat.le_of_ble_eq_true rfl, rfl, rfl⟩ (fun r59 σ60 h61 => ?_)
      obtain ⟨rfl, r59a, r59b, g62⟩ := h61
      exact zr_iret hG dX9_weight_107 rfl
    refine zr_bipush hB dX9_weight_86 rfl (fun c63 ec63 => ?_)
    refine zr_goto hB dX9_weight_88 (tgt := 107) rfl ?_
    exact zr_iret hG dX9_weight_107 rfl
  have q64 := r48q.f c51
  refine zr_iconst hB dX9_weight_71 rfl (fun c65 ec65 => ?_)
  exact zr_iret hG dX9_weight_72 rfl

set_option maxHeartbeats 1000000 in
set_option maxRecDepth 100000 in
theorem c_M_size (K : zc_K) (hi : zc_inj shM K.2.2.2.1) (σ0 : zc_S) (p0 : Int32) (hO0 : zc_O okM σ0) (h0a : (-2147483647) ≤ p0.toInt) : zc_M shM K yX9_size cX9_size 1 (some .int) (zrm 0 0) σ0 [.int p0] (zc_I (fun r9 σ9 => σ0 = σ9 ∧ 0 ≤ r9.toInt ∧ (r9.toInt = p0.toInt ∨ r9.toInt = -p0.toInt))) := by
  refine zc_start RX9 hi pfX9_size rfl (Nat.le_of_ble_eq_true rfl) ?_
  intro G hG
  have hB := hG.1
  show zc_V 1 K G (zc_D shM K G σ0) [(0, .int p0)] 0 []
  refine zr_iload_n hB 0 dX9_size_0 rfl ?_
  refine zr_if_ge hB dX9_size_1 (tgt := 9) rfl (fun c1 => ?_) (fun c1 => ?_)
  · refine zr_iload_n hB 0 dX9_size_9 rfl ?_
    exact zr_iret hG dX9_size_10 ⟨rfl, by omega, by omega⟩
  refine zr_iload_n hB 0 dX9_size_4 rfl ?_
  refine zr_ineg hB dX9_size_5 (by omega) (fun x2 ex2 => ?_)
  refine zr_goto hB dX9_size_6 (tgt := 10) rfl ?_
  exact zr_iret hG dX9_size_10 ⟨rfl, by omega, by omega⟩

def m_M_layDay : zc_ms := [(14, none), (15, none)]
set_option maxHeartbeats 1000000 in
set_option maxRecDepth 100000 in
theorem c_M_layDay (K : zc_K) (hi : zc_inj shM K.2.2.2.1) (σ0 : zc_S) (p1 : Int32) (p2 : Int32) (p3 : Int32) (hO0 : zc_O okM σ0) (h1a : 0 ≤ p1.toInt) (h1b : p1.toInt ≤ 63) (h2a : (-1) ≤ p2.toInt) (h2b : p2.toInt ≤ 999) (h3a : 0 ≤ p3.toInt) (h3b : p3.toInt ≤ 3) : zc_M shM K yX9_layDay cX9_layDay 5 none (zrm 3 68) σ0 [.ref (zk K 0), .int p1, .int p2, .int p3] (zc_N (fun σ9 => zc_O okM σ9 ∧ zc_Ag m_M_layDay σ0 σ9)) := by
  refine zc_start RX9 hi pfX9_layDay rfl (Nat.le_of_ble_eq_true rfl) ?_
  intro G hG
  have hB := hG.1
  have hA0 : zc_Ag m_M_layDay σ0 σ0 := zc_Ag.rf
  show zc_V 5 K G (zc_D shM K G σ0) [(0, .ref (zk K 0)), (1, .int p1), (2, .int p2), (3, .int p3)] 0 []
  refine zr_aload_n hB 0 dX9_layDay_0 rfl ?_
  refine zr_iload_n hB 3 dX9_layDay_1 rfl ?_
  refine zr_iload_n hB 1 dX9_layDay_2 rfl ?_
  refine zr_aload_n hB 0 dX9_layDay_3 rfl ?_
  refine zr_geti' hG 0 1 (σ0.1 0 1) dX9_layDay_4 rfl wf_X9_101 rfl rfl ?_
  have b1 : 0 ≤ (σ0.1 0 1).toInt ∧ (σ0.1 0 1).toInt ≤ 63 := ⟨(hO0 0 1).1, (hO0 0 1).2.1⟩
  refine zr_callvi hG (rest := []) 0 dX9_layDay_7 wm_X9_113 rfl rfl (c_M_knownOn K hG.2.2.2.2.2.1 σ0 p3 p1 (σ0.1 0 1) hO0 (by omega) (by omega) (by omega) (by omega)) rfl rfl (Nat.le_of_ble_eq_true rfl) ⟨Nat.le_of_ble_eq_true rfl, Nat.le_of_ble_eq_true rfl, rfl, rfl⟩ (fun r2 σ3 h4 => ?_)
  obtain ⟨rfl, r2a, r2b, g5⟩ := h4
  refine zr_istore hB dX9_layDay_10 (by decide) (lv' := [(4, .int r2), (0, .ref (zk K 0)), (1, .int p1), (2, .int p2), (3, .int p3)]) rfl ?_
  refine zr_aload_n hB 1 dX9_layDay_12 rfl ?_
  refine zr_getr hG 0 26 dX9_layDay_13 rfl wf_X9_53 rfl ?_
  refine zr_iload_n hB 2 dX9_layDay_16 rfl ?_
  refine zr_iload hB 0 dX9_layDay_17 rfl ?_
  refine zr_if_lt hB dX9_layDay_19 (tgt := 30) rfl (fun c6 => ?_) (fun c6 => ?_)
  · refine zr_iconst hB dX9_layDay_30 rfl (fun c7 ec7 => ?_)
    refine zr_zast hG 15 dX9_layDay_31 rfl (by omega) (by omega) (by omega) (by omega) ?_
    have hOw8 := zc_O.u hO0 15 p1.toInt.toNat (v := c7) (show 0 ≤ c7.toInt by omega) (show c7.toInt ≤ 1 by omega) (Or.inr (show 0 ≤ c7.toInt by omega))
    have hAw8 := zc_Ag.u hA0 15 p1.toInt.toNat c7 rfl
    refine zr_aload_n hB 1 dX9_layDay_32 rfl ?_
    refine zr_getr hG 0 25 dX9_layDay_33 rfl wf_X9_50 rfl ?_
    refine zr_iload_n hB 2 dX9_layDay_36 rfl ?_
    refine zr_aload_n hB 1 dX9_layDay_37 rfl ?_
    refine zr_getr hG 0 26 dX9_layDay_38 rfl wf_X9_53 rfl ?_
    refine zr_iload_n hB 2 dX9_layDay_41 rfl ?_
    refine zr_zald hG 15 dX9_layDay_42 rfl (by omega) (by omega) (fun x9 ex9 => ?_)
    obtain rfl : c7 = x9 := (ex9.trans (zc_us _ _ _ _)).symm
    refine zr_if_eq hB dX9_layDay_43 (tgt := 53) rfl (fun c10 => ?_) (fun c10 => ?_)
    · refine zr_iconst hB dX9_layDay_53 rfl (fun c11 ec11 => ?_)
      refine zr_iast hG 14 dX9_layDay_54 rfl (by omega) (by omega)  ?_
      have hOw12 := zc_O.u hOw8 14 p1.toInt.toNat (v := c11) (show (-999) ≤ c11.toInt by omega) (show c11.toInt ≤ 999 by omega) (Or.inr (show (-999) ≤ c11.toInt by omega))
      have hAw12 := zc_Ag.u hAw8 14 p1.toInt.toNat c11 rfl
      exact zr_vret hG dX9_layDay_55 ⟨hOw12, hAw12⟩
    exfalso; omega
  refine zr_iload_n hB 3 dX9_layDay_22 rfl ?_
  refine zr_if_lt hB dX9_layDay_23 (tgt := 30) rfl (fun c13 => ?_) (fun c13 => ?_)
  · refine zr_iconst hB dX9_layDay_30 rfl (fun c14 ec14 => ?_)
    refine zr_zast hG 15 dX9_layDay_31 rfl (by omega) (by omega) (by omega) (by omega) ?_
    have hOw15 := zc_O.u hO0 15 p1.toInt.toNat (v := c14) (show 0 ≤ c14.toInt by omega) (show c14.toInt ≤ 1 by omega) (Or.inr (show 0 ≤ c14.toInt by omega))
    have hAw15 := zc_Ag.u hA0 15 p1.toInt.toNat c14 rfl
    refine zr_aload_n hB 1 dX9_layDay_32 rfl ?_
    refine zr_getr hG 0 25 dX9_layDay_33 rfl wf_X9_50 rfl ?_
    refine zr_iload_n hB 2 dX9_layDay_36 rfl ?_
    refine zr_aload_n hB 1 dX9_layDay_37 rfl ?_
    refine zr_getr hG 0 26 dX9_layDay_38 rfl wf_X9_53 rfl ?_
    refine zr_iload_n hB 2 dX9_layDay_41 rfl ?_
    refine zr_zald hG 15 dX9_layDay_42 rfl (by omega) (by omega) (fun x16 ex16 => ?_)
    obtain rfl : c14 = x16 := (ex16.trans (zc_us _ _ _ _)).symm
    refine zr_if_eq hB dX9_layDay_43 (tgt := 53) rfl (fun c17 => ?_) (fun c17 => ?_)
    · refine zr_iconst hB dX9_layDay_53 rfl (fun c18 ec18 => ?_)
      refine zr_iast hG 14 dX9_layDay_54 rfl (by omega) (by omega)  ?_
      have hOw19 := zc_O.u hOw15 14 p1.toInt.toNat (v := c18) (show (-999) ≤ c18.toInt by omega) (show c18.toInt ≤ 999 by omega) (Or.inr (show (-999) ≤ c18.toInt by omega))
      have hAw19 := zc_Ag.u hAw15 14 p1.toInt.toNat c18 rfl
      exact zr_vret hG dX9_layDay_55 ⟨hOw19, hAw19⟩
    exfalso; omega
  refine zr_iconst hB dX9_layDay_26 rfl (fun c20 ec20 => ?_)
  refine zr_goto hB dX9_layDay_27 (tgt := 31) rfl ?_
  refine zr_zast hG 15 dX9_layDay_31 rfl (by omega) (by omega) (by omega) (by omega) ?_
  have hOw21 := zc_O.u hO0 15 p1.toInt.toNat (v := c20) (show 0 ≤ c20.toInt by omega) (show c20.toInt ≤ 1 by omega) (Or.inr (show 0 ≤ c20.toInt by omega))
  have hAw21 := zc_Ag.u hA0 15 p1.toInt.toNat c20 rfl
  refine zr_aload_n hB 1 dX9_layDay_32 rfl ?_
  refine zr_getr hG 0 25 dX9_layDay_33 rfl wf_X9_50 rfl ?_
  refine zr_iload_n hB 2 dX9_layDay_36 rfl ?_
  refine zr_aload_n hB 1 dX9_layDay_37 rfl ?_
  refine zr_getr hG 0 26 dX9_layDay_38 rfl wf_X9_53 rfl ?_
  refine zr_iload_n hB 2 dX9_layDay_41 rfl ?_
  refine zr_zald hG 15 dX9_layDay_42 rfl (by omega) (by omega) (fun x22 ex22 => ?_)
  obtain rfl : c20 = x22 := (ex22.trans (zc_us _ _ _ _)).symm
  refine zr_if_eq hB dX9_layDay_43 (tgt := 53) rfl (fun c23 => ?_) (fun c23 => ?_)
  · exfalso; omega
  refine zr_iload hB 0 dX9_layDay_46 rfl ?_
  refine zr_iload_n hB 3 dX9_layDay_48 rfl ?_
  refine zr_isub hB dX9_layDay_49 (by omega) (by omega) (fun x24 ex24 => ?_)
  refine zr_goto hB dX9_layDay_50 (tgt := 54) rfl ?_
  refine zr_iast hG 14 dX9_layDay_54 rfl (by omega) (by omega)  ?_
  have hOw25 := zc_O.u hOw21 14 p1.toInt.toNat (v := x24) (show (-999) ≤ x24.toInt by omega) (show x24.toInt ≤ 999 by omega) (Or.inr (show (-999) ≤ x24.toInt by omega))
  have hAw25 := zc_Ag.u hAw21 14 p1.toInt.toNat x24 rfl
  exact zr_vret hG dX9_layDay_55 ⟨hOw25, hAw25⟩

def m_M_layMisses : zc_ms := [(14, none), (15, none)]
set_option maxHeartbeats 1000000 in
set_option maxRecDepth 100000 in
theorem c_M_layMisses (K : zc_K) (hi : zc_inj shM K.2.2.2.1) (σ0 : zc_S) (p1 : Int32) (p2 : Int32) (p3 : Int32) (p4 : Int32) (p5 : Int32) (hO0 : zc_O okM σ0) (h1a : 0 ≤ p1.toInt) (h1b : p1.toInt ≤ 3) (h2a : 0 ≤ p2.toInt) (h2b : p2.toInt ≤ 5) (h3a : 1 ≤ p3.toInt) (h3b : p3.toInt ≤ 14) (h4a : 0 ≤ p4.toInt) (h4b : p4.toInt ≤ 63) (h5a : 0 ≤ p5.toInt) (h5b : p5.toInt ≤ 63) (hx0 : p2.toInt < (σ0.1 0 17).toInt) (hT : zm_T σ0) : zc_M shM K yX9_layMisses cX9_layMisses 7 none (zrm 8 208) σ0 [.ref (zk K 0), .int p1, .int p2, .int p3, .int p4, .int p5] (zc_N (fun σ9 => zc_O okM σ9 ∧ zc_Ag m_M_layMisses σ0 σ9)) := by
  refine zc_start RX9 hi pfX9_layMisses rfl (Nat.le_of_ble_eq_true rfl) ?_
  intro G hG
  have hB := hG.1
  have hA0 : zc_Ag m_M_layMisses σ0 σ0 := zc_Ag.rf
  show zc_V 7 K G (zc_D shM K G σ0) [(0, .ref (zk K 0)), (1, .int p1), (2, .int p2), (3, .int p3), (4, .int p4), (5, .int p5)] 0 []
  have bw0_17 : 0 ≤ (σ0.1 0 17).toInt ∧ (σ0.1 0 17).toInt ≤ 6 := ⟨(hO0 0 17).1, (hO0 0 17).2.1⟩
  refine zr_iload hB 4 dX9_layMisses_0 rfl ?_
  refine zr_istore hB dX9_layMisses_2 (by decide) (lv' := [(6, .int p4), (0, .ref (zk K 0)), (1, .int p1), (2, .int p2), (3, .int p3), (4, .int p4), (5, .int p5)]) rfl ?_
  have L4_4 : ∀ (n4 : Nat) (σ2 : zc_S) (y6_1 : Int32), zc_O okM σ2 → zc_Ag m_M_layMisses σ0 σ2 → 0 ≤ y6_1.toInt → y6_1.toInt ≤ 64 → p2.toInt < (σ2.1 0 17).toInt → 64 - y6_1.toInt < (n4 : Int) → zc_V 7 K G (zc_D shM K G σ2) [(0, .ref (zk K 0)), (1, .int p1), (2, .int p2), (3, .int p3), (4, .int p4), (5, .int p5), (6, .int y6_1)] 4 [] := by
    intro n4
    induction n4 with
    | zero => intro σ2 y6_1 hO2 hA2 y6_1a y6_1b e3 hn4; exfalso; omega
    | succ n4 ih4 =>
      intro σ2 y6_1 hO2 hA2 y6_1a y6_1b e3 hn4
      refine zr_iload hB 6 dX9_layMisses_4 rfl ?_
      refine zr_iload hB 5 dX9_layMisses_6 rfl ?_
      refine zr_icmp_gt hB dX9_layMisses_8 (tgt := 56) rfl (fun c5 => ?_) (fun c5 => ?_)
      · exact zr_vret hG dX9_layMisses_56 ⟨hO2, hA2⟩
      refine zr_aload_n hB 0 dX9_layMisses_11 rfl ?_
      refine zr_iload hB 6 dX9_layMisses_12 rfl ?_
      refine zr_iload hB 6 dX9_layMisses_14 rfl ?_
      refine zr_iload_n hB 3 dX9_layMisses_16 rfl ?_
      refine zr_icmp_lt hB dX9_layMisses_17 (tgt := 31) rfl (fun c6 => ?_) (fun c6 => ?_)
      · refine zr_iconst hB dX9_layMisses_31 rfl (fun c7 ec7 => ?_)
        refine zr_goto hB dX9_layMisses_32 (tgt := 46) rfl ?_
        refine zr_iload_n hB 1 dX9_layMisses_46 rfl ?_
        refine zr_callvn hG (rest := []) 0 dX9_layMisses_47 wm_X9_225 rfl rfl (c_M_layDay K hG.2.2.2.2.2.1 σ2 y6_1 c7 p1 hO2 (by omega) (by omega) (by omega) (by omega) (by omega) (by omega)) rfl rfl (Nat.le_of_ble_eq_true rfl) ⟨Nat.le_of_ble_eq_true rfl, Nat.le_of_ble_eq_true rfl, rfl, rfl⟩ (fun σ9 h10 => ?_)
        obtain ⟨hO11, hAc12⟩ := h10
        have hA13 := zc_Ag.tr hA2 hAc12 rfl
        have q14 : (σ9.1 0 17).toInt = (σ2.1 0 17).toInt := congrArg Int32.toInt (hAc12 0 17 rfl).1
        refine zr_iinc hB 6 dX9_layMisses_50 rfl (by decide) rfl (by omega) (by omega) (fun x15 ex15 lv' hlv => ?_)
        obtain rfl : [(6, .int x15), (0, .ref (zk K 0)), (1, .int p1), (2, .int p2), (3, .int p3), (4, .int p4), (5, .int p5)] = lv' := hlv
        refine zr_goto hB dX9_layMisses_53 (tgt := 4) rfl ?_
        have b16 : 0 ≤ (σ9.1 0 17).toInt ∧ (σ9.1 0 17).toInt ≤ 6 := ⟨(hO11 0 17).1, (hO11 0 17).2.1⟩
        exact zc_sub [1, 2, 3, 4, 5, 6, 0] rfl (ih4 σ9 x15 hO11 hA13 (by omega) (by omega) (show p2.toInt < (σ9.1 0 17).toInt by omega) (by omega))
      refine zr_iload hB 6 dX9_layMisses_20 rfl ?_
      refine zr_iload_n hB 3 dX9_layMisses_22 rfl ?_
      refine zr_isub hB dX9_layMisses_23 (by omega) (by omega) (fun x17 ex17 => ?_)
      refine zr_aload_n hB 0 dX9_layMisses_24 rfl ?_
      refine zr_geti' hG 0 1 (σ2.1 0 1) dX9_layMisses_25 rfl wf_X9_101 rfl rfl ?_
      have b18 : 0 ≤ (σ2.1 0 1).toInt ∧ (σ2.1 0 1).toInt ≤ 63 := ⟨(hO2 0 1).1, (hO2 0 1).2.1⟩
      refine zr_icmp_le hB dX9_layMisses_28 (tgt := 35) rfl (fun c19 => ?_) (fun c19 => ?_)
      · refine zr_aload_n hB 0 dX9_layMisses_35 rfl ?_
        refine zr_iload_n hB 2 dX9_layMisses_36 rfl ?_
        refine zr_iload_n hB 1 dX9_layMisses_37 rfl ?_
        refine zr_iload hB 6 dX9_layMisses_38 rfl ?_
        refine zr_iload_n hB 3 dX9_layMisses_40 rfl ?_
        refine zr_isub hB dX9_layMisses_41 (by omega) (by omega) (fun x20 ex20 => ?_)
        refine zr_iload_n hB 3 dX9_layMisses_42 rfl ?_
        refine zr_callvi hG (rest := [.int y6_1, .ref (zk K 0)]) 0 dX9_layMisses_43 wm_X9_222 rfl rfl (c_M_tellBy K hG.2.2.2.2.2.1 σ2 p2 p1 x20 p3 hO2 (by omega) (by omega) (by omega) (by omega) (by omega) (by omega) (by omega) (by omega) (by omega) (zm_T.ag hT hA2 rfl (fun _ => rfl) (fun _ => rfl))) rfl rfl (Nat.le_of_ble_eq_true rfl) ⟨Nat.le_of_ble_eq_true rfl, Nat.le_of_ble_eq_true rfl, rfl, rfl⟩ (fun r21 σ22 h23 => ?_)
        obtain ⟨rfl, r21a, r21b, g24⟩ := h23
        refine zr_iload_n hB 1 dX9_layMisses_46 rfl ?_
        refine zr_callvn hG (rest := []) 0 dX9_layMisses_47 wm_X9_225 rfl rfl (c_M_layDay K hG.2.2.2.2.2.1 σ2 y6_1 r21 p1 hO2 (by omega) (by omega) (by omega) (by omega) (by omega) (by omega)) rfl rfl (Nat.le_of_ble_eq_true rfl) ⟨Nat.le_of_ble_eq_true rfl, Nat.le_of_ble_eq_true rfl, rfl, rfl⟩ (fun σ26 h27 => ?_)
        obtain ⟨hO28, hAc29⟩ := h27
        have hA30 := zc_Ag.tr hA2 hAc29 rfl
        have q31 : (σ26.1 0 17).toInt = (σ2.1 0 17).toInt := congrArg Int32.toInt (hAc29 0 17 rfl).1
        have q32 : (σ26.1 0 1).toInt = (σ2.1 0 1).toInt := congrArg Int32.toInt (hAc29 0 1 rfl).1
        refine zr_iinc hB 6 dX9_layMisses_50 rfl (by decide) rfl (by omega) (by omega) (fun x33 ex33 lv' hlv => ?_)
        obtain rfl : [(6, .int x33), (0, .ref (zk K 0)), (1, .int p1), (2, .int p2), (3, .int p3), (4, .int p4), (5, .int p5)] = lv' := hlv
        refine zr_goto hB dX9_layMisses_53 (tgt := 4) rfl ?_
        have b34 : 0 ≤ (σ26.1 0 17).toInt ∧ (σ26.1 0 17).toInt ≤ 6 := ⟨(hO28 0 17).1, (hO28 0 17).2.1⟩
        exact zc_sub [1, 2, 3, 4, 5, 6, 0] rfl (ih4 σ26 x33 hO28 hA30 (by omega) (by omega) (show p2.toInt < (σ26.1 0 17).toInt by omega) (by omega))
      refine zr_iconst hB dX9_layMisses_31 rfl (fun c35 ec35 => ?_)
      refine zr_goto hB dX9_layMisses_32 (tgt := 46) rfl ?_
      refine zr_iload_n hB 1 dX9_layMisses_46 rfl ?_
      refine zr_callvn hG (rest := []) 0 dX9_layMisses_47 wm_X9_225 rfl rfl (c_M_layDay K hG.2.2.2.2.2.1 σ2 y6_1 c35 p1 hO2 (by omega) (by omega) (by omega) (by omega) (by omega) (by omega)) rfl rfl (Nat.le_of_ble_eq_true rfl) ⟨Nat.le_of_ble_eq_true rfl, Nat.le_of_ble_eq_true rfl, rfl, rfl⟩ (fun σ37 h38 => ?_)
      obtain ⟨hO39, hAc40⟩ := h38
      have hA41 := zc_Ag.tr hA2 hAc40 rfl
      have q42 : (σ37.1 0 17).toInt = (σ2.1 0 17).toInt := congrArg Int32.toInt (hAc40 0 17 rfl).1
      have q43 : (σ37.1 0 1).toInt = (σ2.1 0 1).toInt := congrArg Int32.toInt (hAc40 0 1 rfl).1
      refine zr_iinc hB 6 dX9_layMisses_50 rfl (by decide) rfl (by omega) (by omega) (fun x44 ex44 lv' hlv => ?_)
      obtain rfl : [(6, .int x44), (0, .ref (zk K 0)), (1, .int p1), (2, .int p2), (3, .int p3), (4, .int p4), (5, .int p5)] = lv' := hlv
      refine zr_goto hB dX9_layMisses_53 (tgt := 4) rfl ?_
      have b45 : 0 ≤ (σ37.1 0 17).toInt ∧ (σ37.1 0 17).toInt ≤ 6 := ⟨(hO39 0 17).1, (hO39 0 17).2.1⟩
      exact zc_sub [1, 2, 3, 4, 5, 6, 0] rfl (ih4 σ37 x44 hO39 hA41 (by omega) (by omega) (show p2.toInt < (σ37.1 0 17).toInt by omega) (by omega))
  exact zc_sub [1, 2, 3, 4, 5, 6, 0] rfl (L4_4 66 σ0 p4 hO0 hA0 (by omega) (by omega) (show p2.toInt < (σ0.1 0 17).toInt by omega) (by omega))

set_option maxHeartbeats 1000000 in
set_option maxRecDepth 100000 in
theorem c_M_isAsked (K : zc_K) (hi : zc_inj shM K.2.2.2.1) (σ0 : zc_S) (p1 : Int32) (p2 : Int32) (p3 : Int32) (p4 : Int32) (p5 : Int32) (hO0 : zc_O okM σ0)  : zc_M shM K yX9_isAsked cX9_isAsked 6 (some .boolean) (zrm 3 66) σ0 [.ref (zk K 0), .int p1, .int p2, .int p3, .int p4, .int p5] (zc_I (fun r9 σ9 => σ0 = σ9 ∧ zc_if r9 (0 ≤ p1.toInt ∧ p1.toInt ≤ 3 ∧ 0 ≤ p2.toInt ∧ p2.toInt < (σ0.1 0 17).toInt ∧ p2.toInt ≤ 5 ∧ 1 ≤ p3.toInt ∧ p3.toInt ≤ 14 ∧ 0 ≤ p4.toInt ∧ p4.toInt ≤ p5.toInt ∧ p5.toInt ≤ 63 ∧ p4.toInt ≤ 63 ∧ 0 ≤ p5.toInt))) := by
  refine zc_start RX9 hi pfX9_isAsked rfl (Nat.le_of_ble_eq_true rfl) ?_
  intro G hG
  have hB := hG.1
  show zc_V 6 K G (zc_D shM K G σ0) [(0, .ref (zk K 0)), (1, .int p1), (2, .int p2), (3, .int p3), (4, .int p4), (5, .int p5)] 0 []
  have bw0_17 : 0 ≤ (σ0.1 0 17).toInt ∧ (σ0.1 0 17).toInt ≤ 6 := ⟨(hO0 0 17).1, (hO0 0 17).2.1⟩
  refine zr_iload_n hB 1 dX9_isAsked_0 rfl ?_
  refine zr_callsi hG (rest := []) dX9_isAsked_1 wm_X9_108 (c_M_isShop K hG.2.2.2.2.2.1 σ0 p1 hO0 ) rfl rfl (Nat.le_of_ble_eq_true rfl) ⟨Nat.le_of_ble_eq_true rfl, Nat.le_of_ble_eq_true rfl, rfl, rfl⟩ (fun r1 σ2 h3 => ?_)
  obtain ⟨rfl, r1q⟩ := h3
  have r1z := r1q.b
  refine zr_if_eq hB dX9_isAsked_4 (tgt := 36) rfl (fun c4 => ?_) (fun c4 => ?_)
  · have q5 := r1q.f c4
    refine zr_iconst hB dX9_isAsked_36 rfl (fun c6 ec6 => ?_)
    exact zr_zret hG dX9_isAsked_37 (by omega) (by omega) ⟨rfl, zc_if.mf (by omega) (by omega)⟩
  have q7 := r1q.t c4
  refine zr_aload_n hB 0 dX9_isAsked_7 rfl ?_
  refine zr_iload_n hB 2 dX9_isAsked_8 rfl ?_
  refine zr_callvi hG (rest := []) 0 dX9_isAsked_9 wm_X9_184 rfl rfl (c_M_isTeller K hG.2.2.2.2.2.1 σ0 p2 hO0 ) rfl rfl (Nat.le_of_ble_eq_true rfl) ⟨Nat.le_of_ble_eq_true rfl, Nat.le_of_ble_eq_true rfl, rfl, rfl⟩ (fun r8 σ9 h10 => ?_)
  obtain ⟨rfl, r8q⟩ := h10
  have r8z := r8q.b
  refine zr_if_eq hB dX9_isAsked_12 (tgt := 36) rfl (fun c11 => ?_) (fun c11 => ?_)
  · have q12 := r8q.f c11
    refine zr_iconst hB dX9_isAsked_36 rfl (fun c13 ec13 => ?_)
    exact zr_zret hG dX9_isAsked_37 (by omega) (by omega) ⟨rfl, zc_if.mf (by omega) (by omega)⟩
  have q14 := r8q.t c11
  refine zr_iload_n hB 3 dX9_isAsked_15 rfl ?_
  refine zr_callsi hG (rest := []) dX9_isAsked_16 wm_X9_219 (c_M_isAhead K hG.2.2.2.2.2.1 σ0 p3 hO0 ) rfl rfl (Nat.le_of_ble_eq_true rfl) ⟨Nat.le_of_ble_eq_true rfl, Nat.le_of_ble_eq_true rfl, rfl, rfl⟩ (fun r15 σ16 h17 => ?_)
  obtain ⟨rfl, r15q⟩ := h17
  have r15z := r15q.b
  refine zr_if_eq hB dX9_isAsked_19 (tgt := 36) rfl (fun c18 => ?_) (fun c18 => ?_)
  · have q19 := r15q.f c18
    refine zr_iconst hB dX9_isAsked_36 rfl (fun c20 ec20 => ?_)
    exact zr_zret hG dX9_isAsked_37 (by omega) (by omega) ⟨rfl, zc_if.mf (by omega) (by omega)⟩
  have q21 := r15q.t c18
  refine zr_iload hB 4 dX9_isAsked_22 rfl ?_
  refine zr_iload hB 5 dX9_isAsked_24 rfl ?_
  refine zr_callsi hG (rest := []) dX9_isAsked_26 wm_X9_228 (c_M_areDays K hG.2.2.2.2.2.1 σ0 p4 p5 hO0 ) rfl rfl (Nat.le_of_ble_eq_true rfl) ⟨Nat.le_of_ble_eq_true rfl, Nat.le_of_ble_eq_true rfl, rfl, rfl⟩ (fun r22 σ23 h24 => ?_)
  obtain ⟨rfl, r22q⟩ := h24
  have r22z := r22q.b
  refine zr_if_eq hB dX9_isAsked_29 (tgt := 36) rfl (fun c25 => ?_) (fun c25 => ?_)
  · have q26 := r22q.f c25
    refine zr_iconst hB dX9_isAsked_36 rfl (fun c27 ec27 => ?_)
    exact zr_zret hG dX9_isAsked_37 (by omega) (by omega) ⟨rfl, zc_if.mf (by omega) (by omega)⟩
  have q28 := r22q.t c25
  refine zr_iconst hB dX9_isAsked_32 rfl (fun c29 ec29 => ?_)
  refine zr_goto hB dX9_isAsked_33 (tgt := 37) rfl ?_
  exact zr_zret hG dX9_isAsked_37 (by omega) (by omega) ⟨rfl, zc_if.mt (by omega) (by omega)⟩

def m_M_miss : zc_ms := [(14, none), (15, none)]
set_option maxHeartbeats 1000000 in
set_option maxRecDepth 100000 in
theorem c_M_miss (K : zc_K) (hi : zc_inj shM K.2.2.2.1) (σ0 : zc_S) (p1 : Int32) (p2 : Int32) (p3 : Int32) (p4 : Int32) (hO0 : zc_O okM σ0) (hT : zm_T σ0) : zc_M shM K yX9_miss cX9_miss 5 (some .int) (zrm 9 234) σ0 [.ref (zk K 0), .int p1, .int p2, .int p3, .int p4] (zc_I (fun r9 σ9 => zc_O okM σ9 ∧ zc_Ag m_M_miss σ0 σ9)) := by
  refine zc_start RX9 hi pfX9_miss rfl (Nat.le_of_ble_eq_true rfl) ?_
  intro G hG
  have hB := hG.1
  have hA0 : zc_Ag m_M_miss σ0 σ0 := zc_Ag.rf
  show zc_V 5 K G (zc_D shM K G σ0) [(0, .ref (zk K 0)), (1, .int p1), (2, .int p2), (3, .int p3), (4, .int p4)] 0 []
  have bw0_17 : 0 ≤ (σ0.1 0 17).toInt ∧ (σ0.1 0 17).toInt ≤ 6 := ⟨(hO0 0 17).1, (hO0 0 17).2.1⟩
  refine zr_aload_n hB 0 dX9_miss_0 rfl ?_
  refine zr_iload_n hB 1 dX9_miss_1 rfl ?_
  refine zr_iload_n hB 2 dX9_miss_2 rfl ?_
  refine zr_iload_n hB 3 dX9_miss_3 rfl ?_
  refine zr_iload hB 4 dX9_miss_4 rfl ?_
  refine zr_iload hB 4 dX9_miss_6 rfl ?_
  refine zr_callvi hG (rest := []) 0 dX9_miss_8 wm_X9_232 rfl rfl (c_M_isAsked K hG.2.2.2.2.2.1 σ0 p1 p2 p3 p4 p4 hO0 ) rfl rfl (Nat.le_of_ble_eq_true rfl) ⟨Nat.le_of_ble_eq_true rfl, Nat.le_of_ble_eq_true rfl, rfl, rfl⟩ (fun r1 σ2 h3 => ?_)
  obtain ⟨rfl, r1q⟩ := h3
  have r1z := r1q.b
  refine zr_if_ne hB dX9_miss_11 (tgt := 16) rfl (fun c4 => ?_) (fun c4 => ?_)
  · have q5 := r1q.t c4
    refine zr_aload_n hB 0 dX9_miss_16 rfl ?_
    refine zr_iload_n hB 1 dX9_miss_17 rfl ?_
    refine zr_iload_n hB 2 dX9_miss_18 rfl ?_
    refine zr_iload_n hB 3 dX9_miss_19 rfl ?_
    refine zr_iload hB 4 dX9_miss_20 rfl ?_
    refine zr_iload hB 4 dX9_miss_22 rfl ?_
    refine zr_callvn hG (rest := []) 0 dX9_miss_24 wm_X9_236 rfl rfl (c_M_layMisses K hG.2.2.2.2.2.1 σ0 p1 p2 p3 p4 p4 hO0 (by omega) (by omega) (by omega) (by omega) (by omega) (by omega) (by omega) (by omega) (by omega) (by omega) (by omega) hT) rfl rfl (Nat.le_of_ble_eq_true rfl) ⟨Nat.le_of_ble_eq_true rfl, Nat.le_of_ble_eq_true rfl, rfl, rfl⟩ (fun σ7 h8 => ?_)
    obtain ⟨hO9, hAc10⟩ := h8
    have hA11 := zc_Ag.tr hA0 hAc10 rfl
    have q12 : (σ7.1 0 17).toInt = (σ0.1 0 17).toInt := congrArg Int32.toInt (hAc10 0 17 rfl).1
    refine zr_aload_n hB 0 dX9_miss_27 rfl ?_
    refine zr_getr hG 0 26 dX9_miss_28 rfl wf_X9_53 rfl ?_
    refine zr_iload hB 4 dX9_miss_31 rfl ?_
    refine zr_zald hG 15 dX9_miss_33 rfl (by omega) (by omega) (fun x13 ex13 => ?_)
    have bx13 : 0 ≤ x13.toInt ∧ x13.toInt ≤ 1 := by rw [ex13]; exact ⟨(hO9 15 _).1, (hO9 15 _).2.1⟩
    refine zr_if_eq hB dX9_miss_34 (tgt := 50) rfl (fun c14 => ?_) (fun c14 => ?_)
    · refine zr_bipush hB dX9_miss_50 rfl (fun c15 ec15 => ?_)
      exact zr_iret hG dX9_miss_52 ⟨hO9, hA11⟩
    refine zr_aload_n hB 0 dX9_miss_37 rfl ?_
    refine zr_getr hG 0 25 dX9_miss_38 rfl wf_X9_50 rfl ?_
    refine zr_iload hB 4 dX9_miss_41 rfl ?_
    refine zr_iald hG 14 dX9_miss_43 rfl (by omega) (by omega) (fun x16 ex16 => ?_)
    have bx16 : (-999) ≤ x16.toInt ∧ x16.toInt ≤ 999 := by rw [ex16]; exact ⟨(hO9 14 _).1, (hO9 14 _).2.1⟩
    refine zr_callsi hG (rest := []) dX9_miss_44 wm_X9_240 (c_M_size K hG.2.2.2.2.2.1 σ7 x16 hO9 (by omega)) rfl rfl (Nat.le_of_ble_eq_true rfl) ⟨Nat.le_of_ble_eq_true rfl, Nat.le_of_ble_eq_true rfl, rfl, rfl⟩ (fun r17 σ18 h19 => ?_)
    obtain ⟨rfl, r17a, g20⟩ := h19
    refine zr_goto hB dX9_miss_47 (tgt := 52) rfl ?_
    exact zr_iret hG dX9_miss_52 ⟨hO9, hA11⟩
  have q21 := r1q.f c4
  refine zr_iconst hB dX9_miss_14 rfl (fun c22 ec22 => ?_)
  exact zr_iret hG dX9_miss_15 ⟨hO0, hA0⟩

set_option maxHeartbeats 1000000 in
set_option maxRecDepth 100000 in
theorem c_M_manyIn (K : zc_K) (hi : zc_inj shM K.2.2.2.1) (σ0 : zc_S) (p1 : Int32) (p2 : Int32) (hO0 : zc_O okM σ0) (h1a : 0 ≤ p1.toInt) (h1b : p1.toInt ≤ 63) (h2a : (-14) ≤ p2.toInt) (h2b : p2.toInt ≤ 63) : zc_M shM K yX9_manyIn cX9_manyIn 5 (some .int) (zrm 0 0) σ0 [.ref (zk K 0), .int p1, .int p2] (zc_I (fun r9 σ9 => σ0 = σ9 ∧ 0 ≤ r9.toInt ∧ r9.toInt ≤ 64 ∧ r9.toInt = zm_mn σ0 p1.toInt (p2.toInt + 1 - p1.toInt).toNat)) := by
  refine zc_start RX9 hi pfX9_manyIn rfl (Nat.le_of_ble_eq_true rfl) ?_
  intro G hG
  have hB := hG.1
  show zc_V 5 K G (zc_D shM K G σ0) [(0, .ref (zk K 0)), (1, .int p1), (2, .int p2)] 0 []
  refine zr_iconst hB dX9_manyIn_0 rfl (fun c1 ec1 => ?_)
  refine zr_istore_n hB dX9_manyIn_1 rfl (by decide) (lv' := [(3, .int c1), (0, .ref (zk K 0)), (1, .int p1), (2, .int p2)]) rfl ?_
  refine zr_iload_n hB 2 dX9_manyIn_2 rfl ?_
  refine zr_istore hB dX9_manyIn_3 (by decide) (lv' := [(4, .int p1), (3, .int c1), (0, .ref (zk K 0)), (1, .int p1), (2, .int p2)]) rfl ?_
  have L5_7 : ∀ (n5 : Nat) (y3_2 : Int32) (y4_3 : Int32), 0 ≤ y3_2.toInt → y3_2.toInt ≤ 64 → 0 ≤ y4_3.toInt → y4_3.toInt ≤ 64 → y3_2.toInt ≤ y4_3.toInt → p1.toInt ≤ y4_3.toInt → ((y4_3.toInt = p1.toInt ∨ y4_3.toInt ≤ p2.toInt + 1)) → y3_2.toInt = zm_mn σ0 p1.toInt (y4_3.toInt - p1.toInt).toNat → 64 - y4_3.toInt < (n5 : Int) → zc_V 5 K G (zc_D shM K G σ0) [(0, .ref (zk K 0)), (1, .int p1), (2, .int p2), (3, .int y3_2), (4, .int y4_3)] 5 [] := by
    intro n5
    induction n5 with
    | zero => intro y3_2 y4_3 y3_2a y3_2b y4_3a y4_3b e4 e5 e6 hcn hn5; exfalso; omega
    | succ n5 ih5 =>
      intro y3_2 y4_3 y3_2a y3_2b y4_3a y4_3b e4 e5 e6 hcn hn5
      refine zr_iload hB 4 dX9_manyIn_5 rfl ?_
      refine zr_iload_n hB 2 dX9_manyIn_7 rfl ?_
      refine zr_icmp_gt hB dX9_manyIn_8 (tgt := 35) rfl (fun c8 => ?_) (fun c8 => ?_)
      · refine zr_iload_n hB 3 dX9_manyIn_35 rfl ?_
        exact zr_iret hG dX9_manyIn_36 ⟨rfl, by omega, by omega, (show y3_2.toInt = zm_mn σ0 p1.toInt (p2.toInt + 1 - p1.toInt).toNat by rw [hcn, show (p2.toInt + 1 - p1.toInt).toNat = (y4_3.toInt - p1.toInt).toNat by omega])⟩
      refine zr_iload_n hB 3 dX9_manyIn_11 rfl ?_
      refine zr_aload_n hB 0 dX9_manyIn_12 rfl ?_
      refine zr_getr hG 0 26 dX9_manyIn_13 rfl wf_X9_53 rfl ?_
      refine zr_iload hB 4 dX9_manyIn_16 rfl ?_
      refine zr_zald hG 15 dX9_manyIn_18 rfl (by omega) (by omega) (fun x9 ex9 => ?_)
      have bx9 : 0 ≤ x9.toInt ∧ x9.toInt ≤ 1 := by rw [ex9]; exact ⟨(hO0 15 _).1, (hO0 15 _).2.1⟩
      refine zr_if_eq hB dX9_manyIn_19 (tgt := 26) rfl (fun c10 => ?_) (fun c10 => ?_)
      · refine zr_iconst hB dX9_manyIn_26 rfl (fun c11 ec11 => ?_)
        refine zr_iadd hB dX9_manyIn_27 (by omega) (by omega) (fun x12 ex12 => ?_)
        refine zr_istore_n hB dX9_manyIn_28 rfl (by decide) (lv' := [(3, .int x12), (0, .ref (zk K 0)), (1, .int p1), (2, .int p2), (4, .int y4_3)]) rfl ?_
        refine zr_iinc hB 4 dX9_manyIn_29 rfl (by decide) rfl (by omega) (by omega) (fun x13 ex13 lv' hlv => ?_)
        obtain rfl : [(4, .int x13), (3, .int x12), (0, .ref (zk K 0)), (1, .int p1), (2, .int p2)] = lv' := hlv
        refine zr_goto hB dX9_manyIn_32 (tgt := 5) rfl ?_
        exact zc_sub [2, 3, 4, 1, 0] rfl (ih5 x12 x13 (by omega) (by omega) (by omega) (by omega) (show x12.toInt ≤ x13.toInt by omega) (show p1.toInt ≤ x13.toInt by omega) (show (x13.toInt = p1.toInt ∨ x13.toInt ≤ p2.toInt + 1) by omega) (show x12.toInt = zm_mn σ0 p1.toInt (x13.toInt - p1.toInt).toNat by rw [zm_mn_s σ0 p1.toInt (n := (y4_3.toInt - p1.toInt).toNat) (by omega), show (p1.toInt + ((y4_3.toInt - p1.toInt).toNat : Int)).toNat = y4_3.toInt.toNat by omega, ← ex9]; split <;> omega) (by omega))
      refine zr_iconst hB dX9_manyIn_22 rfl (fun c14 ec14 => ?_)
      refine zr_goto hB dX9_manyIn_23 (tgt := 27) rfl ?_
      refine zr_iadd hB dX9_manyIn_27 (by omega) (by omega) (fun x15 ex15 => ?_)
      refine zr_istore_n hB dX9_manyIn_28 rfl (by decide) (lv' := [(3, .int x15), (0, .ref (zk K 0)), (1, .int p1), (2, .int p2), (4, .int y4_3)]) rfl ?_
      refine zr_iinc hB 4 dX9_manyIn_29 rfl (by decide) rfl (by omega) (by omega) (fun x16 ex16 lv' hlv => ?_)
      obtain rfl : [(4, .int x16), (3, .int x15), (0, .ref (zk K 0)), (1, .int p1), (2, .int p2)] = lv' := hlv
      refine zr_goto hB dX9_manyIn_32 (tgt := 5) rfl ?_
      exact zc_sub [2, 3, 4, 1, 0] rfl (ih5 x15 x16 (by omega) (by omega) (by omega) (by omega) (show x15.toInt ≤ x16.toInt by omega) (show p1.toInt ≤ x16.toInt by omega) (show (x16.toInt = p1.toInt ∨ x16.toInt ≤ p2.toInt + 1) by omega) (show x15.toInt = zm_mn σ0 p1.toInt (x16.toInt - p1.toInt).toNat by rw [zm_mn_s σ0 p1.toInt (n := (y4_3.toInt - p1.toInt).toNat) (by omega), show (p1.toInt + ((y4_3.toInt - p1.toInt).toNat : Int)).toNat = y4_3.toInt.toNat by omega, ← ex9]; split <;> omega) (by omega))
  exact zc_sub [2, 3, 4, 1, 0] rfl (L5_7 66 c1 p1 (by omega) (by omega) (by omega) (by omega) (show c1.toInt ≤ p1.toInt by omega) (show p1.toInt ≤ p1.toInt by omega) (show (p1.toInt = p1.toInt ∨ p1.toInt ≤ p2.toInt + 1) by omega) (show c1.toInt = zm_mn σ0 p1.toInt (p1.toInt - p1.toInt).toNat by rw [show (p1.toInt - p1.toInt).toNat = 0 by omega]; show c1.toInt = 0; omega) (by omega))

set_option maxHeartbeats 1000000 in
set_option maxRecDepth 100000 in
theorem c_M_sumIn (K : zc_K) (hi : zc_inj shM K.2.2.2.1) (σ0 : zc_S) (p1 : Int32) (p2 : Int32) (hO0 : zc_O okM σ0) (h1a : 0 ≤ p1.toInt) (h1b : p1.toInt ≤ 63) (h2a : (-14) ≤ p2.toInt) (h2b : p2.toInt ≤ 63) : zc_M shM K yX9_sumIn cX9_sumIn 5 (some .int) (zrm 1 20) σ0 [.ref (zk K 0), .int p1, .int p2] (zc_I (fun r9 σ9 => σ0 = σ9)) := by
  refine zc_start RX9 hi pfX9_sumIn rfl (Nat.le_of_ble_eq_true rfl) ?_
  intro G hG
  have hB := hG.1
  show zc_V 5 K G (zc_D shM K G σ0) [(0, .ref (zk K 0)), (1, .int p1), (2, .int p2)] 0 []
  refine zr_iconst hB dX9_sumIn_0 rfl (fun c1 ec1 => ?_)
  refine zr_istore_n hB dX9_sumIn_1 rfl (by decide) (lv' := [(3, .int c1), (0, .ref (zk K 0)), (1, .int p1), (2, .int p2)]) rfl ?_
  refine zr_iload_n hB 2 dX9_sumIn_2 rfl ?_
  refine zr_istore hB dX9_sumIn_3 (by decide) (lv' := [(4, .int p1), (3, .int c1), (0, .ref (zk K 0)), (1, .int p1), (2, .int p2)]) rfl ?_
  have L5_4 : ∀ (n5 : Nat) (y3_2 : Int32) (y4_3 : Int32), 0 ≤ y4_3.toInt → y4_3.toInt ≤ 64 → 64 - y4_3.toInt < (n5 : Int) → zc_V 5 K G (zc_D shM K G σ0) [(0, .ref (zk K 0)), (1, .int p1), (2, .int p2), (3, .int y3_2), (4, .int y4_3)] 5 [] := by
    intro n5
    induction n5 with
    | zero => intro y3_2 y4_3 y4_3a y4_3b hn5; have vy3_2 := And.intro (zn_lo y3_2) (zn_hi y3_2); exfalso; omega
    | succ n5 ih5 =>
      intro y3_2 y4_3 y4_3a y4_3b hn5
      have vy3_2 := And.intro (zn_lo y3_2) (zn_hi y3_2)
      refine zr_iload hB 4 dX9_sumIn_5 rfl ?_
      refine zr_iload_n hB 2 dX9_sumIn_7 rfl ?_
      refine zr_icmp_gt hB dX9_sumIn_8 (tgt := 30) rfl (fun c5 => ?_) (fun c5 => ?_)
      · refine zr_iload_n hB 3 dX9_sumIn_30 rfl ?_
        exact zr_iret hG dX9_sumIn_31 rfl
      refine zr_iload_n hB 3 dX9_sumIn_11 rfl ?_
      refine zr_aload_n hB 0 dX9_sumIn_12 rfl ?_
      refine zr_getr hG 0 25 dX9_sumIn_13 rfl wf_X9_50 rfl ?_
      refine zr_iload hB 4 dX9_sumIn_16 rfl ?_
      refine zr_iald hG 14 dX9_sumIn_18 rfl (by omega) (by omega) (fun x6 ex6 => ?_)
      have bx6 : (-999) ≤ x6.toInt ∧ x6.toInt ≤ 999 := by rw [ex6]; exact ⟨(hO0 14 _).1, (hO0 14 _).2.1⟩
      refine zr_callsi hG (rest := [.int y3_2]) dX9_sumIn_19 wm_X9_240 (c_M_size K hG.2.2.2.2.2.1 σ0 x6 hO0 (by omega)) rfl rfl (Nat.le_of_ble_eq_true rfl) ⟨Nat.le_of_ble_eq_true rfl, Nat.le_of_ble_eq_true rfl, rfl, rfl⟩ (fun r7 σ8 h9 => ?_)
      obtain ⟨rfl, r7a, g10⟩ := h9
      refine zr_iaddw hB dX9_sumIn_22 (fun x11 ex11 => ?_)
      refine zr_istore_n hB dX9_sumIn_23 rfl (by decide) (lv' := [(3, .int x11), (0, .ref (zk K 0)), (1, .int p1), (2, .int p2), (4, .int y4_3)]) rfl ?_
      refine zr_iinc hB 4 dX9_sumIn_24 rfl (by decide) rfl (by omega) (by omega) (fun x12 ex12 lv' hlv => ?_)
      obtain rfl : [(4, .int x12), (3, .int x11), (0, .ref (zk K 0)), (1, .int p1), (2, .int p2)] = lv' := hlv
      refine zr_goto hB dX9_sumIn_27 (tgt := 5) rfl ?_
      exact zc_sub [2, 3, 4, 1, 0] rfl (ih5 x11 x12 (by omega) (by omega) (by omega))
  exact zc_sub [2, 3, 4, 1, 0] rfl (L5_4 66 c1 p1 (by omega) (by omega) (by omega))

set_option maxHeartbeats 1000000 in
set_option maxRecDepth 100000 in
theorem c_M_within (K : zc_K) (hi : zc_inj shM K.2.2.2.1) (σ0 : zc_S) (p1 : Int32) (p2 : Int32) (p3 : Int32) (hO0 : zc_O okM σ0) (h1a : 0 ≤ p1.toInt) (h1b : p1.toInt ≤ 63) (h2a : (-14) ≤ p2.toInt) (h2b : p2.toInt ≤ 63) : zc_M shM K yX9_within cX9_within 6 (some .int) (zrm 1 20) σ0 [.ref (zk K 0), .int p1, .int p2, .int p3] (zc_I (fun r9 σ9 => σ0 = σ9 ∧ 0 ≤ r9.toInt ∧ r9.toInt ≤ 64 ∧ (p3.toInt < 999 ∨ r9.toInt = zm_mn σ0 p1.toInt (p2.toInt + 1 - p1.toInt).toNat))) := by
  refine zc_start RX9 hi pfX9_within rfl (Nat.le_of_ble_eq_true rfl) ?_
  intro G hG
  have hB := hG.1
  show zc_V 6 K G (zc_D shM K G σ0) [(0, .ref (zk K 0)), (1, .int p1), (2, .int p2), (3, .int p3)] 0 []
  refine zr_iconst hB dX9_within_0 rfl (fun c1 ec1 => ?_)
  refine zr_istore hB dX9_within_1 (by decide) (lv' := [(4, .int c1), (0, .ref (zk K 0)), (1, .int p1), (2, .int p2), (3, .int p3)]) rfl ?_
  refine zr_iload_n hB 2 dX9_within_3 rfl ?_
  refine zr_istore hB dX9_within_4 (by decide) (lv' := [(5, .int p1), (4, .int c1), (0, .ref (zk K 0)), (1, .int p1), (2, .int p2), (3, .int p3)]) rfl ?_
  have L6_7 : ∀ (n6 : Nat) (y4_2 : Int32) (y5_3 : Int32), 0 ≤ y4_2.toInt → y4_2.toInt ≤ 64 → 0 ≤ y5_3.toInt → y5_3.toInt ≤ 64 → y4_2.toInt ≤ y5_3.toInt → p1.toInt ≤ y5_3.toInt → ((y5_3.toInt = p1.toInt ∨ y5_3.toInt ≤ p2.toInt + 1)) → ((p3.toInt < 999 ∨ y4_2.toInt = zm_mn σ0 p1.toInt (y5_3.toInt - p1.toInt).toNat)) → 64 - y5_3.toInt < (n6 : Int) → zc_V 6 K G (zc_D shM K G σ0) [(0, .ref (zk K 0)), (1, .int p1), (2, .int p2), (3, .int p3), (4, .int y4_2), (5, .int y5_3)] 6 [] := by
    intro n6
    induction n6 with
    | zero => intro y4_2 y5_3 y4_2a y4_2b y5_3a y5_3b e4 e5 e6 hcn hn6; exfalso; omega
    | succ n6 ih6 =>
      intro y4_2 y5_3 y4_2a y4_2b y5_3a y5_3b e4 e5 e6 hcn hn6
      refine zr_iload hB 5 dX9_within_6 rfl ?_
      refine zr_iload_n hB 2 dX9_within_8 rfl ?_
      refine zr_icmp_gt hB dX9_within_9 (tgt := 52) rfl (fun c8 => ?_) (fun c8 => ?_)
      · refine zr_iload hB 4 dX9_within_52 rfl ?_
        exact zr_iret hG dX9_within_54 ⟨rfl, by omega, by omega, (show p3.toInt < 999 ∨ y4_2.toInt = zm_mn σ0 p1.toInt (p2.toInt + 1 - p1.toInt).toNat by rw [show (p2.toInt + 1 - p1.toInt).toNat = (y5_3.toInt - p1.toInt).toNat by omega]; exact hcn)⟩
      refine zr_iload hB 4 dX9_within_12 rfl ?_
      refine zr_aload_n hB 0 dX9_within_14 rfl ?_
      refine zr_getr hG 0 26 dX9_within_15 rfl wf_X9_53 rfl ?_
      refine zr_iload hB 5 dX9_within_18 rfl ?_
      refine zr_zald hG 15 dX9_within_20 rfl (by omega) (by omega) (fun x9 ex9 => ?_)
      have bx9 : 0 ≤ x9.toInt ∧ x9.toInt ≤ 1 := by rw [ex9]; exact ⟨(hO0 15 _).1, (hO0 15 _).2.1⟩
      refine zr_if_eq hB dX9_within_21 (tgt := 42) rfl (fun c10 => ?_) (fun c10 => ?_)
      · refine zr_iconst hB dX9_within_42 rfl (fun c11 ec11 => ?_)
        refine zr_iadd hB dX9_within_43 (by omega) (by omega) (fun x12 ex12 => ?_)
        refine zr_istore hB dX9_within_44 (by decide) (lv' := [(4, .int x12), (0, .ref (zk K 0)), (1, .int p1), (2, .int p2), (3, .int p3), (5, .int y5_3)]) rfl ?_
        refine zr_iinc hB 5 dX9_within_46 rfl (by decide) rfl (by omega) (by omega) (fun x13 ex13 lv' hlv => ?_)
        obtain rfl : [(5, .int x13), (4, .int x12), (0, .ref (zk K 0)), (1, .int p1), (2, .int p2), (3, .int p3)] = lv' := hlv
        refine zr_goto hB dX9_within_49 (tgt := 6) rfl ?_
        exact zc_sub [2, 3, 4, 5, 1, 0] rfl (ih6 x12 x13 (by omega) (by omega) (by omega) (by omega) (show x12.toInt ≤ x13.toInt by omega) (show p1.toInt ≤ x13.toInt by omega) (show (x13.toInt = p1.toInt ∨ x13.toInt ≤ p2.toInt + 1) by omega) (show (p3.toInt < 999 ∨ x12.toInt = zm_mn σ0 p1.toInt (x13.toInt - p1.toInt).toNat) by rcases hcn with hcn | hcn; (left; exact hcn); by_cases hw9 : p3.toInt < 999; (left; exact hw9); right; rw [zm_mn_s σ0 p1.toInt (n := (y5_3.toInt - p1.toInt).toNat) (by omega), show (p1.toInt + ((y5_3.toInt - p1.toInt).toNat : Int)).toNat = y5_3.toInt.toNat by omega, ← ex9]; split <;> omega) (by omega))
      refine zr_aload_n hB 0 dX9_within_24 rfl ?_
      refine zr_getr hG 0 25 dX9_within_25 rfl wf_X9_50 rfl ?_
      refine zr_iload hB 5 dX9_within_28 rfl ?_
      refine zr_iald hG 14 dX9_within_30 rfl (by omega) (by omega) (fun x14 ex14 => ?_)
      have bx14 : (-999) ≤ x14.toInt ∧ x14.toInt ≤ 999 := by rw [ex14]; exact ⟨(hO0 14 _).1, (hO0 14 _).2.1⟩
      refine zr_callsi hG (rest := [.int y4_2]) dX9_within_31 wm_X9_240 (c_M_size K hG.2.2.2.2.2.1 σ0 x14 hO0 (by omega)) rfl rfl (Nat.le_of_ble_eq_true rfl) ⟨Nat.le_of_ble_eq_true rfl, Nat.le_of_ble_eq_true rfl, rfl, rfl⟩ (fun r15 σ16 h17 => ?_)
      obtain ⟨rfl, r15a, g18⟩ := h17
      refine zr_iload_n hB 3 dX9_within_34 rfl ?_
      refine zr_icmp_gt hB dX9_within_35 (tgt := 42) rfl (fun c19 => ?_) (fun c19 => ?_)
      · refine zr_iconst hB dX9_within_42 rfl (fun c20 ec20 => ?_)
        refine zr_iadd hB dX9_within_43 (by omega) (by omega) (fun x21 ex21 => ?_)
        refine zr_istore hB dX9_within_44 (by decide) (lv' := [(4, .int x21), (0, .ref (zk K 0)), (1, .int p1), (2, .int p2), (3, .int p3), (5, .int y5_3)]) rfl ?_
        refine zr_iinc hB 5 dX9_within_46 rfl (by decide) rfl (by omega) (by omega) (fun x22 ex22 lv' hlv => ?_)
        obtain rfl : [(5, .int x22), (4, .int x21), (0, .ref (zk K 0)), (1, .int p1), (2, .int p2), (3, .int p3)] = lv' := hlv
        refine zr_goto hB dX9_within_49 (tgt := 6) rfl ?_
        exact zc_sub [2, 3, 4, 5, 1, 0] rfl (ih6 x21 x22 (by omega) (by omega) (by omega) (by omega) (show x21.toInt ≤ x22.toInt by omega) (show p1.toInt ≤ x22.toInt by omega) (show (x22.toInt = p1.toInt ∨ x22.toInt ≤ p2.toInt + 1) by omega) (show (p3.toInt < 999 ∨ x21.toInt = zm_mn σ0 p1.toInt (x22.toInt - p1.toInt).toNat) by rcases hcn with hcn | hcn; (left; exact hcn); by_cases hw9 : p3.toInt < 999; (left; exact hw9); right; rw [zm_mn_s σ0 p1.toInt (n := (y5_3.toInt - p1.toInt).toNat) (by omega), show (p1.toInt + ((y5_3.toInt - p1.toInt).toNat : Int)).toNat = y5_3.toInt.toNat by omega, ← ex9]; split <;> omega) (by omega))
      refine zr_iconst hB dX9_within_38 rfl (fun c23 ec23 => ?_)
      refine zr_goto hB dX9_within_39 (tgt := 43) rfl ?_
      refine zr_iadd hB dX9_within_43 (by omega) (by omega) (fun x24 ex24 => ?_)
      refine zr_istore hB dX9_within_44 (by decide) (lv' := [(4, .int x24), (0, .ref (zk K 0)), (1, .int p1), (2, .int p2), (3, .int p3), (5, .int y5_3)]) rfl ?_
      refine zr_iinc hB 5 dX9_within_46 rfl (by decide) rfl (by omega) (by omega) (fun x25 ex25 lv' hlv => ?_)
      obtain rfl : [(5, .int x25), (4, .int x24), (0, .ref (zk K 0)), (1, .int p1), (2, .int p2), (3, .int p3)] = lv' := hlv
      refine zr_goto hB dX9_within_49 (tgt := 6) rfl ?_
      exact zc_sub [2, 3, 4, 5, 1, 0] rfl (ih6 x24 x25 (by omega) (by omega) (by omega) (by omega) (show x24.toInt ≤ x25.toInt by omega) (show p1.toInt ≤ x25.toInt by omega) (show (x25.toInt = p1.toInt ∨ x25.toInt ≤ p2.toInt + 1) by omega) (show (p3.toInt < 999 ∨ x24.toInt = zm_mn σ0 p1.toInt (x25.toInt - p1.toInt).toNat) by rcases hcn with hcn | hcn; (left; exact hcn); by_cases hw9 : p3.toInt < 999; (left; exact hw9); right; rw [zm_mn_s σ0 p1.toInt (n := (y5_3.toInt - p1.toInt).toNat) (by omega), show (p1.toInt + ((y5_3.toInt - p1.toInt).toNat : Int)).toNat = y5_3.toInt.toNat by omega, ← ex9]; split <;> omega) (by omega))
  exact zc_sub [2, 3, 4, 5, 1, 0] rfl (L6_7 66 c1 p1 (by omega) (by omega) (by omega) (by omega) (show c1.toInt ≤ p1.toInt by omega) (show p1.toInt ≤ p1.toInt by omega) (show (p1.toInt = p1.toInt ∨ p1.toInt ≤ p2.toInt + 1) by omega) (show (p3.toInt < 999 ∨ c1.toInt = zm_mn σ0 p1.toInt (p1.toInt - p1.toInt).toNat) by rw [show (p1.toInt - p1.toInt).toNat = 0 by omega]; right; show c1.toInt = 0; omega) (by omega))

set_option maxHeartbeats 1000000 in
set_option maxRecDepth 100000 in
theorem c_M_spanOf (K : zc_K) (hi : zc_inj shM K.2.2.2.1) (σ0 : zc_S) (p1 : Int32) (p2 : Int32) (p3 : Int32) (hO0 : zc_O okM σ0) (h1a : 0 ≤ p1.toInt) (h1b : p1.toInt ≤ 63) (h2a : (-14) ≤ p2.toInt) (h2b : p2.toInt ≤ 63) (h3a : 1 ≤ p3.toInt) (h3b : p3.toInt ≤ 100) : zc_M shM K yX9_spanOf cX9_spanOf 6 (some .int) (zrm 2 45) σ0 [.ref (zk K 0), .int p1, .int p2, .int p3] (zc_I (fun r9 σ9 => σ0 = σ9 ∧ 0 ≤ r9.toInt ∧ r9.toInt ≤ 999)) := by
  refine zc_start RX9 hi pfX9_spanOf rfl (Nat.le_of_ble_eq_true rfl) ?_
  intro G hG
  have hB := hG.1
  show zc_V 6 K G (zc_D shM K G σ0) [(0, .ref (zk K 0)), (1, .int p1), (2, .int p2), (3, .int p3)] 0 []
  refine zr_aload_n hB 0 dX9_spanOf_0 rfl ?_
  refine zr_iload_n hB 1 dX9_spanOf_1 rfl ?_
  refine zr_iload_n hB 2 dX9_spanOf_2 rfl ?_
  refine zr_callvi hG (rest := []) 0 dX9_spanOf_3 wm_X9_243 rfl rfl (c_M_manyIn K hG.2.2.2.2.2.1 σ0 p1 p2 hO0 (by omega) (by omega) (by omega) (by omega)) rfl rfl (Nat.le_of_ble_eq_true rfl) ⟨Nat.le_of_ble_eq_true rfl, Nat.le_of_ble_eq_true rfl, rfl, rfl⟩ (fun r1 σ2 h3 => ?_)
  obtain ⟨rfl, r1a, r1b, g4⟩ := h3
  refine zr_istore hB dX9_spanOf_6 (by decide) (lv' := [(4, .int r1), (0, .ref (zk K 0)), (1, .int p1), (2, .int p2), (3, .int p3)]) rfl ?_
  refine zr_iconst hB dX9_spanOf_8 rfl (fun c5 ec5 => ?_)
  refine zr_istore hB dX9_spanOf_9 (by decide) (lv' := [(5, .int c5), (4, .int r1), (0, .ref (zk K 0)), (1, .int p1), (2, .int p2), (3, .int p3)]) rfl ?_
  have L11_7 : ∀ (n11 : Nat) (y5_6 : Int32), 0 ≤ y5_6.toInt → y5_6.toInt ≤ 999 → 999 - y5_6.toInt < (n11 : Int) → zc_V 6 K G (zc_D shM K G σ0) [(0, .ref (zk K 0)), (1, .int p1), (2, .int p2), (3, .int p3), (4, .int r1), (5, .int y5_6)] 11 [] := by
    intro n11
    induction n11 with
    | zero => intro y5_6 y5_6a y5_6b hn11; exfalso; omega
    | succ n11 ih11 =>
      intro y5_6 y5_6a y5_6b hn11
      refine zr_bipush hB dX9_spanOf_11 rfl (fun c8 ec8 => ?_)
      refine zr_aload_n hB 0 dX9_spanOf_13 rfl ?_
      refine zr_iload_n hB 1 dX9_spanOf_14 rfl ?_
      refine zr_iload_n hB 2 dX9_spanOf_15 rfl ?_
      refine zr_iload hB 5 dX9_spanOf_16 rfl ?_
      refine zr_callvi hG (rest := [.int c8]) 0 dX9_spanOf_18 wm_X9_251 rfl rfl (c_M_within K hG.2.2.2.2.2.1 σ0 p1 p2 y5_6 hO0 (by omega) (by omega) (by omega) (by omega)) rfl rfl (Nat.le_of_ble_eq_true rfl) ⟨Nat.le_of_ble_eq_true rfl, Nat.le_of_ble_eq_true rfl, rfl, rfl⟩ (fun r9 σ10 h11 => ?_)
      obtain ⟨rfl, r9a, r9b, g12⟩ := h11
      refine zr_imuld hB dX9_spanOf_21 ec8 (by omega) (by omega) (fun x13 ex13 => ?_)
      refine zr_iload_n hB 3 dX9_spanOf_22 rfl ?_
      refine zr_iload hB 4 dX9_spanOf_23 rfl ?_
      refine zr_imulb hB dX9_spanOf_25 (A := 100) (B := 64) (by omega) (by omega) (by omega) (by omega) (by decide) (fun x14 ex14 ex14a ex14b ex14c ex14d => ?_)
      refine zr_icmp_ge hB dX9_spanOf_26 (tgt := 35) rfl (fun c15 => ?_) (fun c15 => ?_)
      · refine zr_iload hB 5 dX9_spanOf_35 rfl ?_
        exact zr_iret hG dX9_spanOf_37 ⟨rfl, by omega, by omega⟩
      refine zr_iinc hB 5 dX9_spanOf_29 rfl (by decide) rfl (by omega) (by omega) (fun x16 ex16 lv' hlv => ?_)
      obtain rfl : [(5, .int x16), (0, .ref (zk K 0)), (1, .int p1), (2, .int p2), (3, .int p3), (4, .int r1)] = lv' := hlv
      refine zr_goto hB dX9_spanOf_32 (tgt := 11) rfl ?_
      exact zc_sub [1, 2, 3, 4, 5, 0] rfl (ih11 x16 (by omega) (by omega) (by omega))
  exact zc_sub [2, 3, 4, 5, 1, 0] rfl (L11_7 1001 c5 (by omega) (by omega) (by omega))

def m_M_misses : zc_ms := [(14, none), (15, none)]
set_option maxHeartbeats 1000000 in
set_option maxRecDepth 100000 in
theorem c_M_misses (K : zc_K) (hi : zc_inj shM K.2.2.2.1) (σ0 : zc_S) (p1 : Int32) (p2 : Int32) (p3 : Int32) (p4 : Int32) (p5 : Int32) (p6 : Int32) (hO0 : zc_O okM σ0) (hT : zm_T σ0) : zc_M shM K yX9_misses cX9_misses 10 (some .int) (zrm 9 234) σ0 [.ref (zk K 0), .int p1, .int p2, .int p3, .int p4, .int p5, .int p6] (zc_I (fun r9 σ9 => zc_O okM σ9 ∧ zc_Ag m_M_misses σ0 σ9)) := by
  refine zc_start RX9 hi pfX9_misses rfl (Nat.le_of_ble_eq_true rfl) ?_
  intro G hG
  have hB := hG.1
  have hA0 : zc_Ag m_M_misses σ0 σ0 := zc_Ag.rf
  show zc_V 10 K G (zc_D shM K G σ0) [(0, .ref (zk K 0)), (1, .int p1), (2, .int p2), (3, .int p3), (4, .int p4), (5, .int p5), (6, .int p6)] 0 []
  have bw0_17 : 0 ≤ (σ0.1 0 17).toInt ∧ (σ0.1 0 17).toInt ≤ 6 := ⟨(hO0 0 17).1, (hO0 0 17).2.1⟩
  refine zr_aload_n hB 0 dX9_misses_0 rfl ?_
  refine zr_iload_n hB 1 dX9_misses_1 rfl ?_
  refine zr_iload_n hB 2 dX9_misses_2 rfl ?_
  refine zr_iload_n hB 3 dX9_misses_3 rfl ?_
  refine zr_iload hB 4 dX9_misses_4 rfl ?_
  refine zr_iload hB 5 dX9_misses_6 rfl ?_
  refine zr_callvi hG (rest := []) 0 dX9_misses_8 wm_X9_232 rfl rfl (c_M_isAsked K hG.2.2.2.2.2.1 σ0 p1 p2 p3 p4 p5 hO0 ) rfl rfl (Nat.le_of_ble_eq_true rfl) ⟨Nat.le_of_ble_eq_true rfl, Nat.le_of_ble_eq_true rfl, rfl, rfl⟩ (fun r1 σ2 h3 => ?_)
  obtain ⟨rfl, r1q⟩ := h3
  have r1z := r1q.b
  refine zr_if_eq hB dX9_misses_11 (tgt := 27) rfl (fun c4 => ?_) (fun c4 => ?_)
  · have q5 := r1q.f c4
    refine zr_iconst hB dX9_misses_27 rfl (fun c6 ec6 => ?_)
    exact zr_iret hG dX9_misses_28 ⟨hO0, hA0⟩
  have q7 := r1q.t c4
  refine zr_iload hB 6 dX9_misses_14 rfl ?_
  have v9 := And.intro (zn_lo p6) (zn_hi p6)
  refine zr_i2l hB dX9_misses_16 (fun l8 el8 => ?_)
  refine zr_lconst hB dX9_misses_17 (m := 0) rfl (fun c10 ec10 => ?_)
  refine zr_ldc2 hB dX9_misses_18 wc_X9_89 (n := 3) rfl (fun c11 ec11 => ?_)
  refine zr_callsi hG (rest := []) dX9_misses_21 wm_X9_91 (c_M_in K hG.2.2.2.2.2.1 σ0 l8 c10 c11 hO0 ) rfl rfl (Nat.le_of_ble_eq_true rfl) ⟨Nat.le_of_ble_eq_true rfl, Nat.le_of_ble_eq_true rfl, rfl, rfl⟩ (fun r12 σ13 h14 => ?_)
  obtain ⟨rfl, r12q⟩ := h14
  have r12z := r12q.b
  refine zr_if_ne hB dX9_misses_24 (tgt := 29) rfl (fun c15 => ?_) (fun c15 => ?_)
  · have q16 := r12q.t c15
    refine zr_aload_n hB 0 dX9_misses_29 rfl ?_
    refine zr_iload_n hB 1 dX9_misses_30 rfl ?_
    refine zr_iload_n hB 2 dX9_misses_31 rfl ?_
    refine zr_iload_n hB 3 dX9_misses_32 rfl ?_
    refine zr_iload hB 4 dX9_misses_33 rfl ?_
    refine zr_iload hB 5 dX9_misses_35 rfl ?_
    refine zr_callvn hG (rest := []) 0 dX9_misses_37 wm_X9_236 rfl rfl (c_M_layMisses K hG.2.2.2.2.2.1 σ0 p1 p2 p3 p4 p5 hO0 (by omega) (by omega) (by omega) (by omega) (by omega) (by omega) (by omega) (by omega) (by omega) (by omega) (by omega) hT) rfl rfl (Nat.le_of_ble_eq_true rfl) ⟨Nat.le_of_ble_eq_true rfl, Nat.le_of_ble_eq_true rfl, rfl, rfl⟩ (fun σ18 h19 => ?_)
    obtain ⟨hO20, hAc21⟩ := h19
    have hA22 := zc_Ag.tr hA0 hAc21 rfl
    have q23 : (σ18.1 0 17).toInt = (σ0.1 0 17).toInt := congrArg Int32.toInt (hAc21 0 17 rfl).1
    refine zr_bipush hB dX9_misses_40 rfl (fun c24 ec24 => ?_)
    refine zr_istore hB dX9_misses_42 (by decide) (lv' := [(7, .int c24), (0, .ref (zk K 0)), (1, .int p1), (2, .int p2), (3, .int p3), (4, .int p4), (5, .int p5), (6, .int p6)]) rfl ?_
    refine zr_bipush hB dX9_misses_44 rfl (fun c25 ec25 => ?_)
    refine zr_istore hB dX9_misses_46 (by decide) (lv' := [(8, .int c25), (7, .int c24), (0, .ref (zk K 0)), (1, .int p1), (2, .int p2), (3, .int p3), (4, .int p4), (5, .int p5), (6, .int p6)]) rfl ?_
    refine zr_iload hB 6 dX9_misses_48 rfl ?_
    refine zr_istore hB dX9_misses_50 (by decide) (lv' := [(9, .int p4), (8, .int c25), (7, .int c24), (0, .ref (zk K 0)), (1, .int p1), (2, .int p2), (3, .int p3), (4, .int p4), (5, .int p5), (6, .int p6)]) rfl ?_
    have L52_29 : ∀ (n52 : Nat) (y7_26 : Int32) (y8_27 : Int32) (y9_28 : Int32), (-4) ≤ y7_26.toInt → y7_26.toInt ≤ 999 → (-4) ≤ y8_27.toInt → y8_27.toInt ≤ 63 → 0 ≤ y9_28.toInt → y9_28.toInt ≤ 64 → 64 - y9_28.toInt < (n52 : Int) → zc_V 10 K G (zc_D shM K G σ18) [(0, .ref (zk K 0)), (1, .int p1), (2, .int p2), (3, .int p3), (4, .int p4), (5, .int p5), (6, .int p6), (7, .int y7_26), (8, .int y8_27), (9, .int y9_28)] 52 [] := by
      intro n52
      induction n52 with
      | zero => intro y7_26 y8_27 y9_28 y7_26a y7_26b y8_27a y8_27b y9_28a y9_28b hn52; exfalso; omega
      | succ n52 ih52 =>
        intro y7_26 y8_27 y9_28 y7_26a y7_26b y8_27a y8_27b y9_28a y9_28b hn52
        refine zr_iload hB 9 dX9_misses_52 rfl ?_
        refine zr_iload hB 5 dX9_misses_54 rfl ?_
        refine zr_icmp_gt hB dX9_misses_56 (tgt := 106) rfl (fun c30 => ?_) (fun c30 => ?_)
        · refine zr_iload hB 6 dX9_misses_106 rfl ?_
          refine zr_if_ne hB dX9_misses_108 (tgt := 122) rfl (fun c31 => ?_) (fun c31 => ?_)
          · refine zr_iload hB 6 dX9_misses_122 rfl ?_
            refine zr_iconst hB dX9_misses_124 rfl (fun c32 ec32 => ?_)
            refine zr_icmp_ne hB dX9_misses_125 (tgt := 139) rfl (fun c33 => ?_) (fun c33 => ?_)
            · refine zr_iload hB 6 dX9_misses_139 rfl ?_
              refine zr_iconst hB dX9_misses_141 rfl (fun c34 ec34 => ?_)
              refine zr_icmp_ne hB dX9_misses_142 (tgt := 150) rfl (fun c35 => ?_) (fun c35 => ?_)
              · refine zr_iload hB 8 dX9_misses_150 rfl ?_
                exact zr_iret hG dX9_misses_152 ⟨hO20, hA22⟩
              refine zr_iload hB 7 dX9_misses_145 rfl ?_
              refine zr_goto hB dX9_misses_147 (tgt := 152) rfl ?_
              exact zr_iret hG dX9_misses_152 ⟨hO20, hA22⟩
            refine zr_aload_n hB 0 dX9_misses_128 rfl ?_
            refine zr_iload hB 4 dX9_misses_129 rfl ?_
            refine zr_iload hB 5 dX9_misses_131 rfl ?_
            refine zr_callvi hG (rest := []) 0 dX9_misses_133 wm_X9_246 rfl rfl (c_M_sumIn K hG.2.2.2.2.2.1 σ18 p4 p5 hO20 (by omega) (by omega) (by omega) (by omega)) rfl rfl (Nat.le_of_ble_eq_true rfl) ⟨Nat.le_of_ble_eq_true rfl, Nat.le_of_ble_eq_true rfl, rfl, rfl⟩ (fun r36 σ37 h38 => ?_)
            obtain rfl := h38
            refine zr_goto hB dX9_misses_136 (tgt := 152) rfl ?_
            exact zr_iret hG dX9_misses_152 ⟨hO20, hA22⟩
          refine zr_aload_n hB 0 dX9_misses_111 rfl ?_
          refine zr_iload hB 4 dX9_misses_112 rfl ?_
          refine zr_iload hB 5 dX9_misses_114 rfl ?_
          refine zr_callvi hG (rest := []) 0 dX9_misses_116 wm_X9_243 rfl rfl (c_M_manyIn K hG.2.2.2.2.2.1 σ18 p4 p5 hO20 (by omega) (by omega) (by omega) (by omega)) rfl rfl (Nat.le_of_ble_eq_true rfl) ⟨Nat.le_of_ble_eq_true rfl, Nat.le_of_ble_eq_true rfl, rfl, rfl⟩ (fun r39 σ40 h41 => ?_)
          obtain ⟨rfl, r39a, r39b, g42⟩ := h41
          refine zr_goto hB dX9_misses_119 (tgt := 152) rfl ?_
          exact zr_iret hG dX9_misses_152 ⟨hO20, hA22⟩
        refine zr_aload_n hB 0 dX9_misses_59 rfl ?_
        refine zr_getr hG 0 26 dX9_misses_60 rfl wf_X9_53 rfl ?_
        refine zr_iload hB 9 dX9_misses_63 rfl ?_
        refine zr_zald hG 15 dX9_misses_65 rfl (by omega) (by omega) (fun x43 ex43 => ?_)
        have bx43 : 0 ≤ x43.toInt ∧ x43.toInt ≤ 1 := by rw [ex43]; exact ⟨(hO20 15 _).1, (hO20 15 _).2.1⟩
        refine zr_if_eq hB dX9_misses_66 (tgt := 100) rfl (fun c44 => ?_) (fun c44 => ?_)
        · refine zr_iinc hB 9 dX9_misses_100 rfl (by decide) rfl (by omega) (by omega) (fun x45 ex45 lv' hlv => ?_)
          obtain rfl : [(9, .int x45), (0, .ref (zk K 0)), (1, .int p1), (2, .int p2), (3, .int p3), (4, .int p4), (5, .int p5), (6, .int p6), (7, .int y7_26), (8, .int y8_27)] = lv' := hlv
          refine zr_goto hB dX9_misses_103 (tgt := 52) rfl ?_
          exact zc_sub [1, 2, 3, 4, 5, 6, 7, 8, 9, 0] rfl (ih52 y7_26 y8_27 x45 (by omega) (by omega) (by omega) (by omega) (by omega) (by omega) (by omega))
        refine zr_aload_n hB 0 dX9_misses_69 rfl ?_
        refine zr_getr hG 0 25 dX9_misses_70 rfl wf_X9_50 rfl ?_
        refine zr_iload hB 9 dX9_misses_73 rfl ?_
        refine zr_iald hG 14 dX9_misses_75 rfl (by omega) (by omega) (fun x46 ex46 => ?_)
        have bx46 : (-999) ≤ x46.toInt ∧ x46.toInt ≤ 999 := by rw [ex46]; exact ⟨(hO20 14 _).1, (hO20 14 _).2.1⟩
        refine zr_callsi hG (rest := []) dX9_misses_76 wm_X9_240 (c_M_size K hG.2.2.2.2.2.1 σ18 x46 hO20 (by omega)) rfl rfl (Nat.le_of_ble_eq_true rfl) ⟨Nat.le_of_ble_eq_true rfl, Nat.le_of_ble_eq_true rfl, rfl, rfl⟩ (fun r47 σ48 h49 => ?_)
        obtain ⟨rfl, r47a, g50⟩ := h49
        refine zr_iload hB 7 dX9_misses_79 rfl ?_
        refine zr_icmp_le hB dX9_misses_81 (tgt := 100) rfl (fun c51 => ?_) (fun c51 => ?_)
        · refine zr_iinc hB 9 dX9_misses_100 rfl (by decide) rfl (by omega) (by omega) (fun x52 ex52 lv' hlv => ?_)
          obtain rfl : [(9, .int x52), (0, .ref (zk K 0)), (1, .int p1), (2, .int p2), (3, .int p3), (4, .int p4), (5, .int p5), (6, .int p6), (7, .int y7_26), (8, .int y8_27)] = lv' := hlv
          refine zr_goto hB dX9_misses_103 (tgt := 52) rfl ?_
          exact zc_sub [1, 2, 3, 4, 5, 6, 7, 8, 9, 0] rfl (ih52 y7_26 y8_27 x52 (by omega) (by omega) (by omega) (by omega) (by omega) (by omega) (by omega))
        refine zr_aload_n hB 0 dX9_misses_84 rfl ?_
        refine zr_getr hG 0 25 dX9_misses_85 rfl wf_X9_50 rfl ?_
        refine zr_iload hB 9 dX9_misses_88 rfl ?_
        refine zr_iald hG 14 dX9_misses_90 rfl (by omega) (by omega) (fun x53 ex53 => ?_)
        obtain rfl : x46 = x53 := ex46.trans ex53.symm
        refine zr_callsi hG (rest := []) dX9_misses_91 wm_X9_240 (c_M_size K hG.2.2.2.2.2.1 σ18 x46 hO20 (by omega)) rfl rfl (Nat.le_of_ble_eq_true rfl) ⟨Nat.le_of_ble_eq_true rfl, Nat.le_of_ble_eq_true rfl, rfl, rfl⟩ (fun r54 σ55 h56 => ?_)
        obtain ⟨rfl, r54a, g57⟩ := h56
        refine zr_istore hB dX9_misses_94 (by decide) (lv' := [(7, .int r54), (0, .ref (zk K 0)), (1, .int p1), (2, .int p2), (3, .int p3), (4, .int p4), (5, .int p5), (6, .int p6), (8, .int y8_27), (9, .int y9_28)]) rfl ?_
        refine zr_iload hB 9 dX9_misses_96 rfl ?_
        refine zr_istore hB dX9_misses_98 (by decide) (lv' := [(8, .int y9_28), (7, .int r54), (0, .ref (zk K 0)), (1, .int p1), (2, .int p2), (3, .int p3), (4, .int p4), (5, .int p5), (6, .int p6), (9, .int y9_28)]) rfl ?_
        refine zr_iinc hB 9 dX9_misses_100 rfl (by decide) rfl (by omega) (by omega) (fun x58 ex58 lv' hlv => ?_)
        obtain rfl : [(9, .int x58), (8, .int y9_28), (7, .int r54), (0, .ref (zk K 0)), (1, .int p1), (2, .int p2), (3, .int p3), (4, .int p4), (5, .int p5), (6, .int p6)] = lv' := hlv
        refine zr_goto hB dX9_misses_103 (tgt := 52) rfl ?_
        exact zc_sub [3, 4, 5, 6, 7, 8, 9, 2, 1, 0] rfl (ih52 r54 y9_28 x58 (by omega) (by omega) (by omega) (by omega) (by omega) (by omega) (by omega))
    exact zc_sub [3, 4, 5, 6, 7, 8, 9, 2, 1, 0] rfl (L52_29 66 c24 c25 p4 (by omega) (by omega) (by omega) (by omega) (by omega) (by omega) (by omega))
  have q59 := r12q.f c15
  refine zr_iconst hB dX9_misses_27 rfl (fun c60 ec60 => ?_)
  exact zr_iret hG dX9_misses_28 ⟨hO0, hA0⟩

def m_M_best : zc_ms := [(14, none), (15, none)]
set_option maxHeartbeats 1000000 in
set_option maxRecDepth 100000 in
theorem c_M_best (K : zc_K) (hi : zc_inj shM K.2.2.2.1) (σ0 : zc_S) (p1 : Int32) (p2 : Int32) (p3 : Int32) (p4 : Int32) (hO0 : zc_O okM σ0) (hT : zm_T σ0) : zc_M shM K yX9_best cX9_best 11 (some .int) (zrm 9 234) σ0 [.ref (zk K 0), .int p1, .int p2, .int p3, .int p4] (zc_I (fun r9 σ9 => zc_O okM σ9 ∧ zc_Ag m_M_best σ0 σ9)) := by
  refine zc_start RX9 hi pfX9_best rfl (Nat.le_of_ble_eq_true rfl) ?_
  intro G hG
  have hB := hG.1
  have hA0 : zc_Ag m_M_best σ0 σ0 := zc_Ag.rf
  show zc_V 11 K G (zc_D shM K G σ0) [(0, .ref (zk K 0)), (1, .int p1), (2, .int p2), (3, .int p3), (4, .int p4)] 0 []
  have bw0_17 : 0 ≤ (σ0.1 0 17).toInt ∧ (σ0.1 0 17).toInt ≤ 6 := ⟨(hO0 0 17).1, (hO0 0 17).2.1⟩
  refine zr_iload_n hB 1 dX9_best_0 rfl ?_
  refine zr_callsi hG (rest := []) dX9_best_1 wm_X9_108 (c_M_isShop K hG.2.2.2.2.2.1 σ0 p1 hO0 ) rfl rfl (Nat.le_of_ble_eq_true rfl) ⟨Nat.le_of_ble_eq_true rfl, Nat.le_of_ble_eq_true rfl, rfl, rfl⟩ (fun r1 σ2 h3 => ?_)
  obtain ⟨rfl, r1q⟩ := h3
  have r1z := r1q.b
  refine zr_if_eq hB dX9_best_4 (tgt := 23) rfl (fun c4 => ?_) (fun c4 => ?_)
  · have q5 := r1q.f c4
    refine zr_iconst hB dX9_best_23 rfl (fun c6 ec6 => ?_)
    exact zr_iret hG dX9_best_24 ⟨hO0, hA0⟩
  have q7 := r1q.t c4
  refine zr_iload_n hB 2 dX9_best_7 rfl ?_
  refine zr_callsi hG (rest := []) dX9_best_8 wm_X9_219 (c_M_isAhead K hG.2.2.2.2.2.1 σ0 p2 hO0 ) rfl rfl (Nat.le_of_ble_eq_true rfl) ⟨Nat.le_of_ble_eq_true rfl, Nat.le_of_ble_eq_true rfl, rfl, rfl⟩ (fun r8 σ9 h10 => ?_)
  obtain ⟨rfl, r8q⟩ := h10
  have r8z := r8q.b
  refine zr_if_eq hB dX9_best_11 (tgt := 23) rfl (fun c11 => ?_) (fun c11 => ?_)
  · have q12 := r8q.f c11
    refine zr_iconst hB dX9_best_23 rfl (fun c13 ec13 => ?_)
    exact zr_iret hG dX9_best_24 ⟨hO0, hA0⟩
  have q14 := r8q.t c11
  refine zr_iload_n hB 3 dX9_best_14 rfl ?_
  refine zr_iload hB 4 dX9_best_15 rfl ?_
  refine zr_callsi hG (rest := []) dX9_best_17 wm_X9_228 (c_M_areDays K hG.2.2.2.2.2.1 σ0 p3 p4 hO0 ) rfl rfl (Nat.le_of_ble_eq_true rfl) ⟨Nat.le_of_ble_eq_true rfl, Nat.le_of_ble_eq_true rfl, rfl, rfl⟩ (fun r15 σ16 h17 => ?_)
  obtain ⟨rfl, r15q⟩ := h17
  have r15z := r15q.b
  refine zr_if_ne hB dX9_best_20 (tgt := 25) rfl (fun c18 => ?_) (fun c18 => ?_)
  · have q19 := r15q.t c18
    refine zr_bipush hB dX9_best_25 rfl (fun c20 ec20 => ?_)
    refine zr_istore hB dX9_best_27 (by decide) (lv' := [(5, .int c20), (0, .ref (zk K 0)), (1, .int p1), (2, .int p2), (3, .int p3), (4, .int p4)]) rfl ?_
    refine zr_iconst hB dX9_best_29 rfl (fun c21 ec21 => ?_)
    refine zr_istore hB dX9_best_30 (by decide) (lv' := [(6, .int c21), (5, .int c20), (0, .ref (zk K 0)), (1, .int p1), (2, .int p2), (3, .int p3), (4, .int p4)]) rfl ?_
    refine zr_iconst hB dX9_best_32 rfl (fun c22 ec22 => ?_)
    refine zr_istore hB dX9_best_33 (by decide) (lv' := [(7, .int c22), (6, .int c21), (5, .int c20), (0, .ref (zk K 0)), (1, .int p1), (2, .int p2), (3, .int p3), (4, .int p4)]) rfl ?_
    refine zr_iconst hB dX9_best_35 rfl (fun c23 ec23 => ?_)
    refine zr_istore hB dX9_best_36 (by decide) (lv' := [(8, .int c23), (7, .int c22), (6, .int c21), (5, .int c20), (0, .ref (zk K 0)), (1, .int p1), (2, .int p2), (3, .int p3), (4, .int p4)]) rfl ?_
    have L38_31 : ∀ (n38 : Nat) (σ28 : zc_S) (y5_24 : Int32) (y6_25 : Int32) (y7_26 : Int32) (y8_27 : Int32), zc_O okM σ28 → zc_Ag m_M_best σ0 σ28 → (-4) ≤ y5_24.toInt → y5_24.toInt ≤ 5 → 1 ≤ y6_25.toInt → y6_25.toInt ≤ 64 → 0 ≤ y8_27.toInt → y8_27.toInt ≤ 6 → (σ28.1 0 17).toInt ≤ 6 → 0 ≤ (σ28.1 0 17).toInt → 6 - y8_27.toInt < (n38 : Int) → zc_V 11 K G (zc_D shM K G σ28) [(0, .ref (zk K 0)), (1, .int p1), (2, .int p2), (3, .int p3), (4, .int p4), (5, .int y5_24), (6, .int y6_25), (7, .int y7_26), (8, .int y8_27)] 38 [] := by
      intro n38
      induction n38 with
      | zero => intro σ28 y5_24 y6_25 y7_26 y8_27 hO28 hA28 y5_24a y5_24b y6_25a y6_25b y8_27a y8_27b e29 e30 hn38; have vy7_26 := And.intro (zn_lo y7_26) (zn_hi y7_26); exfalso; omega
      | succ n38 ih38 =>
        intro σ28 y5_24 y6_25 y7_26 y8_27 hO28 hA28 y5_24a y5_24b y6_25a y6_25b y8_27a y8_27b e29 e30 hn38
        have vy7_26 := And.intro (zn_lo y7_26) (zn_hi y7_26)
        refine zr_iload hB 8 dX9_best_38 rfl ?_
        refine zr_aload_n hB 0 dX9_best_40 rfl ?_
        refine zr_geti' hG 0 17 (σ28.1 0 17) dX9_best_41 rfl wf_X9_181 rfl rfl ?_
        have b32 : 0 ≤ (σ28.1 0 17).toInt ∧ (σ28.1 0 17).toInt ≤ 6 := ⟨(hO28 0 17).1, (hO28 0 17).2.1⟩
        refine zr_icmp_ge hB dX9_best_44 (tgt := 119) rfl (fun c33 => ?_) (fun c33 => ?_)
        · refine zr_iload hB 5 dX9_best_119 rfl ?_
          exact zr_iret hG dX9_best_121 ⟨hO28, hA28⟩
        refine zr_aload_n hB 0 dX9_best_47 rfl ?_
        refine zr_iload_n hB 1 dX9_best_48 rfl ?_
        refine zr_iload hB 8 dX9_best_49 rfl ?_
        refine zr_iload_n hB 2 dX9_best_51 rfl ?_
        refine zr_iload_n hB 3 dX9_best_52 rfl ?_
        refine zr_iload hB 4 dX9_best_53 rfl ?_
        refine zr_callvn hG (rest := []) 0 dX9_best_55 wm_X9_236 rfl rfl (c_M_layMisses K hG.2.2.2.2.2.1 σ28 p1 y8_27 p2 p3 p4 hO28 (by omega) (by omega) (by omega) (by omega) (by omega) (by omega) (by omega) (by omega) (by omega) (by omega) (by omega) (zm_T.ag hT hA28 rfl (fun _ => rfl) (fun _ => rfl))) rfl rfl (Nat.le_of_ble_eq_true rfl) ⟨Nat.le_of_ble_eq_true rfl, Nat.le_of_ble_eq_true rfl, rfl, rfl⟩ (fun σ35 h36 => ?_)
        obtain ⟨hO37, hAc38⟩ := h36
        have hA39 := zc_Ag.tr hA28 hAc38 rfl
        have q40 : (σ35.1 0 17).toInt = (σ28.1 0 17).toInt := congrArg Int32.toInt (hAc38 0 17 rfl).1
        refine zr_aload_n hB 0 dX9_best_58 rfl ?_
        refine zr_iload_n hB 3 dX9_best_59 rfl ?_
        refine zr_iload hB 4 dX9_best_60 rfl ?_
        refine zr_callvi hG (rest := []) 0 dX9_best_62 wm_X9_243 rfl rfl (c_M_manyIn K hG.2.2.2.2.2.1 σ35 p3 p4 hO37 (by omega) (by omega) (by omega) (by omega)) rfl rfl (Nat.le_of_ble_eq_true rfl) ⟨Nat.le_of_ble_eq_true rfl, Nat.le_of_ble_eq_true rfl, rfl, rfl⟩ (fun r41 σ42 h43 => ?_)
        obtain ⟨rfl, r41a, r41b, g44⟩ := h43
        refine zr_istore hB dX9_best_65 (by decide) (lv' := [(9, .int r41), (0, .ref (zk K 0)), (1, .int p1), (2, .int p2), (3, .int p3), (4, .int p4), (5, .int y5_24), (6, .int y6_25), (7, .int y7_26), (8, .int y8_27)]) rfl ?_
        refine zr_aload_n hB 1 dX9_best_67 rfl ?_
        refine zr_iload_n hB 4 dX9_best_68 rfl ?_
        refine zr_iload hB 5 dX9_best_69 rfl ?_
        refine zr_callvi hG (rest := []) 0 dX9_best_71 wm_X9_246 rfl rfl (c_M_sumIn K hG.2.2.2.2.2.1 σ35 p3 p4 hO37 (by omega) (by omega) (by omega) (by omega)) rfl rfl (Nat.le_of_ble_eq_true rfl) ⟨Nat.le_of_ble_eq_true rfl, Nat.le_of_ble_eq_true rfl, rfl, rfl⟩ (fun r45 σ46 h47 => ?_)
        obtain rfl := h47
        refine zr_istore hB dX9_best_74 (by decide) (lv' := [(10, .int r45), (9, .int r41), (0, .ref (zk K 0)), (1, .int p1), (2, .int p2), (3, .int p3), (4, .int p4), (5, .int y5_24), (6, .int y6_25), (7, .int y7_26), (8, .int y8_27)]) rfl ?_
        refine zr_iload hB 1 dX9_best_76 rfl ?_
        refine zr_if_le hB dX9_best_78 (tgt := 113) rfl (fun c48 => ?_) (fun c48 => ?_)
        · refine zr_iinc hB 10 dX9_best_113 rfl (by decide) rfl (by omega) (by omega) (fun x49 ex49 lv' hlv => ?_)
          obtain rfl : [(8, .int x49), (10, .int r45), (9, .int r41), (0, .ref (zk K 0)), (1, .int p1), (2, .int p2), (3, .int p3), (4, .int p4), (5, .int y5_24), (6, .int y6_25), (7, .int y7_26)] = lv' := hlv
          refine zr_goto hB dX9_best_116 (tgt := 38) rfl ?_
          have b50 : 0 ≤ (σ35.1 0 17).toInt ∧ (σ35.1 0 17).toInt ≤ 6 := ⟨(hO37 0 17).1, (hO37 0 17).2.1⟩
          exact zc_sub [3, 4, 5, 6, 7, 8, 9, 10, 0] rfl (ih38 σ35 y5_24 y6_25 y7_26 x49 hO37 hA39 (by omega) (by omega) (by omega) (by omega) (by omega) (by omega) (show (σ35.1 0 17).toInt ≤ 6 by omega) (show 0 ≤ (σ35.1 0 17).toInt by omega) (by omega))
        refine zr_iload hB 7 dX9_best_81 rfl ?_
        refine zr_bipush hB dX9_best_83 rfl (fun c51 ec51 => ?_)
        refine zr_icmp_eq hB dX9_best_85 (tgt := 101) rfl (fun c52 => ?_) (fun c52 => ?_)
        · refine zr_iload hB 10 dX9_best_101 rfl ?_
          refine zr_istore hB dX9_best_103 (by decide) (lv' := [(5, .int y8_27), (10, .int r45), (9, .int r41), (0, .ref (zk K 0)), (1, .int p1), (2, .int p2), (3, .int p3), (4, .int p4), (6, .int y6_25), (7, .int y7_26), (8, .int y8_27)]) rfl ?_
          refine zr_iload hB 2 dX9_best_105 rfl ?_
          refine zr_istore hB dX9_best_107 (by decide) (lv' := [(6, .int r41), (5, .int y8_27), (10, .int r45), (9, .int r41), (0, .ref (zk K 0)), (1, .int p1), (2, .int p2), (3, .int p3), (4, .int p4), (7, .int y7_26), (8, .int y8_27)]) rfl ?_
          refine zr_iload hB 2 dX9_best_109 rfl ?_
          refine zr_istore hB dX9_best_111 (by decide) (lv' := [(7, .int r45), (6, .int r41), (5, .int y8_27), (10, .int r45), (9, .int r41), (0, .ref (zk K 0)), (1, .int p1), (2, .int p2), (3, .int p3), (4, .int p4), (8, .int y8_27)]) rfl ?_
          refine zr_iinc hB 10 dX9_best_113 rfl (by decide) rfl (by omega) (by omega) (fun x53 ex53 lv' hlv => ?_)
          obtain rfl : [(8, .int x53), (7, .int r45), (6, .int r41), (5, .int y8_27), (10, .int r45), (9, .int r41), (0, .ref (zk K 0)), (1, .int p1), (2, .int p2), (3, .int p3), (4, .int p4)] = lv' := hlv
          refine zr_goto hB dX9_best_116 (tgt := 38) rfl ?_
          have b54 : 0 ≤ (σ35.1 0 17).toInt ∧ (σ35.1 0 17).toInt ≤ 6 := ⟨(hO37 0 17).1, (hO37 0 17).2.1⟩
          exact zc_sub [6, 7, 8, 9, 10, 3, 2, 1, 0] rfl (ih38 σ35 y8_27 r41 r45 x53 hO37 hA39 (by omega) (by omega) (by omega) (by omega) (by omega) (by omega) (show (σ35.1 0 17).toInt ≤ 6 by omega) (show 0 ≤ (σ35.1 0 17).toInt by omega) (by omega))
        refine zr_iload hB 0 dX9_best_88 rfl ?_
        refine zr_iload hB 8 dX9_best_90 rfl ?_
        refine zr_imulw hB dX9_best_92 (fun x55 ex55 => ?_)
        refine zr_iload hB 9 dX9_best_93 rfl ?_
        refine zr_iload hB 1 dX9_best_95 rfl ?_
        refine zr_imulw hB dX9_best_97 (fun x56 ex56 => ?_)
        refine zr_icmp_ge hB dX9_best_98 (tgt := 113) rfl (fun c57 => ?_) (fun c57 => ?_)
        · refine zr_iinc hB 10 dX9_best_113 rfl (by decide) rfl (by omega) (by omega) (fun x58 ex58 lv' hlv => ?_)
          obtain rfl : [(8, .int x58), (10, .int r45), (9, .int r41), (0, .ref (zk K 0)), (1, .int p1), (2, .int p2), (3, .int p3), (4, .int p4), (5, .int y5_24), (6, .int y6_25), (7, .int y7_26)] = lv' := hlv
          refine zr_goto hB dX9_best_116 (tgt := 38) rfl ?_
          have b59 : 0 ≤ (σ35.1 0 17).toInt ∧ (σ35.1 0 17).toInt ≤ 6 := ⟨(hO37 0 17).1, (hO37 0 17).2.1⟩
          exact zc_sub [3, 4, 5, 6, 7, 8, 9, 10, 0] rfl (ih38 σ35 y5_24 y6_25 y7_26 x58 hO37 hA39 (by omega) (by omega) (by omega) (by omega) (by omega) (by omega) (show (σ35.1 0 17).toInt ≤ 6 by omega) (show 0 ≤ (σ35.1 0 17).toInt by omega) (by omega))
        refine zr_iload hB 10 dX9_best_101 rfl ?_
        refine zr_istore hB dX9_best_103 (by decide) (lv' := [(5, .int y8_27), (10, .int r45), (9, .int r41), (0, .ref (zk K 0)), (1, .int p1), (2, .int p2), (3, .int p3), (4, .int p4), (6, .int y6_25), (7, .int y7_26), (8, .int y8_27)]) rfl ?_
        refine zr_iload hB 2 dX9_best_105 rfl ?_
        refine zr_istore hB dX9_best_107 (by decide) (lv' := [(6, .int r41), (5, .int y8_27), (10, .int r45), (9, .int r41), (0, .ref (zk K 0)), (1, .int p1), (2, .int p2), (3, .int p3), (4, .int p4), (7, .int y7_26), (8, .int y8_27)]) rfl ?_
        refine zr_iload hB 2 dX9_best_109 rfl ?_
        refine zr_istore hB dX9_best_111 (by decide) (lv' := [(7, .int r45), (6, .int r41), (5, .int y8_27), (10, .int r45), (9, .int r41), (0, .ref (zk K 0)), (1, .int p1), (2, .int p2), (3, .int p3), (4, .int p4), (8, .int y8_27)]) rfl ?_
        refine zr_iinc hB 10 dX9_best_113 rfl (by decide) rfl (by omega) (by omega) (fun x60 ex60 lv' hlv => ?_)
        obtain rfl : [(8, .int x60), (7, .int r45), (6, .int r41), (5, .int y8_27), (10, .int r45), (9, .int r41), (0, .ref (zk K 0)), (1, .int p1), (2, .int p2), (3, .int p3), (4, .int p4)] = lv' := hlv
        refine zr_goto hB dX9_best_116 (tgt := 38) rfl ?_
        have b61 : 0 ≤ (σ35.1 0 17).toInt ∧ (σ35.1 0 17).toInt ≤ 6 := ⟨(hO37 0 17).1, (hO37 0 17).2.1⟩
        exact zc_sub [6, 7, 8, 9, 10, 3, 2, 1, 0] rfl (ih38 σ35 y8_27 r41 r45 x60 hO37 hA39 (by omega) (by omega) (by omega) (by omega) (by omega) (by omega) (show (σ35.1 0 17).toInt ≤ 6 by omega) (show 0 ≤ (σ35.1 0 17).toInt by omega) (by omega))
    exact zc_sub [4, 5, 6, 7, 8, 3, 2, 1, 0] rfl (L38_31 8 σ0 c20 c21 c22 c23 hO0 hA0 (by omega) (by omega) (by omega) (by omega) (by omega) (by omega) (show (σ0.1 0 17).toInt ≤ 6 by omega) (show 0 ≤ (σ0.1 0 17).toInt by omega) (by omega))
  have q62 := r15q.f c18
  refine zr_iconst hB dX9_best_23 rfl (fun c63 ec63 => ?_)
  exact zr_iret hG dX9_best_24 ⟨hO0, hA0⟩

def m_M_fit : zc_ms := [(14, none), (15, none)]
set_option maxHeartbeats 1000000 in
set_option maxRecDepth 100000 in
theorem c_M_fit (K : zc_K) (hi : zc_inj shM K.2.2.2.1) (σ0 : zc_S) (p1 : Int32) (p2 : Int32) (p3 : Int32) (p4 : Int32) (p5 : Int32) (p6 : Int32) (hO0 : zc_O okM σ0) (hT : zm_T σ0) : zc_M shM K yX9_fit cX9_fit 15 (some .int) (zrm 5 125) σ0 [.ref (zk K 0), .int p1, .int p2, .int p3, .int p4, .int p5, .int p6] (zc_I (fun r9 σ9 => zc_O okM σ9 ∧ zc_Ag m_M_fit σ0 σ9)) := by
  refine zc_start RX9 hi pfX9_fit rfl (Nat.le_of_ble_eq_true rfl) ?_
  intro G hG
  have hB := hG.1
  have hA0 : zc_Ag m_M_fit σ0 σ0 := zc_Ag.rf
  show zc_V 15 K G (zc_D shM K G σ0) [(0, .ref (zk K 0)), (1, .int p1), (2, .int p2), (3, .int p3), (4, .int p4), (5, .int p5), (6, .int p6)] 0 []
  have bw0_17 : 0 ≤ (σ0.1 0 17).toInt ∧ (σ0.1 0 17).toInt ≤ 6 := ⟨(hO0 0 17).1, (hO0 0 17).2.1⟩
  refine zr_iload_n hB 1 dX9_fit_0 rfl ?_
  refine zr_callsi hG (rest := []) dX9_fit_1 wm_X9_108 (c_M_isShop K hG.2.2.2.2.2.1 σ0 p1 hO0 ) rfl rfl (Nat.le_of_ble_eq_true rfl) ⟨Nat.le_of_ble_eq_true rfl, Nat.le_of_ble_eq_true rfl, rfl, rfl⟩ (fun r1 σ2 h3 => ?_)
  obtain ⟨rfl, r1q⟩ := h3
  have r1z := r1q.b
  refine zr_if_eq hB dX9_fit_4 (tgt := 49) rfl (fun c4 => ?_) (fun c4 => ?_)
  · have q5 := r1q.f c4
    refine zr_iconst hB dX9_fit_49 rfl (fun c6 ec6 => ?_)
    exact zr_iret hG dX9_fit_50 ⟨hO0, hA0⟩
  have q7 := r1q.t c4
  refine zr_iload_n hB 2 dX9_fit_7 rfl ?_
  have v9 := And.intro (zn_lo p2) (zn_hi p2)
  refine zr_i2l hB dX9_fit_8 (fun l8 el8 => ?_)
  refine zr_lconst hB dX9_fit_9 (m := 0) rfl (fun c10 ec10 => ?_)
  refine zr_ldc2 hB dX9_fit_10 wc_X9_89 (n := 3) rfl (fun c11 ec11 => ?_)
  refine zr_callsi hG (rest := []) dX9_fit_13 wm_X9_91 (c_M_in K hG.2.2.2.2.2.1 σ0 l8 c10 c11 hO0 ) rfl rfl (Nat.le_of_ble_eq_true rfl) ⟨Nat.le_of_ble_eq_true rfl, Nat.le_of_ble_eq_true rfl, rfl, rfl⟩ (fun r12 σ13 h14 => ?_)
  obtain ⟨rfl, r12q⟩ := h14
  have r12z := r12q.b
  refine zr_if_eq hB dX9_fit_16 (tgt := 49) rfl (fun c15 => ?_) (fun c15 => ?_)
  · have q16 := r12q.f c15
    refine zr_iconst hB dX9_fit_49 rfl (fun c17 ec17 => ?_)
    exact zr_iret hG dX9_fit_50 ⟨hO0, hA0⟩
  have q18 := r12q.t c15
  refine zr_iload_n hB 3 dX9_fit_19 rfl ?_
  refine zr_callsi hG (rest := []) dX9_fit_20 wm_X9_219 (c_M_isAhead K hG.2.2.2.2.2.1 σ0 p3 hO0 ) rfl rfl (Nat.le_of_ble_eq_true rfl) ⟨Nat.le_of_ble_eq_true rfl, Nat.le_of_ble_eq_true rfl, rfl, rfl⟩ (fun r19 σ20 h21 => ?_)
  obtain ⟨rfl, r19q⟩ := h21
  have r19z := r19q.b
  refine zr_if_eq hB dX9_fit_23 (tgt := 49) rfl (fun c22 => ?_) (fun c22 => ?_)
  · have q23 := r19q.f c22
    refine zr_iconst hB dX9_fit_49 rfl (fun c24 ec24 => ?_)
    exact zr_iret hG dX9_fit_50 ⟨hO0, hA0⟩
  have q25 := r19q.t c22
  refine zr_iload hB 4 dX9_fit_26 rfl ?_
  refine zr_iload hB 5 dX9_fit_28 rfl ?_
  refine zr_callsi hG (rest := []) dX9_fit_30 wm_X9_228 (c_M_areDays K hG.2.2.2.2.2.1 σ0 p4 p5 hO0 ) rfl rfl (Nat.le_of_ble_eq_true rfl) ⟨Nat.le_of_ble_eq_true rfl, Nat.le_of_ble_eq_true rfl, rfl, rfl⟩ (fun r26 σ27 h28 => ?_)
  obtain ⟨rfl, r26q⟩ := h28
  have r26z := r26q.b
  refine zr_if_eq hB dX9_fit_33 (tgt := 49) rfl (fun c29 => ?_) (fun c29 => ?_)
  · have q30 := r26q.f c29
    refine zr_iconst hB dX9_fit_49 rfl (fun c31 ec31 => ?_)
    exact zr_iret hG dX9_fit_50 ⟨hO0, hA0⟩
  have q32 := r26q.t c29
  refine zr_iload hB 6 dX9_fit_36 rfl ?_
  have v34 := And.intro (zn_lo p6) (zn_hi p6)
  refine zr_i2l hB dX9_fit_38 (fun l33 el33 => ?_)
  refine zr_lconst hB dX9_fit_39 (m := 0) rfl (fun c35 ec35 => ?_)
  refine zr_ldc2 hB dX9_fit_40 wc_X9_249 (n := 2) rfl (fun c36 ec36 => ?_)
  refine zr_callsi hG (rest := []) dX9_fit_43 wm_X9_91 (c_M_in K hG.2.2.2.2.2.1 σ0 l33 c35 c36 hO0 ) rfl rfl (Nat.le_of_ble_eq_true rfl) ⟨Nat.le_of_ble_eq_true rfl, Nat.le_of_ble_eq_true rfl, rfl, rfl⟩ (fun r37 σ38 h39 => ?_)
  obtain ⟨rfl, r37q⟩ := h39
  have r37z := r37q.b
  refine zr_if_ne hB dX9_fit_46 (tgt := 51) rfl (fun c40 => ?_) (fun c40 => ?_)
  · have q41 := r37q.t c40
    refine zr_bipush hB dX9_fit_51 rfl (fun c42 ec42 => ?_)
    refine zr_istore hB dX9_fit_53 (by decide) (lv' := [(7, .int c42), (0, .ref (zk K 0)), (1, .int p1), (2, .int p2), (3, .int p3), (4, .int p4), (5, .int p5), (6, .int p6)]) rfl ?_
    refine zr_iconst hB dX9_fit_55 rfl (fun c43 ec43 => ?_)
    refine zr_istore hB dX9_fit_56 (by decide) (lv' := [(8, .int c43), (7, .int c42), (0, .ref (zk K 0)), (1, .int p1), (2, .int p2), (3, .int p3), (4, .int p4), (5, .int p5), (6, .int p6)]) rfl ?_
    refine zr_iconst hB dX9_fit_58 rfl (fun c44 ec44 => ?_)
    refine zr_istore hB dX9_fit_59 (by decide) (lv' := [(9, .int c44), (8, .int c43), (7, .int c42), (0, .ref (zk K 0)), (1, .int p1), (2, .int p2), (3, .int p3), (4, .int p4), (5, .int p5), (6, .int p6)]) rfl ?_
    refine zr_iload_n hB 5 dX9_fit_61 rfl ?_
    refine zr_iconst hB dX9_fit_62 rfl (fun c45 ec45 => ?_)
    refine zr_icmp_ne hB dX9_fit_63 (tgt := 70) rfl (fun c46 => ?_) (fun c46 => ?_)
    · refine zr_iconst hB dX9_fit_70 rfl (fun c47 ec47 => ?_)
      refine zr_istore hB dX9_fit_71 (by decide) (lv' := [(10, .int c47), (9, .int c44), (8, .int c43), (7, .int c42), (0, .ref (zk K 0)), (1, .int p1), (2, .int p2), (3, .int p3), (4, .int p4), (5, .int p5), (6, .int p6)]) rfl ?_
      have L73_54 : ∀ (n73 : Nat) (σ52 : zc_S) (y7_48 : Int32) (y8_49 : Int32) (y9_50 : Int32) (y10_51 : Int32), zc_O okM σ52 → zc_Ag m_M_fit σ0 σ52 → (-4) ≤ y7_48.toInt → y7_48.toInt ≤ 119 → 0 ≤ y8_49.toInt → y8_49.toInt ≤ 64 → 0 ≤ y10_51.toInt → y10_51.toInt ≤ 121 → ((p2.toInt = 2 ∨ 1 ≤ y10_51.toInt)) → 121 - y10_51.toInt < (n73 : Int) → zc_V 15 K G (zc_D shM K G σ52) [(0, .ref (zk K 0)), (1, .int p1), (2, .int p2), (3, .int p3), (4, .int p4), (5, .int p5), (6, .int p6), (7, .int y7_48), (8, .int y8_49), (9, .int y9_50), (10, .int y10_51)] 73 [] := by
        intro n73
        induction n73 with
        | zero => intro σ52 y7_48 y8_49 y9_50 y10_51 hO52 hA52 y7_48a y7_48b y8_49a y8_49b y10_51a y10_51b e53 hn73; have vy9_50 := And.intro (zn_lo y9_50) (zn_hi y9_50); exfalso; omega
        | succ n73 ih73 =>
          intro σ52 y7_48 y8_49 y9_50 y10_51 hO52 hA52 y7_48a y7_48b y8_49a y8_49b y10_51a y10_51b e53 hn73
          have vy9_50 := And.intro (zn_lo y9_50) (zn_hi y9_50)
          refine zr_iload hB 10 dX9_fit_73 rfl ?_
          refine zr_iload_n hB 2 dX9_fit_75 rfl ?_
          refine zr_iconst hB dX9_fit_76 rfl (fun c55 ec55 => ?_)
          refine zr_icmp_ne hB dX9_fit_77 (tgt := 85) rfl (fun c56 => ?_) (fun c56 => ?_)
          · refine zr_bipush hB dX9_fit_85 rfl (fun c57 ec57 => ?_)
            refine zr_icmp_gt hB dX9_fit_87 (tgt := 263) rfl (fun c58 => ?_) (fun c58 => ?_)
            · refine zr_iload hB 7 dX9_fit_263 rfl ?_
              refine zr_bipush hB dX9_fit_265 rfl (fun c59 ec59 => ?_)
              refine zr_icmp_ne hB dX9_fit_267 (tgt := 275) rfl (fun c60 => ?_) (fun c60 => ?_)
              · refine zr_iload hB 6 dX9_fit_275 rfl ?_
                refine zr_if_ne hB dX9_fit_277 (tgt := 285) rfl (fun c61 => ?_) (fun c61 => ?_)
                · refine zr_iload hB 6 dX9_fit_285 rfl ?_
                  refine zr_iconst hB dX9_fit_287 rfl (fun c62 ec62 => ?_)
                  refine zr_icmp_ne hB dX9_fit_288 (tgt := 296) rfl (fun c63 => ?_) (fun c63 => ?_)
                  · refine zr_iload hB 9 dX9_fit_296 rfl ?_
                    exact zr_iret hG dX9_fit_298 ⟨hO52, hA52⟩
                  refine zr_iload hB 8 dX9_fit_291 rfl ?_
                  refine zr_goto hB dX9_fit_293 (tgt := 298) rfl ?_
                  exact zr_iret hG dX9_fit_298 ⟨hO52, hA52⟩
                refine zr_iload hB 7 dX9_fit_280 rfl ?_
                refine zr_goto hB dX9_fit_282 (tgt := 298) rfl ?_
                exact zr_iret hG dX9_fit_298 ⟨hO52, hA52⟩
              refine zr_bipush hB dX9_fit_270 rfl (fun c64 ec64 => ?_)
              refine zr_goto hB dX9_fit_272 (tgt := 298) rfl ?_
              exact zr_iret hG dX9_fit_298 ⟨hO52, hA52⟩
            refine zr_iload_n hB 2 dX9_fit_90 rfl ?_
            refine zr_iconst hB dX9_fit_91 rfl (fun c65 ec65 => ?_)
            refine zr_icmp_ne hB dX9_fit_92 (tgt := 103) rfl (fun c66 => ?_) (fun c66 => ?_)
            · refine zr_iload hB 10 dX9_fit_103 rfl ?_
              refine zr_istore hB dX9_fit_105 (by decide) (lv' := [(11, .int y10_51), (0, .ref (zk K 0)), (1, .int p1), (2, .int p2), (3, .int p3), (4, .int p4), (5, .int p5), (6, .int p6), (7, .int y7_48), (8, .int y8_49), (9, .int y9_50), (10, .int y10_51)]) rfl ?_
              refine zr_iload_n hB 3 dX9_fit_107 rfl ?_
              refine zr_iconst hB dX9_fit_108 rfl (fun c67 ec67 => ?_)
              refine zr_icmp_ne hB dX9_fit_109 (tgt := 120) rfl (fun c68 => ?_) (fun c68 => ?_)
              · refine zr_iconst hB dX9_fit_120 rfl (fun c69 ec69 => ?_)
                refine zr_istore hB dX9_fit_121 (by decide) (lv' := [(12, .int c69), (11, .int y10_51), (0, .ref (zk K 0)), (1, .int p1), (2, .int p2), (3, .int p3), (4, .int p4), (5, .int p5), (6, .int p6), (7, .int y7_48), (8, .int y8_49), (9, .int y9_50), (10, .int y10_51)]) rfl ?_
                refine zr_iload hB 6 dX9_fit_123 rfl ?_
                refine zr_istore hB dX9_fit_125 (by decide) (lv' := [(13, .int p4), (12, .int c69), (11, .int y10_51), (0, .ref (zk K 0)), (1, .int p1), (2, .int p2), (3, .int p3), (4, .int p4), (5, .int p5), (6, .int p6), (7, .int y7_48), (8, .int y8_49), (9, .int y9_50), (10, .int y10_51)]) rfl ?_
                have L127_72 : ∀ (n127 : Nat) (σ71 : zc_S) (y13_70 : Int32), zc_O okM σ71 → zc_Ag m_M_fit σ0 σ71 → 0 ≤ y13_70.toInt → y13_70.toInt ≤ 64 → 64 - y13_70.toInt < (n127 : Int) → zc_V 15 K G (zc_D shM K G σ71) [(0, .ref (zk K 0)), (1, .int p1), (2, .int p2), (3, .int p3), (4, .int p4), (5, .int p5), (6, .int p6), (7, .int y7_48), (8, .int y8_49), (9, .int y9_50), (10, .int y10_51), (11, .int y10_51), (12, .int c69), (13, .int y13_70)] 127 [] := by
                  intro n127
                  induction n127 with
                  | zero => intro σ71 y13_70 hO71 hA71 y13_70a y13_70b hn127; exfalso; omega
                  | succ n127 ih127 =>
                    intro σ71 y13_70 hO71 hA71 y13_70a y13_70b hn127
                    refine zr_iload hB 13 dX9_fit_127 rfl ?_
                    refine zr_iload hB 5 dX9_fit_129 rfl ?_
                    refine zr_icmp_gt hB dX9_fit_131 (tgt := 183) rfl (fun c73 => ?_) (fun c73 => ?_)
                    · refine zr_aload_n hB 0 dX9_fit_183 rfl ?_
                      refine zr_iload hB 4 dX9_fit_184 rfl ?_
                      refine zr_iload hB 5 dX9_fit_186 rfl ?_
                      refine zr_callvi hG (rest := []) 0 dX9_fit_188 wm_X9_243 rfl rfl (c_M_manyIn K hG.2.2.2.2.2.1 σ71 p4 p5 hO71 (by omega) (by omega) (by omega) (by omega)) rfl rfl (Nat.le_of_ble_eq_true rfl) ⟨Nat.le_of_ble_eq_true rfl, Nat.le_of_ble_eq_true rfl, rfl, rfl⟩ (fun r74 σ75 h76 => ?_)
                      obtain ⟨rfl, r74a, r74b, g77⟩ := h76
                      refine zr_istore hB dX9_fit_191 (by decide) (lv' := [(13, .int r74), (0, .ref (zk K 0)), (1, .int p1), (2, .int p2), (3, .int p3), (4, .int p4), (5, .int p5), (6, .int p6), (7, .int y7_48), (8, .int y8_49), (9, .int y9_50), (10, .int y10_51), (11, .int y10_51), (12, .int c69)]) rfl ?_
                      refine zr_aload_n hB 1 dX9_fit_193 rfl ?_
                      refine zr_iload hB 5 dX9_fit_194 rfl ?_
                      refine zr_iload hB 6 dX9_fit_196 rfl ?_
                      refine zr_callvi hG (rest := []) 0 dX9_fit_198 wm_X9_246 rfl rfl (c_M_sumIn K hG.2.2.2.2.2.1 σ71 p4 p5 hO71 (by omega) (by omega) (by omega) (by omega)) rfl rfl (Nat.le_of_ble_eq_true rfl) ⟨Nat.le_of_ble_eq_true rfl, Nat.le_of_ble_eq_true rfl, rfl, rfl⟩ (fun r78 σ79 h80 => ?_)
                      obtain rfl := h80
                      refine zr_istore hB dX9_fit_201 (by decide) (lv' := [(14, .int r78), (13, .int r74), (0, .ref (zk K 0)), (1, .int p1), (2, .int p2), (3, .int p3), (4, .int p4), (5, .int p5), (6, .int p6), (7, .int y7_48), (8, .int y8_49), (9, .int y9_50), (10, .int y10_51), (11, .int y10_51), (12, .int c69)]) rfl ?_
                      refine zr_iload hB 1 dX9_fit_203 rfl ?_
                      refine zr_iload hB 10 dX9_fit_205 rfl ?_
                      have L229_81 : zc_V 15 K G (zc_D shM K G σ71) [(0, .ref (zk K 0)), (1, .int p1), (2, .int p2), (3, .int p3), (4, .int p4), (5, .int p5), (6, .int p6), (7, .int y7_48), (8, .int y8_49), (9, .int y9_50), (10, .int y10_51), (11, .int y10_51), (12, .int c69), (13, .int r74), (14, .int r78)] 229 [] := by
                        refine zr_iload_n hB 2 dX9_fit_229 rfl ?_
                        refine zr_iconst hB dX9_fit_230 rfl (fun c82 ec82 => ?_)
                        refine zr_icmp_ne hB dX9_fit_231 (tgt := 245) rfl (fun c83 => ?_) (fun c83 => ?_)
                        · refine zr_iload hB 10 dX9_fit_245 rfl ?_
                          refine zr_istore hB dX9_fit_247 (by decide) (lv' := [(7, .int y10_51), (0, .ref (zk K 0)), (1, .int p1), (2, .int p2), (3, .int p3), (4, .int p4), (5, .int p5), (6, .int p6), (8, .int y8_49), (9, .int y9_50), (10, .int y10_51), (11, .int y10_51), (12, .int c69), (13, .int r74), (14, .int r78)]) rfl ?_
                          refine zr_iload hB 13 dX9_fit_249 rfl ?_
                          refine zr_istore hB dX9_fit_251 (by decide) (lv' := [(8, .int r74), (7, .int y10_51), (0, .ref (zk K 0)), (1, .int p1), (2, .int p2), (3, .int p3), (4, .int p4), (5, .int p5), (6, .int p6), (9, .int y9_50), (10, .int y10_51), (11, .int y10_51), (12, .int c69), (13, .int r74), (14, .int r78)]) rfl ?_
                          refine zr_iload hB 14 dX9_fit_253 rfl ?_
                          refine zr_istore hB dX9_fit_255 (by decide) (lv' := [(9, .int r78), (8, .int r74), (7, .int y10_51), (0, .ref (zk K 0)), (1, .int p1), (2, .int p2), (3, .int p3), (4, .int p4), (5, .int p5), (6, .int p6), (10, .int y10_51), (11, .int y10_51), (12, .int c69), (13, .int r74), (14, .int r78)]) rfl ?_
                          refine zr_iinc hB 10 dX9_fit_257 rfl (by decide) rfl (by omega) (by omega) (fun x84 ex84 lv' hlv => ?_)
                          obtain rfl : [(10, .int x84), (9, .int r78), (8, .int r74), (7, .int y10_51), (0, .ref (zk K 0)), (1, .int p1), (2, .int p2), (3, .int p3), (4, .int p4), (5, .int p5), (6, .int p6), (11, .int y10_51), (12, .int c69), (13, .int r74), (14, .int r78)] = lv' := hlv
                          refine zr_goto hB dX9_fit_260 (tgt := 73) rfl ?_
                          exact zc_sub [4, 5, 6, 7, 8, 9, 10, 3, 2, 1, 0] rfl (ih73 σ71 y10_51 r74 r78 x84 hO71 hA71 (by omega) (by omega) (by omega) (by omega) (by omega) (by omega) (show (p2.toInt = 2 ∨ 1 ≤ x84.toInt) by omega) (by omega))
                        refine zr_bipush hB dX9_fit_234 rfl (fun c85 ec85 => ?_)
                        refine zr_iload hB 11 dX9_fit_236 rfl ?_
                        refine zr_imuld hB dX9_fit_238 ec85 (by omega) (by omega) (fun x86 ex86 => ?_)
                        refine zr_iload hB 12 dX9_fit_239 rfl ?_
                        refine zr_iadd hB dX9_fit_241 (by omega) (by omega) (fun x87 ex87 => ?_)
                        refine zr_goto hB dX9_fit_242 (tgt := 247) rfl ?_
                        refine zr_istore hB dX9_fit_247 (by decide) (lv' := [(7, .int x87), (0, .ref (zk K 0)), (1, .int p1), (2, .int p2), (3, .int p3), (4, .int p4), (5, .int p5), (6, .int p6), (8, .int y8_49), (9, .int y9_50), (10, .int y10_51), (11, .int y10_51), (12, .int c69), (13, .int r74), (14, .int r78)]) rfl ?_
                        refine zr_iload hB 13 dX9_fit_249 rfl ?_
                        refine zr_istore hB dX9_fit_251 (by decide) (lv' := [(8, .int r74), (7, .int x87), (0, .ref (zk K 0)), (1, .int p1), (2, .int p2), (3, .int p3), (4, .int p4), (5, .int p5), (6, .int p6), (9, .int y9_50), (10, .int y10_51), (11, .int y10_51), (12, .int c69), (13, .int r74), (14, .int r78)]) rfl ?_
                        refine zr_iload hB 14 dX9_fit_253 rfl ?_
                        refine zr_istore hB dX9_fit_255 (by decide) (lv' := [(9, .int r78), (8, .int r74), (7, .int x87), (0, .ref (zk K 0)), (1, .int p1), (2, .int p2), (3, .int p3), (4, .int p4), (5, .int p5), (6, .int p6), (10, .int y10_51), (11, .int y10_51), (12, .int c69), (13, .int r74), (14, .int r78)]) rfl ?_
                        refine zr_iinc hB 10 dX9_fit_257 rfl (by decide) rfl (by omega) (by omega) (fun x88 ex88 lv' hlv => ?_)
                        obtain rfl : [(10, .int x88), (9, .int r78), (8, .int r74), (7, .int x87), (0, .ref (zk K 0)), (1, .int p1), (2, .int p2), (3, .int p3), (4, .int p4), (5, .int p5), (6, .int p6), (11, .int y10_51), (12, .int c69), (13, .int r74), (14, .int r78)] = lv' := hlv
                        refine zr_goto hB dX9_fit_260 (tgt := 73) rfl ?_
                        exact zc_sub [4, 5, 6, 7, 8, 9, 10, 3, 2, 1, 0] rfl (ih73 σ71 x87 r74 r78 x88 hO71 hA71 (by omega) (by omega) (by omega) (by omega) (by omega) (by omega) (show (p2.toInt = 2 ∨ 1 ≤ x88.toInt) by omega) (by omega))
                      refine zr_icmp_gt hB dX9_fit_207 (tgt := 229) rfl (fun c89 => ?_) (fun c89 => ?_)
                      · exact zc_sub [2, 3, 4, 5, 6, 7, 8, 9, 10, 11, 12, 13, 14, 1, 0] rfl (L229_81)
                      refine zr_iload hB 1 dX9_fit_210 rfl ?_
                      refine zr_iload hB 10 dX9_fit_212 rfl ?_
                      refine zr_icmp_ne hB dX9_fit_214 (tgt := 257) rfl (fun c90 => ?_) (fun c90 => ?_)
                      · refine zr_iinc hB 12 dX9_fit_257 rfl (by decide) rfl (by omega) (by omega) (fun x91 ex91 lv' hlv => ?_)
                        obtain rfl : [(10, .int x91), (14, .int r78), (13, .int r74), (0, .ref (zk K 0)), (1, .int p1), (2, .int p2), (3, .int p3), (4, .int p4), (5, .int p5), (6, .int p6), (7, .int y7_48), (8, .int y8_49), (9, .int y9_50), (11, .int y10_51), (12, .int c69)] = lv' := hlv
                        refine zr_goto hB dX9_fit_260 (tgt := 73) rfl ?_
                        exact zc_sub [3, 4, 5, 6, 7, 8, 9, 10, 11, 12, 0] rfl (ih73 σ71 y7_48 y8_49 y9_50 x91 hO71 hA71 (by omega) (by omega) (by omega) (by omega) (by omega) (by omega) (show (p2.toInt = 2 ∨ 1 ≤ x91.toInt) by omega) (by omega))
                      refine zr_iload hB 1 dX9_fit_217 rfl ?_
                      refine zr_if_le hB dX9_fit_219 (tgt := 257) rfl (fun c92 => ?_) (fun c92 => ?_)
                      · refine zr_iinc hB 12 dX9_fit_257 rfl (by decide) rfl (by omega) (by omega) (fun x93 ex93 lv' hlv => ?_)
                        obtain rfl : [(10, .int x93), (14, .int r78), (13, .int r74), (0, .ref (zk K 0)), (1, .int p1), (2, .int p2), (3, .int p3), (4, .int p4), (5, .int p5), (6, .int p6), (7, .int y7_48), (8, .int y8_49), (9, .int y9_50), (11, .int y10_51), (12, .int c69)] = lv' := hlv
                        refine zr_goto hB dX9_fit_260 (tgt := 73) rfl ?_
                        exact zc_sub [3, 4, 5, 6, 7, 8, 9, 10, 11, 12, 0] rfl (ih73 σ71 y7_48 y8_49 y9_50 x93 hO71 hA71 (by omega) (by omega) (by omega) (by omega) (by omega) (by omega) (show (p2.toInt = 2 ∨ 1 ≤ x93.toInt) by omega) (by omega))
                      refine zr_iload hB 0 dX9_fit_222 rfl ?_
                      refine zr_iload hB 11 dX9_fit_224 rfl ?_
                      refine zr_icmp_ge hB dX9_fit_226 (tgt := 257) rfl (fun c94 => ?_) (fun c94 => ?_)
                      · refine zr_iinc hB 12 dX9_fit_257 rfl (by decide) rfl (by omega) (by omega) (fun x95 ex95 lv' hlv => ?_)
                        obtain rfl : [(10, .int x95), (14, .int r78), (13, .int r74), (0, .ref (zk K 0)), (1, .int p1), (2, .int p2), (3, .int p3), (4, .int p4), (5, .int p5), (6, .int p6), (7, .int y7_48), (8, .int y8_49), (9, .int y9_50), (11, .int y10_51), (12, .int c69)] = lv' := hlv
                        refine zr_goto hB dX9_fit_260 (tgt := 73) rfl ?_
                        exact zc_sub [3, 4, 5, 6, 7, 8, 9, 10, 11, 12, 0] rfl (ih73 σ71 y7_48 y8_49 y9_50 x95 hO71 hA71 (by omega) (by omega) (by omega) (by omega) (by omega) (by omega) (show (p2.toInt = 2 ∨ 1 ≤ x95.toInt) by omega) (by omega))
                      exact zc_sub [2, 3, 4, 5, 6, 7, 8, 9, 10, 11, 12, 13, 14, 1, 0] rfl (L229_81)
                    refine zr_aload_n hB 0 dX9_fit_134 rfl ?_
                    refine zr_iload hB 13 dX9_fit_135 rfl ?_
                    refine zr_iload hB 13 dX9_fit_137 rfl ?_
                    refine zr_iload_n hB 3 dX9_fit_139 rfl ?_
                    refine zr_icmp_lt hB dX9_fit_140 (tgt := 154) rfl (fun c96 => ?_) (fun c96 => ?_)
                    · refine zr_iconst hB dX9_fit_154 rfl (fun c97 ec97 => ?_)
                      refine zr_goto hB dX9_fit_155 (tgt := 173) rfl ?_
                      refine zr_iload_n hB 1 dX9_fit_173 rfl ?_
                      refine zr_callvn hG (rest := []) 0 dX9_fit_174 wm_X9_225 rfl rfl (c_M_layDay K hG.2.2.2.2.2.1 σ71 y13_70 c97 p1 hO71 (by omega) (by omega) (by omega) (by omega) (by omega) (by omega)) rfl rfl (Nat.le_of_ble_eq_true rfl) ⟨Nat.le_of_ble_eq_true rfl, Nat.le_of_ble_eq_true rfl, rfl, rfl⟩ (fun σ99 h100 => ?_)
                      obtain ⟨hO101, hAc102⟩ := h100
                      have hA103 := zc_Ag.tr hA71 hAc102 rfl
                      refine zr_iinc hB 13 dX9_fit_177 rfl (by decide) rfl (by omega) (by omega) (fun x104 ex104 lv' hlv => ?_)
                      obtain rfl : [(13, .int x104), (0, .ref (zk K 0)), (1, .int p1), (2, .int p2), (3, .int p3), (4, .int p4), (5, .int p5), (6, .int p6), (7, .int y7_48), (8, .int y8_49), (9, .int y9_50), (10, .int y10_51), (11, .int y10_51), (12, .int c69)] = lv' := hlv
                      refine zr_goto hB dX9_fit_180 (tgt := 127) rfl ?_
                      exact zc_sub [1, 2, 3, 4, 5, 6, 7, 8, 9, 10, 11, 12, 13, 0] rfl (ih127 σ99 x104 hO101 hA103 (by omega) (by omega) (by omega))
                    refine zr_iload hB 13 dX9_fit_143 rfl ?_
                    refine zr_iload_n hB 3 dX9_fit_145 rfl ?_
                    refine zr_isub hB dX9_fit_146 (by omega) (by omega) (fun x105 ex105 => ?_)
                    refine zr_aload_n hB 0 dX9_fit_147 rfl ?_
                    refine zr_geti' hG 0 1 (σ71.1 0 1) dX9_fit_148 rfl wf_X9_101 rfl rfl ?_
                    have b106 : 0 ≤ (σ71.1 0 1).toInt ∧ (σ71.1 0 1).toInt ≤ 63 := ⟨(hO71 0 1).1, (hO71 0 1).2.1⟩
                    refine zr_icmp_le hB dX9_fit_151 (tgt := 158) rfl (fun c107 => ?_) (fun c107 => ?_)
                    · refine zr_aload_n hB 0 dX9_fit_158 rfl ?_
                      refine zr_iload_n hB 2 dX9_fit_159 rfl ?_
                      refine zr_iload hB 11 dX9_fit_160 rfl ?_
                      refine zr_iload hB 12 dX9_fit_162 rfl ?_
                      refine zr_iload_n hB 1 dX9_fit_164 rfl ?_
                      refine zr_iload hB 13 dX9_fit_165 rfl ?_
                      refine zr_iload_n hB 3 dX9_fit_167 rfl ?_
                      refine zr_isub hB dX9_fit_168 (by omega) (by omega) (fun x108 ex108 => ?_)
                      refine zr_iload_n hB 3 dX9_fit_169 rfl ?_
                      refine zr_callvi hG (rest := [.int y13_70, .ref (zk K 0)]) 0 dX9_fit_170 wm_X9_207 rfl rfl (c_M_tellPlain K hG.2.2.2.2.2.1 σ71 p2 y10_51 c69 p1 x108 p3 hO71 (by omega) (by omega) (by omega) (by omega) (by omega) (by omega) (by omega) (by omega) (by omega)) rfl rfl (Nat.le_of_ble_eq_true rfl) ⟨Nat.le_of_ble_eq_true rfl, Nat.le_of_ble_eq_true rfl, rfl, rfl⟩ (fun r109 σ110 h111 => ?_)
                      obtain ⟨rfl, r109a, r109b, g112⟩ := h111
                      refine zr_iload_n hB 1 dX9_fit_173 rfl ?_
                      refine zr_callvn hG (rest := []) 0 dX9_fit_174 wm_X9_225 rfl rfl (c_M_layDay K hG.2.2.2.2.2.1 σ71 y13_70 r109 p1 hO71 (by omega) (by omega) (by omega) (by omega) (by omega) (by omega)) rfl rfl (Nat.le_of_ble_eq_true rfl) ⟨Nat.le_of_ble_eq_true rfl, Nat.le_of_ble_eq_true rfl, rfl, rfl⟩ (fun σ114 h115 => ?_)
                      obtain ⟨hO116, hAc117⟩ := h115
                      have hA118 := zc_Ag.tr hA71 hAc117 rfl
                      have q119 : (σ114.1 0 1).toInt = (σ71.1 0 1).toInt := congrArg Int32.toInt (hAc117 0 1 rfl).1
                      refine zr_iinc hB 13 dX9_fit_177 rfl (by decide) rfl (by omega) (by omega) (fun x120 ex120 lv' hlv => ?_)
                      obtain rfl : [(13, .int x120), (0, .ref (zk K 0)), (1, .int p1), (2, .int p2), (3, .int p3), (4, .int p4), (5, .int p5), (6, .int p6), (7, .int y7_48), (8, .int y8_49), (9, .int y9_50), (10, .int y10_51), (11, .int y10_51), (12, .int c69)] = lv' := hlv
                      refine zr_goto hB dX9_fit_180 (tgt := 127) rfl ?_
                      exact zc_sub [1, 2, 3, 4, 5, 6, 7, 8, 9, 10, 11, 12, 13, 0] rfl (ih127 σ114 x120 hO116 hA118 (by omega) (by omega) (by omega))
                    refine zr_iconst hB dX9_fit_154 rfl (fun c121 ec121 => ?_)
                    refine zr_goto hB dX9_fit_155 (tgt := 173) rfl ?_
                    refine zr_iload_n hB 1 dX9_fit_173 rfl ?_
                    refine zr_callvn hG (rest := []) 0 dX9_fit_174 wm_X9_225 rfl rfl (c_M_layDay K hG.2.2.2.2.2.1 σ71 y13_70 c121 p1 hO71 (by omega) (by omega) (by omega) (by omega) (by omega) (by omega)) rfl rfl (Nat.le_of_ble_eq_true rfl) ⟨Nat.le_of_ble_eq_true rfl, Nat.le_of_ble_eq_true rfl, rfl, rfl⟩ (fun σ123 h124 => ?_)
                    obtain ⟨hO125, hAc126⟩ := h124
                    have hA127 := zc_Ag.tr hA71 hAc126 rfl
                    have q128 : (σ123.1 0 1).toInt = (σ71.1 0 1).toInt := congrArg Int32.toInt (hAc126 0 1 rfl).1
                    refine zr_iinc hB 13 dX9_fit_177 rfl (by decide) rfl (by omega) (by omega) (fun x129 ex129 lv' hlv => ?_)
                    obtain rfl : [(13, .int x129), (0, .ref (zk K 0)), (1, .int p1), (2, .int p2), (3, .int p3), (4, .int p4), (5, .int p5), (6, .int p6), (7, .int y7_48), (8, .int y8_49), (9, .int y9_50), (10, .int y10_51), (11, .int y10_51), (12, .int c69)] = lv' := hlv
                    refine zr_goto hB dX9_fit_180 (tgt := 127) rfl ?_
                    exact zc_sub [1, 2, 3, 4, 5, 6, 7, 8, 9, 10, 11, 12, 13, 0] rfl (ih127 σ123 x129 hO125 hA127 (by omega) (by omega) (by omega))
                exact zc_sub [3, 4, 5, 6, 7, 8, 9, 10, 11, 12, 13, 2, 1, 0] rfl (L127_72 66 σ52 p4 hO52 hA52 (by omega) (by omega) (by omega))
              refine zr_iload hB 11 dX9_fit_112 rfl ?_
              refine zr_bipush hB dX9_fit_114 rfl (fun c130 ec130 => ?_)
              refine zr_iremc hB dX9_fit_116 ec130 (by omega) (by decide) (fun x131 ex131 => ?_)
              refine zr_goto hB dX9_fit_117 (tgt := 121) rfl ?_
              refine zr_istore hB dX9_fit_121 (by decide) (lv' := [(12, .int x131), (11, .int y10_51), (0, .ref (zk K 0)), (1, .int p1), (2, .int p2), (3, .int p3), (4, .int p4), (5, .int p5), (6, .int p6), (7, .int y7_48), (8, .int y8_49), (9, .int y9_50), (10, .int y10_51)]) rfl ?_
              refine zr_iload hB 6 dX9_fit_123 rfl ?_
              refine zr_istore hB dX9_fit_125 (by decide) (lv' := [(13, .int p4), (12, .int x131), (11, .int y10_51), (0, .ref (zk K 0)), (1, .int p1), (2, .int p2), (3, .int p3), (4, .int p4), (5, .int p5), (6, .int p6), (7, .int y7_48), (8, .int y8_49), (9, .int y9_50), (10, .int y10_51)]) rfl ?_
              have L127_134 : ∀ (n127 : Nat) (σ133 : zc_S) (y13_132 : Int32), zc_O okM σ133 → zc_Ag m_M_fit σ0 σ133 → 0 ≤ y13_132.toInt → y13_132.toInt ≤ 64 → 64 - y13_132.toInt < (n127 : Int) → zc_V 15 K G (zc_D shM K G σ133) [(0, .ref (zk K 0)), (1, .int p1), (2, .int p2), (3, .int p3), (4, .int p4), (5, .int p5), (6, .int p6), (7, .int y7_48), (8, .int y8_49), (9, .int y9_50), (10, .int y10_51), (11, .int y10_51), (12, .int x131), (13, .int y13_132)] 127 [] := by
                intro n127
                induction n127 with
                | zero => intro σ133 y13_132 hO133 hA133 y13_132a y13_132b hn127; exfalso; omega
                | succ n127 ih127 =>
                  intro σ133 y13_132 hO133 hA133 y13_132a y13_132b hn127
                  refine zr_iload hB 13 dX9_fit_127 rfl ?_
                  refine zr_iload hB 5 dX9_fit_129 rfl ?_
                  refine zr_icmp_gt hB dX9_fit_131 (tgt := 183) rfl (fun c135 => ?_) (fun c135 => ?_)
                  · refine zr_aload_n hB 0 dX9_fit_183 rfl ?_
                    refine zr_iload hB 4 dX9_fit_184 rfl ?_
                    refine zr_iload hB 5 dX9_fit_186 rfl ?_
                    refine zr_callvi hG (rest := []) 0 dX9_fit_188 wm_X9_243 rfl rfl (c_M_manyIn K hG.2.2.2.2.2.1 σ133 p4 p5 hO133 (by omega) (by omega) (by omega) (by omega)) rfl rfl (Nat.le_of_ble_eq_true rfl) ⟨Nat.le_of_ble_eq_true rfl, Nat.le_of_ble_eq_true rfl, rfl, rfl⟩ (fun r136 σ137 h138 => ?_)
                    obtain ⟨rfl, r136a, r136b, g139⟩ := h138
                    refine zr_istore hB dX9_fit_191 (by decide) (lv' := [(13, .int r136), (0, .ref (zk K 0)), (1, .int p1), (2, .int p2), (3, .int p3), (4, .int p4), (5, .int p5), (6, .int p6), (7, .int y7_48), (8, .int y8_49), (9, .int y9_50), (10, .int y10_51), (11, .int y10_51), (12, .int x131)]) rfl ?_
                    refine zr_aload_n hB 1 dX9_fit_193 rfl ?_
                    refine zr_iload hB 5 dX9_fit_194 rfl ?_
                    refine zr_iload hB 6 dX9_fit_196 rfl ?_
                    refine zr_callvi hG (rest := []) 0 dX9_fit_198 wm_X9_246 rfl rfl (c_M_sumIn K hG.2.2.2.2.2.1 σ133 p4 p5 hO133 (by omega) (by omega) (by omega) (by omega)) rfl rfl (Nat.le_of_ble_eq_true rfl) ⟨Nat.le_of_ble_eq_true rfl, Nat.le_of_ble_eq_true rfl, rfl, rfl⟩ (fun r140 σ141 h142 => ?_)
                    obtain rfl := h142
                    refine zr_istore hB dX9_fit_201 (by decide) (lv' := [(14, .int r140), (13, .int r136), (0, .ref (zk K 0)), (1, .int p1), (2, .int p2), (3, .int p3), (4, .int p4), (5, .int p5), (6, .int p6), (7, .int y7_48), (8, .int y8_49), (9, .int y9_50), (10, .int y10_51), (11, .int y10_51), (12, .int x131)]) rfl ?_
                    refine zr_iload hB 1 dX9_fit_203 rfl ?_
                    refine zr_iload hB 10 dX9_fit_205 rfl ?_
                    have L229_143 : zc_V 15 K G (zc_D shM K G σ133) [(0, .ref (zk K 0)), (1, .int p1), (2, .int p2), (3, .int p3), (4, .int p4), (5, .int p5), (6, .int p6), (7, .int y7_48), (8, .int y8_49), (9, .int y9_50), (10, .int y10_51), (11, .int y10_51), (12, .int x131), (13, .int r136), (14, .int r140)] 229 [] := by
                      refine zr_iload_n hB 2 dX9_fit_229 rfl ?_
                      refine zr_iconst hB dX9_fit_230 rfl (fun c144 ec144 => ?_)
                      refine zr_icmp_ne hB dX9_fit_231 (tgt := 245) rfl (fun c145 => ?_) (fun c145 => ?_)
                      · exfalso; omega
                      refine zr_bipush hB dX9_fit_234 rfl (fun c146 ec146 => ?_)
                      refine zr_iload hB 11 dX9_fit_236 rfl ?_
                      refine zr_imuld hB dX9_fit_238 ec146 (by omega) (by omega) (fun x147 ex147 => ?_)
                      refine zr_iload hB 12 dX9_fit_239 rfl ?_
                      refine zr_iadd hB dX9_fit_241 (by omega) (by omega) (fun x148 ex148 => ?_)
                      refine zr_goto hB dX9_fit_242 (tgt := 247) rfl ?_
                      refine zr_istore hB dX9_fit_247 (by decide) (lv' := [(7, .int x148), (0, .ref (zk K 0)), (1, .int p1), (2, .int p2), (3, .int p3), (4, .int p4), (5, .int p5), (6, .int p6), (8, .int y8_49), (9, .int y9_50), (10, .int y10_51), (11, .int y10_51), (12, .int x131), (13, .int r136), (14, .int r140)]) rfl ?_
                      refine zr_iload hB 13 dX9_fit_249 rfl ?_
                      refine zr_istore hB dX9_fit_251 (by decide) (lv' := [(8, .int r136), (7, .int x148), (0, .ref (zk K 0)), (1, .int p1), (2, .int p2), (3, .int p3), (4, .int p4), (5, .int p5), (6, .int p6), (9, .int y9_50), (10, .int y10_51), (11, .int y10_51), (12, .int x131), (13, .int r136), (14, .int r140)]) rfl ?_
                      refine zr_iload hB 14 dX9_fit_253 rfl ?_
                      refine zr_istore hB dX9_fit_255 (by decide) (lv' := [(9, .int r140), (8, .int r136), (7, .int x148), (0, .ref (zk K 0)), (1, .int p1), (2, .int p2), (3, .int p3), (4, .int p4), (5, .int p5), (6, .int p6), (10, .int y10_51), (11, .int y10_51), (12, .int x131), (13, .int r136), (14, .int r140)]) rfl ?_
                      refine zr_iinc hB 10 dX9_fit_257 rfl (by decide) rfl (by omega) (by omega) (fun x149 ex149 lv' hlv => ?_)
                      obtain rfl : [(10, .int x149), (9, .int r140), (8, .int r136), (7, .int x148), (0, .ref (zk K 0)), (1, .int p1), (2, .int p2), (3, .int p3), (4, .int p4), (5, .int p5), (6, .int p6), (11, .int y10_51), (12, .int x131), (13, .int r136), (14, .int r140)] = lv' := hlv
                      refine zr_goto hB dX9_fit_260 (tgt := 73) rfl ?_
                      exact zc_sub [4, 5, 6, 7, 8, 9, 10, 3, 2, 1, 0] rfl (ih73 σ133 x148 r136 r140 x149 hO133 hA133 (by omega) (by omega) (by omega) (by omega) (by omega) (by omega) (show (p2.toInt = 2 ∨ 1 ≤ x149.toInt) by omega) (by omega))
                    refine zr_icmp_gt hB dX9_fit_207 (tgt := 229) rfl (fun c150 => ?_) (fun c150 => ?_)
                    · exact zc_sub [2, 3, 4, 5, 6, 7, 8, 9, 10, 11, 12, 13, 14, 1, 0] rfl (L229_143)
                    refine zr_iload hB 1 dX9_fit_210 rfl ?_
                    refine zr_iload hB 10 dX9_fit_212 rfl ?_
                    refine zr_icmp_ne hB dX9_fit_214 (tgt := 257) rfl (fun c151 => ?_) (fun c151 => ?_)
                    · refine zr_iinc hB 12 dX9_fit_257 rfl (by decide) rfl (by omega) (by omega) (fun x152 ex152 lv' hlv => ?_)
                      obtain rfl : [(10, .int x152), (14, .int r140), (13, .int r136), (0, .ref (zk K 0)), (1, .int p1), (2, .int p2), (3, .int p3), (4, .int p4), (5, .int p5), (6, .int p6), (7, .int y7_48), (8, .int y8_49), (9, .int y9_50), (11, .int y10_51), (12, .int x131)] = lv' := hlv
                      refine zr_goto hB dX9_fit_260 (tgt := 73) rfl ?_
                      exact zc_sub [3, 4, 5, 6, 7, 8, 9, 10, 11, 12, 0] rfl (ih73 σ133 y7_48 y8_49 y9_50 x152 hO133 hA133 (by omega) (by omega) (by omega) (by omega) (by omega) (by omega) (show (p2.toInt = 2 ∨ 1 ≤ x152.toInt) by omega) (by omega))
                    refine zr_iload hB 1 dX9_fit_217 rfl ?_
                    refine zr_if_le hB dX9_fit_219 (tgt := 257) rfl (fun c153 => ?_) (fun c153 => ?_)
                    · refine zr_iinc hB 12 dX9_fit_257 rfl (by decide) rfl (by omega) (by omega) (fun x154 ex154 lv' hlv => ?_)
                      obtain rfl : [(10, .int x154), (14, .int r140), (13, .int r136), (0, .ref (zk K 0)), (1, .int p1), (2, .int p2), (3, .int p3), (4, .int p4), (5, .int p5), (6, .int p6), (7, .int y7_48), (8, .int y8_49), (9, .int y9_50), (11, .int y10_51), (12, .int x131)] = lv' := hlv
                      refine zr_goto hB dX9_fit_260 (tgt := 73) rfl ?_
                      exact zc_sub [3, 4, 5, 6, 7, 8, 9, 10, 11, 12, 0] rfl (ih73 σ133 y7_48 y8_49 y9_50 x154 hO133 hA133 (by omega) (by omega) (by omega) (by omega) (by omega) (by omega) (show (p2.toInt = 2 ∨ 1 ≤ x154.toInt) by omega) (by omega))
                    refine zr_iload hB 0 dX9_fit_222 rfl ?_
                    refine zr_iload hB 11 dX9_fit_224 rfl ?_
                    refine zr_icmp_ge hB dX9_fit_226 (tgt := 257) rfl (fun c155 => ?_) (fun c155 => ?_)
                    · refine zr_iinc hB 12 dX9_fit_257 rfl (by decide) rfl (by omega) (by omega) (fun x156 ex156 lv' hlv => ?_)
                      obtain rfl : [(10, .int x156), (14, .int r140), (13, .int r136), (0, .ref (zk K 0)), (1, .int p1), (2, .int p2), (3, .int p3), (4, .int p4), (5, .int p5), (6, .int p6), (7, .int y7_48), (8, .int y8_49), (9, .int y9_50), (11, .int y10_51), (12, .int x131)] = lv' := hlv
                      refine zr_goto hB dX9_fit_260 (tgt := 73) rfl ?_
                      exact zc_sub [3, 4, 5, 6, 7, 8, 9, 10, 11, 12, 0] rfl (ih73 σ133 y7_48 y8_49 y9_50 x156 hO133 hA133 (by omega) (by omega) (by omega) (by omega) (by omega) (by omega) (show (p2.toInt = 2 ∨ 1 ≤ x156.toInt) by omega) (by omega))
                    exact zc_sub [2, 3, 4, 5, 6, 7, 8, 9, 10, 11, 12, 13, 14, 1, 0] rfl (L229_143)
                  refine zr_aload_n hB 0 dX9_fit_134 rfl ?_
                  refine zr_iload hB 13 dX9_fit_135 rfl ?_
                  refine zr_iload hB 13 dX9_fit_137 rfl ?_
                  refine zr_iload_n hB 3 dX9_fit_139 rfl ?_
                  refine zr_icmp_lt hB dX9_fit_140 (tgt := 154) rfl (fun c157 => ?_) (fun c157 => ?_)
                  · refine zr_iconst hB dX9_fit_154 rfl (fun c158 ec158 => ?_)
                    refine zr_goto hB dX9_fit_155 (tgt := 173) rfl ?_
                    refine zr_iload_n hB 1 dX9_fit_173 rfl ?_
                    refine zr_callvn hG (rest := []) 0 dX9_fit_174 wm_X9_225 rfl rfl (c_M_layDay K hG.2.2.2.2.2.1 σ133 y13_132 c158 p1 hO133 (by omega) (by omega) (by omega) (by omega) (by omega) (by omega)) rfl rfl (Nat.le_of_ble_eq_true rfl) ⟨Nat.le_of_ble_eq_true rfl, Nat.le_of_ble_eq_true rfl, rfl, rfl⟩ (fun σ160 h161 => ?_)
                    obtain ⟨hO162, hAc163⟩ := h161
                    have hA164 := zc_Ag.tr hA133 hAc163 rfl
                    refine zr_iinc hB 13 dX9_fit_177 rfl (by decide) rfl (by omega) (by omega) (fun x165 ex165 lv' hlv => ?_)
                    obtain rfl : [(13, .int x165), (0, .ref (zk K 0)), (1, .int p1), (2, .int p2), (3, .int p3), (4, .int p4), (5, .int p5), (6, .int p6), (7, .int y7_48), (8, .int y8_49), (9, .int y9_50), (10, .int y10_51), (11, .int y10_51), (12, .int x131)] = lv' := hlv
                    refine zr_goto hB dX9_fit_180 (tgt := 127) rfl ?_
                    exact zc_sub [1, 2, 3, 4, 5, 6, 7, 8, 9, 10, 11, 12, 13, 0] rfl (ih127 σ160 x165 hO162 hA164 (by omega) (by omega) (by omega))
                  refine zr_iload hB 13 dX9_fit_143 rfl ?_
                  refine zr_iload_n hB 3 dX9_fit_145 rfl ?_
                  refine zr_isub hB dX9_fit_146 (by omega) (by omega) (fun x166 ex166 => ?_)
                  refine zr_aload_n hB 0 dX9_fit_147 rfl ?_
                  refine zr_geti' hG 0 1 (σ133.1 0 1) dX9_fit_148 rfl wf_X9_101 rfl rfl ?_
                  have b167 : 0 ≤ (σ133.1 0 1).toInt ∧ (σ133.1 0 1).toInt ≤ 63 := ⟨(hO133 0 1).1, (hO133 0 1).2.1⟩
                  refine zr_icmp_le hB dX9_fit_151 (tgt := 158) rfl (fun c168 => ?_) (fun c168 => ?_)
                  · refine zr_aload_n hB 0 dX9_fit_158 rfl ?_
                    refine zr_iload_n hB 2 dX9_fit_159 rfl ?_
                    refine zr_iload hB 11 dX9_fit_160 rfl ?_
                    refine zr_iload hB 12 dX9_fit_162 rfl ?_
                    refine zr_iload_n hB 1 dX9_fit_164 rfl ?_
                    refine zr_iload hB 13 dX9_fit_165 rfl ?_
                    refine zr_iload_n hB 3 dX9_fit_167 rfl ?_
                    refine zr_isub hB dX9_fit_168 (by omega) (by omega) (fun x169 ex169 => ?_)
                    refine zr_iload_n hB 3 dX9_fit_169 rfl ?_
                    refine zr_callvi hG (rest := [.int y13_132, .ref (zk K 0)]) 0 dX9_fit_170 wm_X9_207 rfl rfl (c_M_tellPlain K hG.2.2.2.2.2.1 σ133 p2 y10_51 x131 p1 x169 p3 hO133 (by omega) (by omega) (by omega) (by omega) (by omega) (by omega) (by omega) (by omega) (by omega)) rfl rfl (Nat.le_of_ble_eq_true rfl) ⟨Nat.le_of_ble_eq_true rfl, Nat.le_of_ble_eq_true rfl, rfl, rfl⟩ (fun r170 σ171 h172 => ?_)
                    obtain ⟨rfl, r170a, r170b, g173⟩ := h172
                    refine zr_iload_n hB 1 dX9_fit_173 rfl ?_
                    refine zr_callvn hG (rest := []) 0 dX9_fit_174 wm_X9_225 rfl rfl (c_M_layDay K hG.2.2.2.2.2.1 σ133 y13_132 r170 p1 hO133 (by omega) (by omega) (by omega) (by omega) (by omega) (by omega)) rfl rfl (Nat.le_of_ble_eq_true rfl) ⟨Nat.le_of_ble_eq_true rfl, Nat.le_of_ble_eq_true rfl, rfl, rfl⟩ (fun σ175 h176 => ?_)
                    obtain ⟨hO177, hAc178⟩ := h176
                    have hA179 := zc_Ag.tr hA133 hAc178 rfl
                    have q180 : (σ175.1 0 1).toInt = (σ133.1 0 1).toInt := congrArg Int32.toInt (hAc178 0 1 rfl).1
                    refine zr_iinc hB 13 dX9_fit_177 rfl (by decide) rfl (by omega) (by omega) (fun x181 ex181 lv' hlv => ?_)
                    obtain rfl : [(13, .int x181), (0, .ref (zk K 0)), (1, .int p1), (2, .int p2), (3, .int p3), (4, .int p4), (5, .int p5), (6, .int p6), (7, .int y7_48), (8, .int y8_49), (9, .int y9_50), (10, .int y10_51), (11, .int y10_51), (12, .int x131)] = lv' := hlv
                    refine zr_goto hB dX9_fit_180 (tgt := 127) rfl ?_
                    exact zc_sub [1, 2, 3, 4, 5, 6, 7, 8, 9, 10, 11, 12, 13, 0] rfl (ih127 σ175 x181 hO177 hA179 (by omega) (by omega) (by omega))
                  refine zr_iconst hB dX9_fit_154 rfl (fun c182 ec182 => ?_)
                  refine zr_goto hB dX9_fit_155 (tgt := 173) rfl ?_
                  refine zr_iload_n hB 1 dX9_fit_173 rfl ?_
                  refine zr_callvn hG (rest := []) 0 dX9_fit_174 wm_X9_225 rfl rfl (c_M_layDay K hG.2.2.2.2.2.1 σ133 y13_132 c182 p1 hO133 (by omega) (by omega) (by omega) (by omega) (by omega) (by omega)) rfl rfl (Nat.le_of_ble_eq_true rfl) ⟨Nat.le_of_ble_eq_true rfl, Nat.le_of_ble_eq_true rfl, rfl, rfl⟩ (fun σ184 h185 => ?_)
                  obtain ⟨hO186, hAc187⟩ := h185
                  have hA188 := zc_Ag.tr hA133 hAc187 rfl
                  have q189 : (σ184.1 0 1).toInt = (σ133.1 0 1).toInt := congrArg Int32.toInt (hAc187 0 1 rfl).1
                  refine zr_iinc hB 13 dX9_fit_177 rfl (by decide) rfl (by omega) (by omega) (fun x190 ex190 lv' hlv => ?_)
                  obtain rfl : [(13, .int x190), (0, .ref (zk K 0)), (1, .int p1), (2, .int p2), (3, .int p3), (4, .int p4), (5, .int p5), (6, .int p6), (7, .int y7_48), (8, .int y8_49), (9, .int y9_50), (10, .int y10_51), (11, .int y10_51), (12, .int x131)] = lv' := hlv
                  refine zr_goto hB dX9_fit_180 (tgt := 127) rfl ?_
                  exact zc_sub [1, 2, 3, 4, 5, 6, 7, 8, 9, 10, 11, 12, 13, 0] rfl (ih127 σ184 x190 hO186 hA188 (by omega) (by omega) (by omega))
              exact zc_sub [3, 4, 5, 6, 7, 8, 9, 10, 11, 12, 13, 2, 1, 0] rfl (L127_134 66 σ52 p4 hO52 hA52 (by omega) (by omega) (by omega))
            refine zr_iload hB 10 dX9_fit_95 rfl ?_
            refine zr_bipush hB dX9_fit_97 rfl (fun c191 ec191 => ?_)
            refine zr_idivc hB dX9_fit_99 ec191 (by omega) (by decide) (fun x192 ex192 => ?_)
            refine zr_goto hB dX9_fit_100 (tgt := 105) rfl ?_
            refine zr_istore hB dX9_fit_105 (by decide) (lv' := [(11, .int x192), (0, .ref (zk K 0)), (1, .int p1), (2, .int p2), (3, .int p3), (4, .int p4), (5, .int p5), (6, .int p6), (7, .int y7_48), (8, .int y8_49), (9, .int y9_50), (10, .int y10_51)]) rfl ?_
            refine zr_iload_n hB 3 dX9_fit_107 rfl ?_
            refine zr_iconst hB dX9_fit_108 rfl (fun c193 ec193 => ?_)
            refine zr_icmp_ne hB dX9_fit_109 (tgt := 120) rfl (fun c194 => ?_) (fun c194 => ?_)
            · exfalso; omega
            refine zr_iload hB 11 dX9_fit_112 rfl ?_
            refine zr_bipush hB dX9_fit_114 rfl (fun c195 ec195 => ?_)
            refine zr_iremc hB dX9_fit_116 ec195 (by omega) (by decide) (fun x196 ex196 => ?_)
            refine zr_goto hB dX9_fit_117 (tgt := 121) rfl ?_
            refine zr_istore hB dX9_fit_121 (by decide) (lv' := [(12, .int x196), (11, .int x192), (0, .ref (zk K 0)), (1, .int p1), (2, .int p2), (3, .int p3), (4, .int p4), (5, .int p5), (6, .int p6), (7, .int y7_48), (8, .int y8_49), (9, .int y9_50), (10, .int y10_51)]) rfl ?_
            refine zr_iload hB 6 dX9_fit_123 rfl ?_
            refine zr_istore hB dX9_fit_125 (by decide) (lv' := [(13, .int p4), (12, .int x196), (11, .int x192), (0, .ref (zk K 0)), (1, .int p1), (2, .int p2), (3, .int p3), (4, .int p4), (5, .int p5), (6, .int p6), (7, .int y7_48), (8, .int y8_49), (9, .int y9_50), (10, .int y10_51)]) rfl ?_
            have L127_199 : ∀ (n127 : Nat) (σ198 : zc_S) (y13_197 : Int32), zc_O okM σ198 → zc_Ag m_M_fit σ0 σ198 → 0 ≤ y13_197.toInt → y13_197.toInt ≤ 64 → 64 - y13_197.toInt < (n127 : Int) → zc_V 15 K G (zc_D shM K G σ198) [(0, .ref (zk K 0)), (1, .int p1), (2, .int p2), (3, .int p3), (4, .int p4), (5, .int p5), (6, .int p6), (7, .int y7_48), (8, .int y8_49), (9, .int y9_50), (10, .int y10_51), (11, .int x192), (12, .int x196), (13, .int y13_197)] 127 [] := by
              intro n127
              induction n127 with
              | zero => intro σ198 y13_197 hO198 hA198 y13_197a y13_197b hn127; exfalso; omega
              | succ n127 ih127 =>
                intro σ198 y13_197 hO198 hA198 y13_197a y13_197b hn127
                refine zr_iload hB 13 dX9_fit_127 rfl ?_
                refine zr_iload hB 5 dX9_fit_129 rfl ?_
                refine zr_icmp_gt hB dX9_fit_131 (tgt := 183) rfl (fun c200 => ?_) (fun c200 => ?_)
                · refine zr_aload_n hB 0 dX9_fit_183 rfl ?_
                  refine zr_iload hB 4 dX9_fit_184 rfl ?_
                  refine zr_iload hB 5 dX9_fit_186 rfl ?_
                  refine zr_callvi hG (rest := []) 0 dX9_fit_188 wm_X9_243 rfl rfl (c_M_manyIn K hG.2.2.2.2.2.1 σ198 p4 p5 hO198 (by omega) (by omega) (by omega) (by omega)) rfl rfl (Nat.le_of_ble_eq_true rfl) ⟨Nat.le_of_ble_eq_true rfl, Nat.le_of_ble_eq_true rfl, rfl, rfl⟩ (fun r201 σ202 h203 => ?_)
                  obtain ⟨rfl, r201a, r201b, g204⟩ := h203
                  refine zr_istore hB dX9_fit_191 (by decide) (lv' := [(13, .int r201), (0, .ref (zk K 0)), (1, .int p1), (2, .int p2), (3, .int p3), (4, .int p4), (5, .int p5), (6, .int p6), (7, .int y7_48), (8, .int y8_49), (9, .int y9_50), (10, .int y10_51), (11, .int x192), (12, .int x196)]) rfl ?_
                  refine zr_aload_n hB 1 dX9_fit_193 rfl ?_
                  refine zr_iload hB 5 dX9_fit_194 rfl ?_
                  refine zr_iload hB 6 dX9_fit_196 rfl ?_
                  refine zr_callvi hG (rest := []) 0 dX9_fit_198 wm_X9_246 rfl rfl (c_M_sumIn K hG.2.2.2.2.2.1 σ198 p4 p5 hO198 (by omega) (by omega) (by omega) (by omega)) rfl rfl (Nat.le_of_ble_eq_true rfl) ⟨Nat.le_of_ble_eq_true rfl, Nat.le_of_ble_eq_true rfl, rfl, rfl⟩ (fun r205 σ206 h207 => ?_)
                  obtain rfl := h207
                  refine zr_istore hB dX9_fit_201 (by decide) (lv' := [(14, .int r205), (13, .int r201), (0, .ref (zk K 0)), (1, .int p1), (2, .int p2), (3, .int p3), (4, .int p4), (5, .int p5), (6, .int p6), (7, .int y7_48), (8, .int y8_49), (9, .int y9_50), (10, .int y10_51), (11, .int x192), (12, .int x196)]) rfl ?_
                  refine zr_iload hB 1 dX9_fit_203 rfl ?_
                  refine zr_iload hB 10 dX9_fit_205 rfl ?_
                  have L229_208 : zc_V 15 K G (zc_D shM K G σ198) [(0, .ref (zk K 0)), (1, .int p1), (2, .int p2), (3, .int p3), (4, .int p4), (5, .int p5), (6, .int p6), (7, .int y7_48), (8, .int y8_49), (9, .int y9_50), (10, .int y10_51), (11, .int x192), (12, .int x196), (13, .int r201), (14, .int r205)] 229 [] := by
                    refine zr_iload_n hB 2 dX9_fit_229 rfl ?_
                    refine zr_iconst hB dX9_fit_230 rfl (fun c209 ec209 => ?_)
                    refine zr_icmp_ne hB dX9_fit_231 (tgt := 245) rfl (fun c210 => ?_) (fun c210 => ?_)
                    · exfalso; omega
                    refine zr_bipush hB dX9_fit_234 rfl (fun c211 ec211 => ?_)
                    refine zr_iload hB 11 dX9_fit_236 rfl ?_
                    refine zr_imuld hB dX9_fit_238 ec211 (by omega) (by omega) (fun x212 ex212 => ?_)
                    refine zr_iload hB 12 dX9_fit_239 rfl ?_
                    refine zr_iadd hB dX9_fit_241 (by omega) (by omega) (fun x213 ex213 => ?_)
                    refine zr_goto hB dX9_fit_242 (tgt := 247) rfl ?_
                    refine zr_istore hB dX9_fit_247 (by decide) (lv' := [(7, .int x213), (0, .ref (zk K 0)), (1, .int p1), (2, .int p2), (3, .int p3), (4, .int p4), (5, .int p5), (6, .int p6), (8, .int y8_49), (9, .int y9_50), (10, .int y10_51), (11, .int x192), (12, .int x196), (13, .int r201), (14, .int r205)]) rfl ?_
                    refine zr_iload hB 13 dX9_fit_249 rfl ?_
                    refine zr_istore hB dX9_fit_251 (by decide) (lv' := [(8, .int r201), (7, .int x213), (0, .ref (zk K 0)), (1, .int p1), (2, .int p2), (3, .int p3), (4, .int p4), (5, .int p5), (6, .int p6), (9, .int y9_50), (10, .int y10_51), (11, .int x192), (12, .int x196), (13, .int r201), (14, .int r205)]) rfl ?_
                    refine zr_iload hB 14 dX9_fit_253 rfl ?_
                    refine zr_istore hB dX9_fit_255 (by decide) (lv' := [(9, .int r205), (8, .int r201), (7, .int x213), (0, .ref (zk K 0)), (1, .int p1), (2, .int p2), (3, .int p3), (4, .int p4), (5, .int p5), (6, .int p6), (10, .int y10_51), (11, .int x192), (12, .int x196), (13, .int r201), (14, .int r205)]) rfl ?_
                    refine zr_iinc hB 10 dX9_fit_257 rfl (by decide) rfl (by omega) (by omega) (fun x214 ex214 lv' hlv => ?_)
                    obtain rfl : [(10, .int x214), (9, .int r205), (8, .int r201), (7, .int x213), (0, .ref (zk K 0)), (1, .int p1), (2, .int p2), (3, .int p3), (4, .int p4), (5, .int p5), (6, .int p6), (11, .int x192), (12, .int x196), (13, .int r201), (14, .int r205)] = lv' := hlv
                    refine zr_goto hB dX9_fit_260 (tgt := 73) rfl ?_
                    exact zc_sub [4, 5, 6, 7, 8, 9, 10, 3, 2, 1, 0] rfl (ih73 σ198 x213 r201 r205 x214 hO198 hA198 (by omega) (by omega) (by omega) (by omega) (by omega) (by omega) (show (p2.toInt = 2 ∨ 1 ≤ x214.toInt) by omega) (by omega))
                  refine zr_icmp_gt hB dX9_fit_207 (tgt := 229) rfl (fun c215 => ?_) (fun c215 => ?_)
                  · exact zc_sub [2, 3, 4, 5, 6, 7, 8, 9, 10, 11, 12, 13, 14, 1, 0] rfl (L229_208)
                  refine zr_iload hB 1 dX9_fit_210 rfl ?_
                  refine zr_iload hB 10 dX9_fit_212 rfl ?_
                  refine zr_icmp_ne hB dX9_fit_214 (tgt := 257) rfl (fun c216 => ?_) (fun c216 => ?_)
                  · refine zr_iinc hB 12 dX9_fit_257 rfl (by decide) rfl (by omega) (by omega) (fun x217 ex217 lv' hlv => ?_)
                    obtain rfl : [(10, .int x217), (14, .int r205), (13, .int r201), (0, .ref (zk K 0)), (1, .int p1), (2, .int p2), (3, .int p3), (4, .int p4), (5, .int p5), (6, .int p6), (7, .int y7_48), (8, .int y8_49), (9, .int y9_50), (11, .int x192), (12, .int x196)] = lv' := hlv
                    refine zr_goto hB dX9_fit_260 (tgt := 73) rfl ?_
                    exact zc_sub [3, 4, 5, 6, 7, 8, 9, 10, 11, 12, 0] rfl (ih73 σ198 y7_48 y8_49 y9_50 x217 hO198 hA198 (by omega) (by omega) (by omega) (by omega) (by omega) (by omega) (show (p2.toInt = 2 ∨ 1 ≤ x217.toInt) by omega) (by omega))
                  refine zr_iload hB 1 dX9_fit_217 rfl ?_
                  refine zr_if_le hB dX9_fit_219 (tgt := 257) rfl (fun c218 => ?_) (fun c218 => ?_)
                  · refine zr_iinc hB 12 dX9_fit_257 rfl (by decide) rfl (by omega) (by omega) (fun x219 ex219 lv' hlv => ?_)
                    obtain rfl : [(10, .int x219), (14, .int r205), (13, .int r201), (0, .ref (zk K 0)), (1, .int p1), (2, .int p2), (3, .int p3), (4, .int p4), (5, .int p5), (6, .int p6), (7, .int y7_48), (8, .int y8_49), (9, .int y9_50), (11, .int x192), (12, .int x196)] = lv' := hlv
                    refine zr_goto hB dX9_fit_260 (tgt := 73) rfl ?_
                    exact zc_sub [3, 4, 5, 6, 7, 8, 9, 10, 11, 12, 0] rfl (ih73 σ198 y7_48 y8_49 y9_50 x219 hO198 hA198 (by omega) (by omega) (by omega) (by omega) (by omega) (by omega) (show (p2.toInt = 2 ∨ 1 ≤ x219.toInt) by omega) (by omega))
                  refine zr_iload hB 0 dX9_fit_222 rfl ?_
                  refine zr_iload hB 11 dX9_fit_224 rfl ?_
                  refine zr_icmp_ge hB dX9_fit_226 (tgt := 257) rfl (fun c220 => ?_) (fun c220 => ?_)
                  · refine zr_iinc hB 12 dX9_fit_257 rfl (by decide) rfl (by omega) (by omega) (fun x221 ex221 lv' hlv => ?_)
                    obtain rfl : [(10, .int x221), (14, .int r205), (13, .int r201), (0, .ref (zk K 0)), (1, .int p1), (2, .int p2), (3, .int p3), (4, .int p4), (5, .int p5), (6, .int p6), (7, .int y7_48), (8, .int y8_49), (9, .int y9_50), (11, .int x192), (12, .int x196)] = lv' := hlv
                    refine zr_goto hB dX9_fit_260 (tgt := 73) rfl ?_
                    exact zc_sub [3, 4, 5, 6, 7, 8, 9, 10, 11, 12, 0] rfl (ih73 σ198 y7_48 y8_49 y9_50 x221 hO198 hA198 (by omega) (by omega) (by omega) (by omega) (by omega) (by omega) (show (p2.toInt = 2 ∨ 1 ≤ x221.toInt) by omega) (by omega))
                  exact zc_sub [2, 3, 4, 5, 6, 7, 8, 9, 10, 11, 12, 13, 14, 1, 0] rfl (L229_208)
                refine zr_aload_n hB 0 dX9_fit_134 rfl ?_
                refine zr_iload hB 13 dX9_fit_135 rfl ?_
                refine zr_iload hB 13 dX9_fit_137 rfl ?_
                refine zr_iload_n hB 3 dX9_fit_139 rfl ?_
                refine zr_icmp_lt hB dX9_fit_140 (tgt := 154) rfl (fun c222 => ?_) (fun c222 => ?_)
                · refine zr_iconst hB dX9_fit_154 rfl (fun c223 ec223 => ?_)
                  refine zr_goto hB dX9_fit_155 (tgt := 173) rfl ?_
                  refine zr_iload_n hB 1 dX9_fit_173 rfl ?_
                  refine zr_callvn hG (rest := []) 0 dX9_fit_174 wm_X9_225 rfl rfl (c_M_layDay K hG.2.2.2.2.2.1 σ198 y13_197 c223 p1 hO198 (by omega) (by omega) (by omega) (by omega) (by omega) (by omega)) rfl rfl (Nat.le_of_ble_eq_true rfl) ⟨Nat.le_of_ble_eq_true rfl, Nat.le_of_ble_eq_true rfl, rfl, rfl⟩ (fun σ225 h226 => ?_)
                  obtain ⟨hO227, hAc228⟩ := h226
                  have hA229 := zc_Ag.tr hA198 hAc228 rfl
                  refine zr_iinc hB 13 dX9_fit_177 rfl (by decide) rfl (by omega) (by omega) (fun x230 ex230 lv' hlv => ?_)
                  obtain rfl : [(13, .int x230), (0, .ref (zk K 0)), (1, .int p1), (2, .int p2), (3, .int p3), (4, .int p4), (5, .int p5), (6, .int p6), (7, .int y7_48), (8, .int y8_49), (9, .int y9_50), (10, .int y10_51), (11, .int x192), (12, .int x196)] = lv' := hlv
                  refine zr_goto hB dX9_fit_180 (tgt := 127) rfl ?_
                  exact zc_sub [1, 2, 3, 4, 5, 6, 7, 8, 9, 10, 11, 12, 13, 0] rfl (ih127 σ225 x230 hO227 hA229 (by omega) (by omega) (by omega))
                refine zr_iload hB 13 dX9_fit_143 rfl ?_
                refine zr_iload_n hB 3 dX9_fit_145 rfl ?_
                refine zr_isub hB dX9_fit_146 (by omega) (by omega) (fun x231 ex231 => ?_)
                refine zr_aload_n hB 0 dX9_fit_147 rfl ?_
                refine zr_geti' hG 0 1 (σ198.1 0 1) dX9_fit_148 rfl wf_X9_101 rfl rfl ?_
                have b232 : 0 ≤ (σ198.1 0 1).toInt ∧ (σ198.1 0 1).toInt ≤ 63 := ⟨(hO198 0 1).1, (hO198 0 1).2.1⟩
                refine zr_icmp_le hB dX9_fit_151 (tgt := 158) rfl (fun c233 => ?_) (fun c233 => ?_)
                · refine zr_aload_n hB 0 dX9_fit_158 rfl ?_
                  refine zr_iload_n hB 2 dX9_fit_159 rfl ?_
                  refine zr_iload hB 11 dX9_fit_160 rfl ?_
                  refine zr_iload hB 12 dX9_fit_162 rfl ?_
                  refine zr_iload_n hB 1 dX9_fit_164 rfl ?_
                  refine zr_iload hB 13 dX9_fit_165 rfl ?_
                  refine zr_iload_n hB 3 dX9_fit_167 rfl ?_
                  refine zr_isub hB dX9_fit_168 (by omega) (by omega) (fun x234 ex234 => ?_)
                  refine zr_iload_n hB 3 dX9_fit_169 rfl ?_
                  refine zr_callvi hG (rest := [.int y13_197, .ref (zk K 0)]) 0 dX9_fit_170 wm_X9_207 rfl rfl (c_M_tellPlain K hG.2.2.2.2.2.1 σ198 p2 x192 x196 p1 x234 p3 hO198 (by omega) (by omega) (by omega) (by omega) (by omega) (by omega) (by omega) (by omega) (by omega)) rfl rfl (Nat.le_of_ble_eq_true rfl) ⟨Nat.le_of_ble_eq_true rfl, Nat.le_of_ble_eq_true rfl, rfl, rfl⟩ (fun r235 σ236 h237 => ?_)
                  obtain ⟨rfl, r235a, r235b, g238⟩ := h237
                  refine zr_iload_n hB 1 dX9_fit_173 rfl ?_
                  refine zr_callvn hG (rest := []) 0 dX9_fit_174 wm_X9_225 rfl rfl (c_M_layDay K hG.2.2.2.2.2.1 σ198 y13_197 r235 p1 hO198 (by omega) (by omega) (by omega) (by omega) (by omega) (by omega)) rfl rfl (Nat.le_of_ble_eq_true rfl) ⟨Nat.le_of_ble_eq_true rfl, Nat.le_of_ble_eq_true rfl, rfl, rfl⟩ (fun σ240 h241 => ?_)
                  obtain ⟨hO242, hAc243⟩ := h241
                  have hA244 := zc_Ag.tr hA198 hAc243 rfl
                  have q245 : (σ240.1 0 1).toInt = (σ198.1 0 1).toInt := congrArg Int32.toInt (hAc243 0 1 rfl).1
                  refine zr_iinc hB 13 dX9_fit_177 rfl (by decide) rfl (by omega) (by omega) (fun x246 ex246 lv' hlv => ?_)
                  obtain rfl : [(13, .int x246), (0, .ref (zk K 0)), (1, .int p1), (2, .int p2), (3, .int p3), (4, .int p4), (5, .int p5), (6, .int p6), (7, .int y7_48), (8, .int y8_49), (9, .int y9_50), (10, .int y10_51), (11, .int x192), (12, .int x196)] = lv' := hlv
                  refine zr_goto hB dX9_fit_180 (tgt := 127) rfl ?_
                  exact zc_sub [1, 2, 3, 4, 5, 6, 7, 8, 9, 10, 11, 12, 13, 0] rfl (ih127 σ240 x246 hO242 hA244 (by omega) (by omega) (by omega))
                refine zr_iconst hB dX9_fit_154 rfl (fun c247 ec247 => ?_)
                refine zr_goto hB dX9_fit_155 (tgt := 173) rfl ?_
                refine zr_iload_n hB 1 dX9_fit_173 rfl ?_
                refine zr_callvn hG (rest := []) 0 dX9_fit_174 wm_X9_225 rfl rfl (c_M_layDay K hG.2.2.2.2.2.1 σ198 y13_197 c247 p1 hO198 (by omega) (by omega) (by omega) (by omega) (by omega) (by omega)) rfl rfl (Nat.le_of_ble_eq_true rfl) ⟨Nat.le_of_ble_eq_true rfl, Nat.le_of_ble_eq_true rfl, rfl, rfl⟩ (fun σ249 h250 => ?_)
                obtain ⟨hO251, hAc252⟩ := h250
                have hA253 := zc_Ag.tr hA198 hAc252 rfl
                have q254 : (σ249.1 0 1).toInt = (σ198.1 0 1).toInt := congrArg Int32.toInt (hAc252 0 1 rfl).1
                refine zr_iinc hB 13 dX9_fit_177 rfl (by decide) rfl (by omega) (by omega) (fun x255 ex255 lv' hlv => ?_)
                obtain rfl : [(13, .int x255), (0, .ref (zk K 0)), (1, .int p1), (2, .int p2), (3, .int p3), (4, .int p4), (5, .int p5), (6, .int p6), (7, .int y7_48), (8, .int y8_49), (9, .int y9_50), (10, .int y10_51), (11, .int x192), (12, .int x196)] = lv' := hlv
                refine zr_goto hB dX9_fit_180 (tgt := 127) rfl ?_
                exact zc_sub [1, 2, 3, 4, 5, 6, 7, 8, 9, 10, 11, 12, 13, 0] rfl (ih127 σ249 x255 hO251 hA253 (by omega) (by omega) (by omega))
            exact zc_sub [3, 4, 5, 6, 7, 8, 9, 10, 11, 12, 13, 2, 1, 0] rfl (L127_199 66 σ52 p4 hO52 hA52 (by omega) (by omega) (by omega))
          refine zr_bipush hB dX9_fit_80 rfl (fun c256 ec256 => ?_)
          refine zr_goto hB dX9_fit_82 (tgt := 87) rfl ?_
          refine zr_icmp_gt hB dX9_fit_87 (tgt := 263) rfl (fun c257 => ?_) (fun c257 => ?_)
          · refine zr_iload hB 7 dX9_fit_263 rfl ?_
            refine zr_bipush hB dX9_fit_265 rfl (fun c258 ec258 => ?_)
            refine zr_icmp_ne hB dX9_fit_267 (tgt := 275) rfl (fun c259 => ?_) (fun c259 => ?_)
            · refine zr_iload hB 6 dX9_fit_275 rfl ?_
              refine zr_if_ne hB dX9_fit_277 (tgt := 285) rfl (fun c260 => ?_) (fun c260 => ?_)
              · refine zr_iload hB 6 dX9_fit_285 rfl ?_
                refine zr_iconst hB dX9_fit_287 rfl (fun c261 ec261 => ?_)
                refine zr_icmp_ne hB dX9_fit_288 (tgt := 296) rfl (fun c262 => ?_) (fun c262 => ?_)
                · refine zr_iload hB 9 dX9_fit_296 rfl ?_
                  exact zr_iret hG dX9_fit_298 ⟨hO52, hA52⟩
                refine zr_iload hB 8 dX9_fit_291 rfl ?_
                refine zr_goto hB dX9_fit_293 (tgt := 298) rfl ?_
                exact zr_iret hG dX9_fit_298 ⟨hO52, hA52⟩
              refine zr_iload hB 7 dX9_fit_280 rfl ?_
              refine zr_goto hB dX9_fit_282 (tgt := 298) rfl ?_
              exact zr_iret hG dX9_fit_298 ⟨hO52, hA52⟩
            refine zr_bipush hB dX9_fit_270 rfl (fun c263 ec263 => ?_)
            refine zr_goto hB dX9_fit_272 (tgt := 298) rfl ?_
            exact zr_iret hG dX9_fit_298 ⟨hO52, hA52⟩
          refine zr_iload_n hB 2 dX9_fit_90 rfl ?_
          refine zr_iconst hB dX9_fit_91 rfl (fun c264 ec264 => ?_)
          refine zr_icmp_ne hB dX9_fit_92 (tgt := 103) rfl (fun c265 => ?_) (fun c265 => ?_)
          · exfalso; omega
          refine zr_iload hB 10 dX9_fit_95 rfl ?_
          refine zr_bipush hB dX9_fit_97 rfl (fun c266 ec266 => ?_)
          refine zr_idivc hB dX9_fit_99 ec266 (by omega) (by decide) (fun x267 ex267 => ?_)
          refine zr_goto hB dX9_fit_100 (tgt := 105) rfl ?_
          refine zr_istore hB dX9_fit_105 (by decide) (lv' := [(11, .int x267), (0, .ref (zk K 0)), (1, .int p1), (2, .int p2), (3, .int p3), (4, .int p4), (5, .int p5), (6, .int p6), (7, .int y7_48), (8, .int y8_49), (9, .int y9_50), (10, .int y10_51)]) rfl ?_
          refine zr_iload_n hB 3 dX9_fit_107 rfl ?_
          refine zr_iconst hB dX9_fit_108 rfl (fun c268 ec268 => ?_)
          refine zr_icmp_ne hB dX9_fit_109 (tgt := 120) rfl (fun c269 => ?_) (fun c269 => ?_)
          · exfalso; omega
          refine zr_iload hB 11 dX9_fit_112 rfl ?_
          refine zr_bipush hB dX9_fit_114 rfl (fun c270 ec270 => ?_)
          refine zr_iremc hB dX9_fit_116 ec270 (by omega) (by decide) (fun x271 ex271 => ?_)
          refine zr_goto hB dX9_fit_117 (tgt := 121) rfl ?_
          refine zr_istore hB dX9_fit_121 (by decide) (lv' := [(12, .int x271), (11, .int x267), (0, .ref (zk K 0)), (1, .int p1), (2, .int p2), (3, .int p3), (4, .int p4), (5, .int p5), (6, .int p6), (7, .int y7_48), (8, .int y8_49), (9, .int y9_50), (10, .int y10_51)]) rfl ?_
          refine zr_iload hB 6 dX9_fit_123 rfl ?_
          refine zr_istore hB dX9_fit_125 (by decide) (lv' := [(13, .int p4), (12, .int x271), (11, .int x267), (0, .ref (zk K 0)), (1, .int p1), (2, .int p2), (3, .int p3), (4, .int p4), (5, .int p5), (6, .int p6), (7, .int y7_48), (8, .int y8_49), (9, .int y9_50), (10, .int y10_51)]) rfl ?_
          have L127_274 : ∀ (n127 : Nat) (σ273 : zc_S) (y13_272 : Int32), zc_O okM σ273 → zc_Ag m_M_fit σ0 σ273 → 0 ≤ y13_272.toInt → y13_272.toInt ≤ 64 → 64 - y13_272.toInt < (n127 : Int) → zc_V 15 K G (zc_D shM K G σ273) [(0, .ref (zk K 0)), (1, .int p1), (2, .int p2), (3, .int p3), (4, .int p4), (5, .int p5), (6, .int p6), (7, .int y7_48), (8, .int y8_49), (9, .int y9_50), (10, .int y10_51), (11, .int x267), (12, .int x271), (13, .int y13_272)] 127 [] := by
            intro n127
            induction n127 with
            | zero => intro σ273 y13_272 hO273 hA273 y13_272a y13_272b hn127; exfalso; omega
            | succ n127 ih127 =>
              intro σ273 y13_272 hO273 hA273 y13_272a y13_272b hn127
              refine zr_iload hB 13 dX9_fit_127 rfl ?_
              refine zr_iload hB 5 dX9_fit_129 rfl ?_
              refine zr_icmp_gt hB dX9_fit_131 (tgt := 183) rfl (fun c275 => ?_) (fun c275 => ?_)
              · refine zr_aload_n hB 0 dX9_fit_183 rfl ?_
                refine zr_iload hB 4 dX9_fit_184 rfl ?_
                refine zr_iload hB 5 dX9_fit_186 rfl ?_
                refine zr_callvi hG (rest := []) 0 dX9_fit_188 wm_X9_243 rfl rfl (c_M_manyIn K hG.2.2.2.2.2.1 σ273 p4 p5 hO273 (by omega) (by omega) (by omega) (by omega)) rfl rfl (Nat.le_of_ble_eq_true rfl) ⟨Nat.le_of_ble_eq_true rfl, Nat.le_of_ble_eq_true rfl, rfl, rfl⟩ (fun r276 σ277 h278 => ?_)
                obtain ⟨rfl, r276a, r276b, g279⟩ := h278
                refine zr_istore hB dX9_fit_191 (by decide) (lv' := [(13, .int r276), (0, .ref (zk K 0)), (1, .int p1), (2, .int p2), (3, .int p3), (4, .int p4), (5, .int p5), (6, .int p6), (7, .int y7_48), (8, .int y8_49), (9, .int y9_50), (10, .int y10_51), (11, .int x267), (12, .int x271)]) rfl ?_
                refine zr_aload_n hB 1 dX9_fit_193 rfl ?_
                refine zr_iload hB 5 dX9_fit_194 rfl ?_
                refine zr_iload hB 6 dX9_fit_196 rfl ?_
                refine zr_callvi hG (rest := []) 0 dX9_fit_198 wm_X9_246 rfl rfl (c_M_sumIn K hG.2.2.2.2.2.1 σ273 p4 p5 hO273 (by omega) (by omega) (by omega) (by omega)) rfl rfl (Nat.le_of_ble_eq_true rfl) ⟨Nat.le_of_ble_eq_true rfl, Nat.le_of_ble_eq_true rfl, rfl, rfl⟩ (fun r280 σ281 h282 => ?_)
                obtain rfl := h282
                refine zr_istore hB dX9_fit_201 (by decide) (lv' := [(14, .int r280), (13, .int r276), (0, .ref (zk K 0)), (1, .int p1), (2, .int p2), (3, .int p3), (4, .int p4), (5, .int p5), (6, .int p6), (7, .int y7_48), (8, .int y8_49), (9, .int y9_50), (10, .int y10_51), (11, .int x267), (12, .int x271)]) rfl ?_
                refine zr_iload hB 1 dX9_fit_203 rfl ?_
                refine zr_iload hB 10 dX9_fit_205 rfl ?_
                have L229_283 : zc_V 15 K G (zc_D shM K G σ273) [(0, .ref (zk K 0)), (1, .int p1), (2, .int p2), (3, .int p3), (4, .int p4), (5, .int p5), (6, .int p6), (7, .int y7_48), (8, .int y8_49), (9, .int y9_50), (10, .int y10_51), (11, .int x267), (12, .int x271), (13, .int r276), (14, .int r280)] 229 [] := by
                  refine zr_iload_n hB 2 dX9_fit_229 rfl ?_
                  refine zr_iconst hB dX9_fit_230 rfl (fun c284 ec284 => ?_)
                  refine zr_icmp_ne hB dX9_fit_231 (tgt := 245) rfl (fun c285 => ?_) (fun c285 => ?_)
                  · exfalso; omega
                  refine zr_bipush hB dX9_fit_234 rfl (fun c286 ec286 => ?_)
                  refine zr_iload hB 11 dX9_fit_236 rfl ?_
                  refine zr_imuld hB dX9_fit_238 ec286 (by omega) (by omega) (fun x287 ex287 => ?_)
                  refine zr_iload hB 12 dX9_fit_239 rfl ?_
                  refine zr_iadd hB dX9_fit_241 (by omega) (by omega) (fun x288 ex288 => ?_)
                  refine zr_goto hB dX9_fit_242 (tgt := 247) rfl ?_
                  refine zr_istore hB dX9_fit_247 (by decide) (lv' := [(7, .int x288), (0, .ref (zk K 0)), (1, .int p1), (2, .int p2), (3, .int p3), (4, .int p4), (5, .int p5), (6, .int p6), (8, .int y8_49), (9, .int y9_50), (10, .int y10_51), (11, .int x267), (12, .int x271), (13, .int r276), (14, .int r280)]) rfl ?_
                  refine zr_iload hB 13 dX9_fit_249 rfl ?_
                  refine zr_istore hB dX9_fit_251 (by decide) (lv' := [(8, .int r276), (7, .int x288), (0, .ref (zk K 0)), (1, .int p1), (2, .int p2), (3, .int p3), (4, .int p4), (5, .int p5), (6, .int p6), (9, .int y9_50), (10, .int y10_51), (11, .int x267), (12, .int x271), (13, .int r276), (14, .int r280)]) rfl ?_
                  refine zr_iload hB 14 dX9_fit_253 rfl ?_
                  refine zr_istore hB dX9_fit_255 (by decide) (lv' := [(9, .int r280), (8, .int r276), (7, .int x288), (0, .ref (zk K 0)), (1, .int p1), (2, .int p2), (3, .int p3), (4, .int p4), (5, .int p5), (6, .int p6), (10, .int y10_51), (11, .int x267), (12, .int x271), (13, .int r276), (14, .int r280)]) rfl ?_
                  refine zr_iinc hB 10 dX9_fit_257 rfl (by decide) rfl (by omega) (by omega) (fun x289 ex289 lv' hlv => ?_)
                  obtain rfl : [(10, .int x289), (9, .int r280), (8, .int r276), (7, .int x288), (0, .ref (zk K 0)), (1, .int p1), (2, .int p2), (3, .int p3), (4, .int p4), (5, .int p5), (6, .int p6), (11, .int x267), (12, .int x271), (13, .int r276), (14, .int r280)] = lv' := hlv
                  refine zr_goto hB dX9_fit_260 (tgt := 73) rfl ?_
                  exact zc_sub [4, 5, 6, 7, 8, 9, 10, 3, 2, 1, 0] rfl (ih73 σ273 x288 r276 r280 x289 hO273 hA273 (by omega) (by omega) (by omega) (by omega) (by omega) (by omega) (show (p2.toInt = 2 ∨ 1 ≤ x289.toInt) by omega) (by omega))
                refine zr_icmp_gt hB dX9_fit_207 (tgt := 229) rfl (fun c290 => ?_) (fun c290 => ?_)
                · exact zc_sub [2, 3, 4, 5, 6, 7, 8, 9, 10, 11, 12, 13, 14, 1, 0] rfl (L229_283)
                refine zr_iload hB 1 dX9_fit_210 rfl ?_
                refine zr_iload hB 10 dX9_fit_212 rfl ?_
                refine zr_icmp_ne hB dX9_fit_214 (tgt := 257) rfl (fun c291 => ?_) (fun c291 => ?_)
                · refine zr_iinc hB 12 dX9_fit_257 rfl (by decide) rfl (by omega) (by omega) (fun x292 ex292 lv' hlv => ?_)
                  obtain rfl : [(10, .int x292), (14, .int r280), (13, .int r276), (0, .ref (zk K 0)), (1, .int p1), (2, .int p2), (3, .int p3), (4, .int p4), (5, .int p5), (6, .int p6), (7, .int y7_48), (8, .int y8_49), (9, .int y9_50), (11, .int x267), (12, .int x271)] = lv' := hlv
                  refine zr_goto hB dX9_fit_260 (tgt := 73) rfl ?_
                  exact zc_sub [3, 4, 5, 6, 7, 8, 9, 10, 11, 12, 0] rfl (ih73 σ273 y7_48 y8_49 y9_50 x292 hO273 hA273 (by omega) (by omega) (by omega) (by omega) (by omega) (by omega) (show (p2.toInt = 2 ∨ 1 ≤ x292.toInt) by omega) (by omega))
                refine zr_iload hB 1 dX9_fit_217 rfl ?_
                refine zr_if_le hB dX9_fit_219 (tgt := 257) rfl (fun c293 => ?_) (fun c293 => ?_)
                · refine zr_iinc hB 12 dX9_fit_257 rfl (by decide) rfl (by omega) (by omega) (fun x294 ex294 lv' hlv => ?_)
                  obtain rfl : [(10, .int x294), (14, .int r280), (13, .int r276), (0, .ref (zk K 0)), (1, .int p1), (2, .int p2), (3, .int p3), (4, .int p4), (5, .int p5), (6, .int p6), (7, .int y7_48), (8, .int y8_49), (9, .int y9_50), (11, .int x267), (12, .int x271)] = lv' := hlv
                  refine zr_goto hB dX9_fit_260 (tgt := 73) rfl ?_
                  exact zc_sub [3, 4, 5, 6, 7, 8, 9, 10, 11, 12, 0] rfl (ih73 σ273 y7_48 y8_49 y9_50 x294 hO273 hA273 (by omega) (by omega) (by omega) (by omega) (by omega) (by omega) (show (p2.toInt = 2 ∨ 1 ≤ x294.toInt) by omega) (by omega))
                refine zr_iload hB 0 dX9_fit_222 rfl ?_
                refine zr_iload hB 11 dX9_fit_224 rfl ?_
                refine zr_icmp_ge hB dX9_fit_226 (tgt := 257) rfl (fun c295 => ?_) (fun c295 => ?_)
                · refine zr_iinc hB 12 dX9_fit_257 rfl (by decide) rfl (by omega) (by omega) (fun x296 ex296 lv' hlv => ?_)
                  obtain rfl : [(10, .int x296), (14, .int r280), (13, .int r276), (0, .ref (zk K 0)), (1, .int p1), (2, .int p2), (3, .int p3), (4, .int p4), (5, .int p5), (6, .int p6), (7, .int y7_48), (8, .int y8_49), (9, .int y9_50), (11, .int x267), (12, .int x271)] = lv' := hlv
                  refine zr_goto hB dX9_fit_260 (tgt := 73) rfl ?_
                  exact zc_sub [3, 4, 5, 6, 7, 8, 9, 10, 11, 12, 0] rfl (ih73 σ273 y7_48 y8_49 y9_50 x296 hO273 hA273 (by omega) (by omega) (by omega) (by omega) (by omega) (by omega) (show (p2.toInt = 2 ∨ 1 ≤ x296.toInt) by omega) (by omega))
                exact zc_sub [2, 3, 4, 5, 6, 7, 8, 9, 10, 11, 12, 13, 14, 1, 0] rfl (L229_283)
              refine zr_aload_n hB 0 dX9_fit_134 rfl ?_
              refine zr_iload hB 13 dX9_fit_135 rfl ?_
              refine zr_iload hB 13 dX9_fit_137 rfl ?_
              refine zr_iload_n hB 3 dX9_fit_139 rfl ?_
              refine zr_icmp_lt hB dX9_fit_140 (tgt := 154) rfl (fun c297 => ?_) (fun c297 => ?_)
              · refine zr_iconst hB dX9_fit_154 rfl (fun c298 ec298 => ?_)
                refine zr_goto hB dX9_fit_155 (tgt := 173) rfl ?_
                refine zr_iload_n hB 1 dX9_fit_173 rfl ?_
                refine zr_callvn hG (rest := []) 0 dX9_fit_174 wm_X9_225 rfl rfl (c_M_layDay K hG.2.2.2.2.2.1 σ273 y13_272 c298 p1 hO273 (by omega) (by omega) (by omega) (by omega) (by omega) (by omega)) rfl rfl (Nat.le_of_ble_eq_true rfl) ⟨Nat.le_of_ble_eq_true rfl, Nat.le_of_ble_eq_true rfl, rfl, rfl⟩ (fun σ300 h301 => ?_)
                obtain ⟨hO302, hAc303⟩ := h301
                have hA304 := zc_Ag.tr hA273 hAc303 rfl
                refine zr_iinc hB 13 dX9_fit_177 rfl (by decide) rfl (by omega) (by omega) (fun x305 ex305 lv' hlv => ?_)
                obtain rfl : [(13, .int x305), (0, .ref (zk K 0)), (1, .int p1), (2, .int p2), (3, .int p3), (4, .int p4), (5, .int p5), (6, .int p6), (7, .int y7_48), (8, .int y8_49), (9, .int y9_50), (10, .int y10_51), (11, .int x267), (12, .int x271)] = lv' := hlv
                refine zr_goto hB dX9_fit_180 (tgt := 127) rfl ?_
                exact zc_sub [1, 2, 3, 4, 5, 6, 7, 8, 9, 10, 11, 12, 13, 0] rfl (ih127 σ300 x305 hO302 hA304 (by omega) (by omega) (by omega))
              refine zr_iload hB 13 dX9_fit_143 rfl ?_
              refine zr_iload_n hB 3 dX9_fit_145 rfl ?_
              refine zr_isub hB dX9_fit_146 (by omega) (by omega) (fun x306 ex306 => ?_)
              refine zr_aload_n hB 0 dX9_fit_147 rfl ?_
              refine zr_geti' hG 0 1 (σ273.1 0 1) dX9_fit_148 rfl wf_X9_101 rfl rfl ?_
              have b307 : 0 ≤ (σ273.1 0 1).toInt ∧ (σ273.1 0 1).toInt ≤ 63 := ⟨(hO273 0 1).1, (hO273 0 1).2.1⟩
              refine zr_icmp_le hB dX9_fit_151 (tgt := 158) rfl (fun c308 => ?_) (fun c308 => ?_)
              · refine zr_aload_n hB 0 dX9_fit_158 rfl ?_
                refine zr_iload_n hB 2 dX9_fit_159 rfl ?_
                refine zr_iload hB 11 dX9_fit_160 rfl ?_
                refine zr_iload hB 12 dX9_fit_162 rfl ?_
                refine zr_iload_n hB 1 dX9_fit_164 rfl ?_
                refine zr_iload hB 13 dX9_fit_165 rfl ?_
                refine zr_iload_n hB 3 dX9_fit_167 rfl ?_
                refine zr_isub hB dX9_fit_168 (by omega) (by omega) (fun x309 ex309 => ?_)
                refine zr_iload_n hB 3 dX9_fit_169 rfl ?_
                refine zr_callvi hG (rest := [.int y13_272, .ref (zk K 0)]) 0 dX9_fit_170 wm_X9_207 rfl rfl (c_M_tellPlain K hG.2.2.2.2.2.1 σ273 p2 x267 x271 p1 x309 p3 hO273 (by omega) (by omega) (by omega) (by omega) (by omega) (by omega) (by omega) (by omega) (by omega)) rfl rfl (Nat.le_of_ble_eq_true rfl) ⟨Nat.le_of_ble_eq_true rfl, Nat.le_of_ble_eq_true rfl, rfl, rfl⟩ (fun r310 σ311 h312 => ?_)
                obtain ⟨rfl, r310a, r310b, g313⟩ := h312
                refine zr_iload_n hB 1 dX9_fit_173 rfl ?_
                refine zr_callvn hG (rest := []) 0 dX9_fit_174 wm_X9_225 rfl rfl (c_M_layDay K hG.2.2.2.2.2.1 σ273 y13_272 r310 p1 hO273 (by omega) (by omega) (by omega) (by omega) (by omega) (by omega)) rfl rfl (Nat.le_of_ble_eq_true rfl) ⟨Nat.le_of_ble_eq_true rfl, Nat.le_of_ble_eq_true rfl, rfl, rfl⟩ (fun σ315 h316 => ?_)
                obtain ⟨hO317, hAc318⟩ := h316
                have hA319 := zc_Ag.tr hA273 hAc318 rfl
                have q320 : (σ315.1 0 1).toInt = (σ273.1 0 1).toInt := congrArg Int32.toInt (hAc318 0 1 rfl).1
                refine zr_iinc hB 13 dX9_fit_177 rfl (by decide) rfl (by omega) (by omega) (fun x321 ex321 lv' hlv => ?_)
                obtain rfl : [(13, .int x321), (0, .ref (zk K 0)), (1, .int p1), (2, .int p2), (3, .int p3), (4, .int p4), (5, .int p5), (6, .int p6), (7, .int y7_48), (8, .int y8_49), (9, .int y9_50), (10, .int y10_51), (11, .int x267), (12, .int x271)] = lv' := hlv
                refine zr_goto hB dX9_fit_180 (tgt := 127) rfl ?_
                exact zc_sub [1, 2, 3, 4, 5, 6, 7, 8, 9, 10, 11, 12, 13, 0] rfl (ih127 σ315 x321 hO317 hA319 (by omega) (by omega) (by omega))
              refine zr_iconst hB dX9_fit_154 rfl (fun c322 ec322 => ?_)
              refine zr_goto hB dX9_fit_155 (tgt := 173) rfl ?_
              refine zr_iload_n hB 1 dX9_fit_173 rfl ?_
              refine zr_callvn hG (rest := []) 0 dX9_fit_174 wm_X9_225 rfl rfl (c_M_layDay K hG.2.2.2.2.2.1 σ273 y13_272 c322 p1 hO273 (by omega) (by omega) (by omega) (by omega) (by omega) (by omega)) rfl rfl (Nat.le_of_ble_eq_true rfl) ⟨Nat.le_of_ble_eq_true rfl, Nat.le_of_ble_eq_true rfl, rfl, rfl⟩ (fun σ324 h325 => ?_)
              obtain ⟨hO326, hAc327⟩ := h325
              have hA328 := zc_Ag.tr hA273 hAc327 rfl
              have q329 : (σ324.1 0 1).toInt = (σ273.1 0 1).toInt := congrArg Int32.toInt (hAc327 0 1 rfl).1
              refine zr_iinc hB 13 dX9_fit_177 rfl (by decide) rfl (by omega) (by omega) (fun x330 ex330 lv' hlv => ?_)
              obtain rfl : [(13, .int x330), (0, .ref (zk K 0)), (1, .int p1), (2, .int p2), (3, .int p3), (4, .int p4), (5, .int p5), (6, .int p6), (7, .int y7_48), (8, .int y8_49), (9, .int y9_50), (10, .int y10_51), (11, .int x267), (12, .int x271)] = lv' := hlv
              refine zr_goto hB dX9_fit_180 (tgt := 127) rfl ?_
              exact zc_sub [1, 2, 3, 4, 5, 6, 7, 8, 9, 10, 11, 12, 13, 0] rfl (ih127 σ324 x330 hO326 hA328 (by omega) (by omega) (by omega))
          exact zc_sub [3, 4, 5, 6, 7, 8, 9, 10, 11, 12, 13, 2, 1, 0] rfl (L127_274 66 σ52 p4 hO52 hA52 (by omega) (by omega) (by omega))
      exact zc_sub [4, 5, 6, 7, 8, 9, 10, 3, 2, 1, 0] rfl (L73_54 123 σ0 c42 c43 c44 c47 hO0 hA0 (by omega) (by omega) (by omega) (by omega) (by omega) (by omega) (show (p2.toInt = 2 ∨ 1 ≤ c47.toInt) by omega) (by omega))
    refine zr_iconst hB dX9_fit_66 rfl (fun c331 ec331 => ?_)
    refine zr_goto hB dX9_fit_67 (tgt := 71) rfl ?_
    refine zr_istore hB dX9_fit_71 (by decide) (lv' := [(10, .int c331), (9, .int c44), (8, .int c43), (7, .int c42), (0, .ref (zk K 0)), (1, .int p1), (2, .int p2), (3, .int p3), (4, .int p4), (5, .int p5), (6, .int p6)]) rfl ?_
    have L73_338 : ∀ (n73 : Nat) (σ336 : zc_S) (y7_332 : Int32) (y8_333 : Int32) (y9_334 : Int32) (y10_335 : Int32), zc_O okM σ336 → zc_Ag m_M_fit σ0 σ336 → (-4) ≤ y7_332.toInt → y7_332.toInt ≤ 119 → 0 ≤ y8_333.toInt → y8_333.toInt ≤ 64 → 0 ≤ y10_335.toInt → y10_335.toInt ≤ 121 → ((p2.toInt = 2 ∨ 1 ≤ y10_335.toInt)) → 121 - y10_335.toInt < (n73 : Int) → zc_V 15 K G (zc_D shM K G σ336) [(0, .ref (zk K 0)), (1, .int p1), (2, .int p2), (3, .int p3), (4, .int p4), (5, .int p5), (6, .int p6), (7, .int y7_332), (8, .int y8_333), (9, .int y9_334), (10, .int y10_335)] 73 [] := by
      intro n73
      induction n73 with
      | zero => intro σ336 y7_332 y8_333 y9_334 y10_335 hO336 hA336 y7_332a y7_332b y8_333a y8_333b y10_335a y10_335b e337 hn73; have vy9_334 := And.intro (zn_lo y9_334) (zn_hi y9_334); exfalso; omega
      | succ n73 ih73 =>
        intro σ336 y7_332 y8_333 y9_334 y10_335 hO336 hA336 y7_332a y7_332b y8_333a y8_333b y10_335a y10_335b e337 hn73
        have vy9_334 := And.intro (zn_lo y9_334) (zn_hi y9_334)
        refine zr_iload hB 10 dX9_fit_73 rfl ?_
        refine zr_iload_n hB 2 dX9_fit_75 rfl ?_
        refine zr_iconst hB dX9_fit_76 rfl (fun c339 ec339 => ?_)
        refine zr_icmp_ne hB dX9_fit_77 (tgt := 85) rfl (fun c340 => ?_) (fun c340 => ?_)
        · exfalso; omega
        refine zr_bipush hB dX9_fit_80 rfl (fun c341 ec341 => ?_)
        refine zr_goto hB dX9_fit_82 (tgt := 87) rfl ?_
        refine zr_icmp_gt hB dX9_fit_87 (tgt := 263) rfl (fun c342 => ?_) (fun c342 => ?_)
        · refine zr_iload hB 7 dX9_fit_263 rfl ?_
          refine zr_bipush hB dX9_fit_265 rfl (fun c343 ec343 => ?_)
          refine zr_icmp_ne hB dX9_fit_267 (tgt := 275) rfl (fun c344 => ?_) (fun c344 => ?_)
          · refine zr_iload hB 6 dX9_fit_275 rfl ?_
            refine zr_if_ne hB dX9_fit_277 (tgt := 285) rfl (fun c345 => ?_) (fun c345 => ?_)
            · refine zr_iload hB 6 dX9_fit_285 rfl ?_
              refine zr_iconst hB dX9_fit_287 rfl (fun c346 ec346 => ?_)
              refine zr_icmp_ne hB dX9_fit_288 (tgt := 296) rfl (fun c347 => ?_) (fun c347 => ?_)
              · refine zr_iload hB 9 dX9_fit_296 rfl ?_
                exact zr_iret hG dX9_fit_298 ⟨hO336, hA336⟩
              refine zr_iload hB 8 dX9_fit_291 rfl ?_
              refine zr_goto hB dX9_fit_293 (tgt := 298) rfl ?_
              exact zr_iret hG dX9_fit_298 ⟨hO336, hA336⟩
            refine zr_iload hB 7 dX9_fit_280 rfl ?_
            refine zr_goto hB dX9_fit_282 (tgt := 298) rfl ?_
            exact zr_iret hG dX9_fit_298 ⟨hO336, hA336⟩
          refine zr_bipush hB dX9_fit_270 rfl (fun c348 ec348 => ?_)
          refine zr_goto hB dX9_fit_272 (tgt := 298) rfl ?_
          exact zr_iret hG dX9_fit_298 ⟨hO336, hA336⟩
        refine zr_iload_n hB 2 dX9_fit_90 rfl ?_
        refine zr_iconst hB dX9_fit_91 rfl (fun c349 ec349 => ?_)
        refine zr_icmp_ne hB dX9_fit_92 (tgt := 103) rfl (fun c350 => ?_) (fun c350 => ?_)
        · exfalso; omega
        refine zr_iload hB 10 dX9_fit_95 rfl ?_
        refine zr_bipush hB dX9_fit_97 rfl (fun c351 ec351 => ?_)
        refine zr_idivc hB dX9_fit_99 ec351 (by omega) (by decide) (fun x352 ex352 => ?_)
        refine zr_goto hB dX9_fit_100 (tgt := 105) rfl ?_
        refine zr_istore hB dX9_fit_105 (by decide) (lv' := [(11, .int x352), (0, .ref (zk K 0)), (1, .int p1), (2, .int p2), (3, .int p3), (4, .int p4), (5, .int p5), (6, .int p6), (7, .int y7_332), (8, .int y8_333), (9, .int y9_334), (10, .int y10_335)]) rfl ?_
        refine zr_iload_n hB 3 dX9_fit_107 rfl ?_
        refine zr_iconst hB dX9_fit_108 rfl (fun c353 ec353 => ?_)
        refine zr_icmp_ne hB dX9_fit_109 (tgt := 120) rfl (fun c354 => ?_) (fun c354 => ?_)
        · exfalso; omega
        refine zr_iload hB 11 dX9_fit_112 rfl ?_
        refine zr_bipush hB dX9_fit_114 rfl (fun c355 ec355 => ?_)
        refine zr_iremc hB dX9_fit_116 ec355 (by omega) (by decide) (fun x356 ex356 => ?_)
        refine zr_goto hB dX9_fit_117 (tgt := 121) rfl ?_
        refine zr_istore hB dX9_fit_121 (by decide) (lv' := [(12, .int x356), (11, .int x352), (0, .ref (zk K 0)), (1, .int p1), (2, .int p2), (3, .int p3), (4, .int p4), (5, .int p5), (6, .int p6), (7, .int y7_332), (8, .int y8_333), (9, .int y9_334), (10, .int y10_335)]) rfl ?_
        refine zr_iload hB 6 dX9_fit_123 rfl ?_
        refine zr_istore hB dX9_fit_125 (by decide) (lv' := [(13, .int p4), (12, .int x356), (11, .int x352), (0, .ref (zk K 0)), (1, .int p1), (2, .int p2), (3, .int p3), (4, .int p4), (5, .int p5), (6, .int p6), (7, .int y7_332), (8, .int y8_333), (9, .int y9_334), (10, .int y10_335)]) rfl ?_
        have L127_359 : ∀ (n127 : Nat) (σ358 : zc_S) (y13_357 : Int32), zc_O okM σ358 → zc_Ag m_M_fit σ0 σ358 → 0 ≤ y13_357.toInt → y13_357.toInt ≤ 64 → 64 - y13_357.toInt < (n127 : Int) → zc_V 15 K G (zc_D shM K G σ358) [(0, .ref (zk K 0)), (1, .int p1), (2, .int p2), (3, .int p3), (4, .int p4), (5, .int p5), (6, .int p6), (7, .int y7_332), (8, .int y8_333), (9, .int y9_334), (10, .int y10_335), (11, .int x352), (12, .int x356), (13, .int y13_357)] 127 [] := by
          intro n127
          induction n127 with
          | zero => intro σ358 y13_357 hO358 hA358 y13_357a y13_357b hn127; exfalso; omega
          | succ n127 ih127 =>
            intro σ358 y13_357 hO358 hA358 y13_357a y13_357b hn127
            refine zr_iload hB 13 dX9_fit_127 rfl ?_
            refine zr_iload hB 5 dX9_fit_129 rfl ?_
            refine zr_icmp_gt hB dX9_fit_131 (tgt := 183) rfl (fun c360 => ?_) (fun c360 => ?_)
            · refine zr_aload_n hB 0 dX9_fit_183 rfl ?_
              refine zr_iload hB 4 dX9_fit_184 rfl ?_
              refine zr_iload hB 5 dX9_fit_186 rfl ?_
              refine zr_callvi hG (rest := []) 0 dX9_fit_188 wm_X9_243 rfl rfl (c_M_manyIn K hG.2.2.2.2.2.1 σ358 p4 p5 hO358 (by omega) (by omega) (by omega) (by omega)) rfl rfl (Nat.le_of_ble_eq_true rfl) ⟨Nat.le_of_ble_eq_true rfl, Nat.le_of_ble_eq_true rfl, rfl, rfl⟩ (fun r361 σ362 h363 => ?_)
              obtain ⟨rfl, r361a, r361b, g364⟩ := h363
              refine zr_istore hB dX9_fit_191 (by decide) (lv' := [(13, .int r361), (0, .ref (zk K 0)), (1, .int p1), (2, .int p2), (3, .int p3), (4, .int p4), (5, .int p5), (6, .int p6), (7, .int y7_332), (8, .int y8_333), (9, .int y9_334), (10, .int y10_335), (11, .int x352), (12, .int x356)]) rfl ?_
              refine zr_aload_n hB 1 dX9_fit_193 rfl ?_
              refine zr_iload hB 5 dX9_fit_194 rfl ?_
              refine zr_iload hB 6 dX9_fit_196 rfl ?_
              refine zr_callvi hG (rest := []) 0 dX9_fit_198 wm_X9_246 rfl rfl (c_M_sumIn K hG.2.2.2.2.2.1 σ358 p4 p5 hO358 (by omega) (by omega) (by omega) (by omega)) rfl rfl (Nat.le_of_ble_eq_true rfl) ⟨Nat.le_of_ble_eq_true rfl, Nat.le_of_ble_eq_true rfl, rfl, rfl⟩ (fun r365 σ366 h367 => ?_)
              obtain rfl := h367
              refine zr_istore hB dX9_fit_201 (by decide) (lv' := [(14, .int r365), (13, .int r361), (0, .ref (zk K 0)), (1, .int p1), (2, .int p2), (3, .int p3), (4, .int p4), (5, .int p5), (6, .int p6), (7, .int y7_332), (8, .int y8_333), (9, .int y9_334), (10, .int y10_335), (11, .int x352), (12, .int x356)]) rfl ?_
              refine zr_iload hB 1 dX9_fit_203 rfl ?_
              refine zr_iload hB 10 dX9_fit_205 rfl ?_
              have L229_368 : zc_V 15 K G (zc_D shM K G σ358) [(0, .ref (zk K 0)), (1, .int p1), (2, .int p2), (3, .int p3), (4, .int p4), (5, .int p5), (6, .int p6), (7, .int y7_332), (8, .int y8_333), (9, .int y9_334), (10, .int y10_335), (11, .int x352), (12, .int x356), (13, .int r361), (14, .int r365)] 229 [] := by
                refine zr_iload_n hB 2 dX9_fit_229 rfl ?_
                refine zr_iconst hB dX9_fit_230 rfl (fun c369 ec369 => ?_)
                refine zr_icmp_ne hB dX9_fit_231 (tgt := 245) rfl (fun c370 => ?_) (fun c370 => ?_)
                · exfalso; omega
                refine zr_bipush hB dX9_fit_234 rfl (fun c371 ec371 => ?_)
                refine zr_iload hB 11 dX9_fit_236 rfl ?_
                refine zr_imuld hB dX9_fit_238 ec371 (by omega) (by omega) (fun x372 ex372 => ?_)
                refine zr_iload hB 12 dX9_fit_239 rfl ?_
                refine zr_iadd hB dX9_fit_241 (by omega) (by omega) (fun x373 ex373 => ?_)
                refine zr_goto hB dX9_fit_242 (tgt := 247) rfl ?_
                refine zr_istore hB dX9_fit_247 (by decide) (lv' := [(7, .int x373), (0, .ref (zk K 0)), (1, .int p1), (2, .int p2), (3, .int p3), (4, .int p4), (5, .int p5), (6, .int p6), (8, .int y8_333), (9, .int y9_334), (10, .int y10_335), (11, .int x352), (12, .int x356), (13, .int r361), (14, .int r365)]) rfl ?_
                refine zr_iload hB 13 dX9_fit_249 rfl ?_
                refine zr_istore hB dX9_fit_251 (by decide) (lv' := [(8, .int r361), (7, .int x373), (0, .ref (zk K 0)), (1, .int p1), (2, .int p2), (3, .int p3), (4, .int p4), (5, .int p5), (6, .int p6), (9, .int y9_334), (10, .int y10_335), (11, .int x352), (12, .int x356), (13, .int r361), (14, .int r365)]) rfl ?_
                refine zr_iload hB 14 dX9_fit_253 rfl ?_
                refine zr_istore hB dX9_fit_255 (by decide) (lv' := [(9, .int r365), (8, .int r361), (7, .int x373), (0, .ref (zk K 0)), (1, .int p1), (2, .int p2), (3, .int p3), (4, .int p4), (5, .int p5), (6, .int p6), (10, .int y10_335), (11, .int x352), (12, .int x356), (13, .int r361), (14, .int r365)]) rfl ?_
                refine zr_iinc hB 10 dX9_fit_257 rfl (by decide) rfl (by omega) (by omega) (fun x374 ex374 lv' hlv => ?_)
                obtain rfl : [(10, .int x374), (9, .int r365), (8, .int r361), (7, .int x373), (0, .ref (zk K 0)), (1, .int p1), (2, .int p2), (3, .int p3), (4, .int p4), (5, .int p5), (6, .int p6), (11, .int x352), (12, .int x356), (13, .int r361), (14, .int r365)] = lv' := hlv
                refine zr_goto hB dX9_fit_260 (tgt := 73) rfl ?_
                exact zc_sub [4, 5, 6, 7, 8, 9, 10, 3, 2, 1, 0] rfl (ih73 σ358 x373 r361 r365 x374 hO358 hA358 (by omega) (by omega) (by omega) (by omega) (by omega) (by omega) (show (p2.toInt = 2 ∨ 1 ≤ x374.toInt) by omega) (by omega))
              refine zr_icmp_gt hB dX9_fit_207 (tgt := 229) rfl (fun c375 => ?_) (fun c375 => ?_)
              · exact zc_sub [2, 3, 4, 5, 6, 7, 8, 9, 10, 11, 12, 13, 14, 1, 0] rfl (L229_368)
              refine zr_iload hB 1 dX9_fit_210 rfl ?_
              refine zr_iload hB 10 dX9_fit_212 rfl ?_
              refine zr_icmp_ne hB dX9_fit_214 (tgt := 257) rfl (fun c376 => ?_) (fun c376 => ?_)
              · refine zr_iinc hB 12 dX9_fit_257 rfl (by decide) rfl (by omega) (by omega) (fun x377 ex377 lv' hlv => ?_)
                obtain rfl : [(10, .int x377), (14, .int r365), (13, .int r361), (0, .ref (zk K 0)), (1, .int p1), (2, .int p2), (3, .int p3), (4, .int p4), (5, .int p5), (6, .int p6), (7, .int y7_332), (8, .int y8_333), (9, .int y9_334), (11, .int x352), (12, .int x356)] = lv' := hlv
                refine zr_goto hB dX9_fit_260 (tgt := 73) rfl ?_
                exact zc_sub [3, 4, 5, 6, 7, 8, 9, 10, 11, 12, 0] rfl (ih73 σ358 y7_332 y8_333 y9_334 x377 hO358 hA358 (by omega) (by omega) (by omega) (by omega) (by omega) (by omega) (show (p2.toInt = 2 ∨ 1 ≤ x377.toInt) by omega) (by omega))
              refine zr_iload hB 1 dX9_fit_217 rfl ?_
              refine zr_if_le hB dX9_fit_219 (tgt := 257) rfl (fun c378 => ?_) (fun c378 => ?_)
              · refine zr_iinc hB 12 dX9_fit_257 rfl (by decide) rfl (by omega) (by omega) (fun x379 ex379 lv' hlv => ?_)
                obtain rfl : [(10, .int x379), (14, .int r365), (13, .int r361), (0, .ref (zk K 0)), (1, .int p1), (2, .int p2), (3, .int p3), (4, .int p4), (5, .int p5), (6, .int p6), (7, .int y7_332), (8, .int y8_333), (9, .int y9_334), (11, .int x352), (12, .int x356)] = lv' := hlv
                refine zr_goto hB dX9_fit_260 (tgt := 73) rfl ?_
                exact zc_sub [3, 4, 5, 6, 7, 8, 9, 10, 11, 12, 0] rfl (ih73 σ358 y7_332 y8_333 y9_334 x379 hO358 hA358 (by omega) (by omega) (by omega) (by omega) (by omega) (by omega) (show (p2.toInt = 2 ∨ 1 ≤ x379.toInt) by omega) (by omega))
              refine zr_iload hB 0 dX9_fit_222 rfl ?_
              refine zr_iload hB 11 dX9_fit_224 rfl ?_
              refine zr_icmp_ge hB dX9_fit_226 (tgt := 257) rfl (fun c380 => ?_) (fun c380 => ?_)
              · refine zr_iinc hB 12 dX9_fit_257 rfl (by decide) rfl (by omega) (by omega) (fun x381 ex381 lv' hlv => ?_)
                obtain rfl : [(10, .int x381), (14, .int r365), (13, .int r361), (0, .ref (zk K 0)), (1, .int p1), (2, .int p2), (3, .int p3), (4, .int p4), (5, .int p5), (6, .int p6), (7, .int y7_332), (8, .int y8_333), (9, .int y9_334), (11, .int x352), (12, .int x356)] = lv' := hlv
                refine zr_goto hB dX9_fit_260 (tgt := 73) rfl ?_
                exact zc_sub [3, 4, 5, 6, 7, 8, 9, 10, 11, 12, 0] rfl (ih73 σ358 y7_332 y8_333 y9_334 x381 hO358 hA358 (by omega) (by omega) (by omega) (by omega) (by omega) (by omega) (show (p2.toInt = 2 ∨ 1 ≤ x381.toInt) by omega) (by omega))
              exact zc_sub [2, 3, 4, 5, 6, 7, 8, 9, 10, 11, 12, 13, 14, 1, 0] rfl (L229_368)
            refine zr_aload_n hB 0 dX9_fit_134 rfl ?_
            refine zr_iload hB 13 dX9_fit_135 rfl ?_
            refine zr_iload hB 13 dX9_fit_137 rfl ?_
            refine zr_iload_n hB 3 dX9_fit_139 rfl ?_
            refine zr_icmp_lt hB dX9_fit_140 (tgt := 154) rfl (fun c382 => ?_) (fun c382 => ?_)
            · refine zr_iconst hB dX9_fit_154 rfl (fun c383 ec383 => ?_)
              refine zr_goto hB dX9_fit_155 (tgt := 173) rfl ?_
              refine zr_iload_n hB 1 dX9_fit_173 rfl ?_
              refine zr_callvn hG (rest := []) 0 dX9_fit_174 wm_X9_225 rfl rfl (c_M_layDay K hG.2.2.2.2.2.1 σ358 y13_357 c383 p1 hO358 (by omega) (by omega) (by omega) (by omega) (by omega) (by omega)) rfl rfl (Nat.le_of_ble_eq_true rfl) ⟨Nat.le_of_ble_eq_true rfl, Nat.le_of_ble_eq_true rfl, rfl, rfl⟩ (fun σ385 h386 => ?_)
              obtain ⟨hO387, hAc388⟩ := h386
              have hA389 := zc_Ag.tr hA358 hAc388 rfl
              refine zr_iinc hB 13 dX9_fit_177 rfl (by decide) rfl (by omega) (by omega) (fun x390 ex390 lv' hlv => ?_)
              obtain rfl : [(13, .int x390), (0, .ref (zk K 0)), (1, .int p1), (2, .int p2), (3, .int p3), (4, .int p4), (5, .int p5), (6, .int p6), (7, .int y7_332), (8, .int y8_333), (9, .int y9_334), (10, .int y10_335), (11, .int x352), (12, .int x356)] = lv' := hlv
              refine zr_goto hB dX9_fit_180 (tgt := 127) rfl ?_
              exact zc_sub [1, 2, 3, 4, 5, 6, 7, 8, 9, 10, 11, 12, 13, 0] rfl (ih127 σ385 x390 hO387 hA389 (by omega) (by omega) (by omega))
            refine zr_iload hB 13 dX9_fit_143 rfl ?_
            refine zr_iload_n hB 3 dX9_fit_145 rfl ?_
            refine zr_isub hB dX9_fit_146 (by omega) (by omega) (fun x391 ex391 => ?_)
            refine zr_aload_n hB 0 dX9_fit_147 rfl ?_
            refine zr_geti' hG 0 1 (σ358.1 0 1) dX9_fit_148 rfl wf_X9_101 rfl rfl ?_
            have b392 : 0 ≤ (σ358.1 0 1).toInt ∧ (σ358.1 0 1).toInt ≤ 63 := ⟨(hO358 0 1).1, (hO358 0 1).2.1⟩
            refine zr_icmp_le hB dX9_fit_151 (tgt := 158) rfl (fun c393 => ?_) (fun c393 => ?_)
            · refine zr_aload_n hB 0 dX9_fit_158 rfl ?_
              refine zr_iload_n hB 2 dX9_fit_159 rfl ?_
              refine zr_iload hB 11 dX9_fit_160 rfl ?_
              refine zr_iload hB 12 dX9_fit_162 rfl ?_
              refine zr_iload_n hB 1 dX9_fit_164 rfl ?_
              refine zr_iload hB 13 dX9_fit_165 rfl ?_
              refine zr_iload_n hB 3 dX9_fit_167 rfl ?_
              refine zr_isub hB dX9_fit_168 (by omega) (by omega) (fun x394 ex394 => ?_)
              refine zr_iload_n hB 3 dX9_fit_169 rfl ?_
              refine zr_callvi hG (rest := [.int y13_357, .ref (zk K 0)]) 0 dX9_fit_170 wm_X9_207 rfl rfl (c_M_tellPlain K hG.2.2.2.2.2.1 σ358 p2 x352 x356 p1 x394 p3 hO358 (by omega) (by omega) (by omega) (by omega) (by omega) (by omega) (by omega) (by omega) (by omega)) rfl rfl (Nat.le_of_ble_eq_true rfl) ⟨Nat.le_of_ble_eq_true rfl, Nat.le_of_ble_eq_true rfl, rfl, rfl⟩ (fun r395 σ396 h397 => ?_)
              obtain ⟨rfl, r395a, r395b, g398⟩ := h397
              refine zr_iload_n hB 1 dX9_fit_173 rfl ?_
              refine zr_callvn hG (rest := []) 0 dX9_fit_174 wm_X9_225 rfl rfl (c_M_layDay K hG.2.2.2.2.2.1 σ358 y13_357 r395 p1 hO358 (by omega) (by omega) (by omega) (by omega) (by omega) (by omega)) rfl rfl (Nat.le_of_ble_eq_true rfl) ⟨Nat.le_of_ble_eq_true rfl, Nat.le_of_ble_eq_true rfl, rfl, rfl⟩ (fun σ400 h401 => ?_)
              obtain ⟨hO402, hAc403⟩ := h401
              have hA404 := zc_Ag.tr hA358 hAc403 rfl
              have q405 : (σ400.1 0 1).toInt = (σ358.1 0 1).toInt := congrArg Int32.toInt (hAc403 0 1 rfl).1
              refine zr_iinc hB 13 dX9_fit_177 rfl (by decide) rfl (by omega) (by omega) (fun x406 ex406 lv' hlv => ?_)
              obtain rfl : [(13, .int x406), (0, .ref (zk K 0)), (1, .int p1), (2, .int p2), (3, .int p3), (4, .int p4), (5, .int p5), (6, .int p6), (7, .int y7_332), (8, .int y8_333), (9, .int y9_334), (10, .int y10_335), (11, .int x352), (12, .int x356)] = lv' := hlv
              refine zr_goto hB dX9_fit_180 (tgt := 127) rfl ?_
              exact zc_sub [1, 2, 3, 4, 5, 6, 7, 8, 9, 10, 11, 12, 13, 0] rfl (ih127 σ400 x406 hO402 hA404 (by omega) (by omega) (by omega))
            refine zr_iconst hB dX9_fit_154 rfl (fun c407 ec407 => ?_)
            refine zr_goto hB dX9_fit_155 (tgt := 173) rfl ?_
            refine zr_iload_n hB 1 dX9_fit_173 rfl ?_
            refine zr_callvn hG (rest := []) 0 dX9_fit_174 wm_X9_225 rfl rfl (c_M_layDay K hG.2.2.2.2.2.1 σ358 y13_357 c407 p1 hO358 (by omega) (by omega) (by omega) (by omega) (by omega) (by omega)) rfl rfl (Nat.le_of_ble_eq_true rfl) ⟨Nat.le_of_ble_eq_true rfl, Nat.le_of_ble_eq_true rfl, rfl, rfl⟩ (fun σ409 h410 => ?_)
            obtain ⟨hO411, hAc412⟩ := h410
            have hA413 := zc_Ag.tr hA358 hAc412 rfl
            have q414 : (σ409.1 0 1).toInt = (σ358.1 0 1).toInt := congrArg Int32.toInt (hAc412 0 1 rfl).1
            refine zr_iinc hB 13 dX9_fit_177 rfl (by decide) rfl (by omega) (by omega) (fun x415 ex415 lv' hlv => ?_)
            obtain rfl : [(13, .int x415), (0, .ref (zk K 0)), (1, .int p1), (2, .int p2), (3, .int p3), (4, .int p4), (5, .int p5), (6, .int p6), (7, .int y7_332), (8, .int y8_333), (9, .int y9_334), (10, .int y10_335), (11, .int x352), (12, .int x356)] = lv' := hlv
            refine zr_goto hB dX9_fit_180 (tgt := 127) rfl ?_
            exact zc_sub [1, 2, 3, 4, 5, 6, 7, 8, 9, 10, 11, 12, 13, 0] rfl (ih127 σ409 x415 hO411 hA413 (by omega) (by omega) (by omega))
        exact zc_sub [3, 4, 5, 6, 7, 8, 9, 10, 11, 12, 13, 2, 1, 0] rfl (L127_359 66 σ336 p4 hO336 hA336 (by omega) (by omega) (by omega))
    exact zc_sub [4, 5, 6, 7, 8, 9, 10, 3, 2, 1, 0] rfl (L73_338 123 σ0 c42 c43 c44 c331 hO0 hA0 (by omega) (by omega) (by omega) (by omega) (by omega) (by omega) (show (p2.toInt = 2 ∨ 1 ≤ c331.toInt) by omega) (by omega))
  have q416 := r37q.f c40
  refine zr_iconst hB dX9_fit_49 rfl (fun c417 ec417 => ?_)
  exact zr_iret hG dX9_fit_50 ⟨hO0, hA0⟩

def m_M_span : zc_ms := [(14, none), (15, none)]
set_option maxHeartbeats 1000000 in
set_option maxRecDepth 100000 in
theorem c_M_span (K : zc_K) (hi : zc_inj shM K.2.2.2.1) (σ0 : zc_S) (p1 : Int32) (p2 : Int32) (p3 : Int32) (p4 : Int32) (p5 : Int32) (p6 : Int32) (hO0 : zc_O okM σ0) (hT : zm_T σ0) : zc_M shM K yX9_span cX9_span 7 (some .int) (zrm 9 234) σ0 [.ref (zk K 0), .int p1, .int p2, .int p3, .int p4, .int p5, .int p6] (zc_I (fun r9 σ9 => zc_O okM σ9 ∧ zc_Ag m_M_span σ0 σ9)) := by
  refine zc_start RX9 hi pfX9_span rfl (Nat.le_of_ble_eq_true rfl) ?_
  intro G hG
  have hB := hG.1
  have hA0 : zc_Ag m_M_span σ0 σ0 := zc_Ag.rf
  show zc_V 7 K G (zc_D shM K G σ0) [(0, .ref (zk K 0)), (1, .int p1), (2, .int p2), (3, .int p3), (4, .int p4), (5, .int p5), (6, .int p6)] 0 []
  have bw0_17 : 0 ≤ (σ0.1 0 17).toInt ∧ (σ0.1 0 17).toInt ≤ 6 := ⟨(hO0 0 17).1, (hO0 0 17).2.1⟩
  refine zr_aload_n hB 0 dX9_span_0 rfl ?_
  refine zr_iload_n hB 1 dX9_span_1 rfl ?_
  refine zr_iload_n hB 2 dX9_span_2 rfl ?_
  refine zr_iload_n hB 3 dX9_span_3 rfl ?_
  refine zr_iload hB 4 dX9_span_4 rfl ?_
  refine zr_iload hB 5 dX9_span_6 rfl ?_
  refine zr_callvi hG (rest := []) 0 dX9_span_8 wm_X9_232 rfl rfl (c_M_isAsked K hG.2.2.2.2.2.1 σ0 p1 p2 p3 p4 p5 hO0 ) rfl rfl (Nat.le_of_ble_eq_true rfl) ⟨Nat.le_of_ble_eq_true rfl, Nat.le_of_ble_eq_true rfl, rfl, rfl⟩ (fun r1 σ2 h3 => ?_)
  obtain ⟨rfl, r1q⟩ := h3
  have r1z := r1q.b
  refine zr_if_eq hB dX9_span_11 (tgt := 27) rfl (fun c4 => ?_) (fun c4 => ?_)
  · have q5 := r1q.f c4
    refine zr_iconst hB dX9_span_27 rfl (fun c6 ec6 => ?_)
    exact zr_iret hG dX9_span_28 ⟨hO0, hA0⟩
  have q7 := r1q.t c4
  refine zr_iload hB 6 dX9_span_14 rfl ?_
  have v9 := And.intro (zn_lo p6) (zn_hi p6)
  refine zr_i2l hB dX9_span_16 (fun l8 el8 => ?_)
  refine zr_lconst hB dX9_span_17 (m := 1) rfl (fun c10 ec10 => ?_)
  refine zr_ldc2 hB dX9_span_18 wc_X9_254 (n := 100) rfl (fun c11 ec11 => ?_)
  refine zr_callsi hG (rest := []) dX9_span_21 wm_X9_91 (c_M_in K hG.2.2.2.2.2.1 σ0 l8 c10 c11 hO0 ) rfl rfl (Nat.le_of_ble_eq_true rfl) ⟨Nat.le_of_ble_eq_true rfl, Nat.le_of_ble_eq_true rfl, rfl, rfl⟩ (fun r12 σ13 h14 => ?_)
  obtain ⟨rfl, r12q⟩ := h14
  have r12z := r12q.b
  refine zr_if_ne hB dX9_span_24 (tgt := 29) rfl (fun c15 => ?_) (fun c15 => ?_)
  · have q16 := r12q.t c15
    refine zr_aload_n hB 0 dX9_span_29 rfl ?_
    refine zr_iload_n hB 1 dX9_span_30 rfl ?_
    refine zr_iload_n hB 2 dX9_span_31 rfl ?_
    refine zr_iload_n hB 3 dX9_span_32 rfl ?_
    refine zr_iload hB 4 dX9_span_33 rfl ?_
    refine zr_iload hB 5 dX9_span_35 rfl ?_
    refine zr_callvn hG (rest := []) 0 dX9_span_37 wm_X9_236 rfl rfl (c_M_layMisses K hG.2.2.2.2.2.1 σ0 p1 p2 p3 p4 p5 hO0 (by omega) (by omega) (by omega) (by omega) (by omega) (by omega) (by omega) (by omega) (by omega) (by omega) (by omega) hT) rfl rfl (Nat.le_of_ble_eq_true rfl) ⟨Nat.le_of_ble_eq_true rfl, Nat.le_of_ble_eq_true rfl, rfl, rfl⟩ (fun σ18 h19 => ?_)
    obtain ⟨hO20, hAc21⟩ := h19
    have hA22 := zc_Ag.tr hA0 hAc21 rfl
    have q23 : (σ18.1 0 17).toInt = (σ0.1 0 17).toInt := congrArg Int32.toInt (hAc21 0 17 rfl).1
    refine zr_aload_n hB 0 dX9_span_40 rfl ?_
    refine zr_iload hB 4 dX9_span_41 rfl ?_
    refine zr_iload hB 5 dX9_span_43 rfl ?_
    refine zr_callvi hG (rest := []) 0 dX9_span_45 wm_X9_243 rfl rfl (c_M_manyIn K hG.2.2.2.2.2.1 σ18 p4 p5 hO20 (by omega) (by omega) (by omega) (by omega)) rfl rfl (Nat.le_of_ble_eq_true rfl) ⟨Nat.le_of_ble_eq_true rfl, Nat.le_of_ble_eq_true rfl, rfl, rfl⟩ (fun r24 σ25 h26 => ?_)
    obtain ⟨rfl, r24a, r24b, g27⟩ := h26
    refine zr_if_ne hB dX9_span_48 (tgt := 56) rfl (fun c28 => ?_) (fun c28 => ?_)
    · refine zr_aload_n hB 0 dX9_span_56 rfl ?_
      refine zr_iload hB 4 dX9_span_57 rfl ?_
      refine zr_iload hB 5 dX9_span_59 rfl ?_
      refine zr_iload hB 6 dX9_span_61 rfl ?_
      refine zr_callvi hG (rest := []) 0 dX9_span_63 wm_X9_256 rfl rfl (c_M_spanOf K hG.2.2.2.2.2.1 σ18 p4 p5 p6 hO20 (by omega) (by omega) (by omega) (by omega) (by omega) (by omega)) rfl rfl (Nat.le_of_ble_eq_true rfl) ⟨Nat.le_of_ble_eq_true rfl, Nat.le_of_ble_eq_true rfl, rfl, rfl⟩ (fun r29 σ30 h31 => ?_)
      obtain ⟨rfl, r29a, r29b⟩ := h31
      exact zr_iret hG dX9_span_66 ⟨hO20, hA22⟩
    refine zr_bipush hB dX9_span_51 rfl (fun c32 ec32 => ?_)
    refine zr_goto hB dX9_span_53 (tgt := 66) rfl ?_
    exact zr_iret hG dX9_span_66 ⟨hO20, hA22⟩
  have q33 := r12q.f c15
  refine zr_iconst hB dX9_span_27 rfl (fun c34 ec34 => ?_)
  exact zr_iret hG dX9_span_28 ⟨hO0, hA0⟩

def m_M_hold : zc_ms := [(14, none), (15, none)]
set_option maxHeartbeats 1000000 in
set_option maxRecDepth 100000 in
theorem c_M_hold (K : zc_K) (hi : zc_inj shM K.2.2.2.1) (σ0 : zc_S) (p1 : Int32) (p2 : Int32) (p3 : Int32) (p4 : Int32) (p5 : Int32) (p6 : Int32) (hO0 : zc_O okM σ0) (hT : zm_T σ0) : zc_M shM K yX9_hold cX9_hold 7 (some .int) (zrm 9 234) σ0 [.ref (zk K 0), .int p1, .int p2, .int p3, .int p4, .int p5, .int p6] (zc_I (fun r9 σ9 => zc_O okM σ9 ∧ zc_Ag m_M_hold σ0 σ9)) := by
  refine zc_start RX9 hi pfX9_hold rfl (Nat.le_of_ble_eq_true rfl) ?_
  intro G hG
  have hB := hG.1
  have hA0 : zc_Ag m_M_hold σ0 σ0 := zc_Ag.rf
  show zc_V 7 K G (zc_D shM K G σ0) [(0, .ref (zk K 0)), (1, .int p1), (2, .int p2), (3, .int p3), (4, .int p4), (5, .int p5), (6, .int p6)] 0 []
  have bw0_17 : 0 ≤ (σ0.1 0 17).toInt ∧ (σ0.1 0 17).toInt ≤ 6 := ⟨(hO0 0 17).1, (hO0 0 17).2.1⟩
  refine zr_aload_n hB 0 dX9_hold_0 rfl ?_
  refine zr_iload_n hB 1 dX9_hold_1 rfl ?_
  refine zr_iload_n hB 2 dX9_hold_2 rfl ?_
  refine zr_iload_n hB 3 dX9_hold_3 rfl ?_
  refine zr_iload hB 4 dX9_hold_4 rfl ?_
  refine zr_iload hB 5 dX9_hold_6 rfl ?_
  refine zr_callvi hG (rest := []) 0 dX9_hold_8 wm_X9_232 rfl rfl (c_M_isAsked K hG.2.2.2.2.2.1 σ0 p1 p2 p3 p4 p5 hO0 ) rfl rfl (Nat.le_of_ble_eq_true rfl) ⟨Nat.le_of_ble_eq_true rfl, Nat.le_of_ble_eq_true rfl, rfl, rfl⟩ (fun r1 σ2 h3 => ?_)
  obtain ⟨rfl, r1q⟩ := h3
  have r1z := r1q.b
  refine zr_if_eq hB dX9_hold_11 (tgt := 27) rfl (fun c4 => ?_) (fun c4 => ?_)
  · have q5 := r1q.f c4
    refine zr_iconst hB dX9_hold_27 rfl (fun c6 ec6 => ?_)
    exact zr_iret hG dX9_hold_28 ⟨hO0, hA0⟩
  have q7 := r1q.t c4
  refine zr_iload hB 6 dX9_hold_14 rfl ?_
  have v9 := And.intro (zn_lo p6) (zn_hi p6)
  refine zr_i2l hB dX9_hold_16 (fun l8 el8 => ?_)
  refine zr_lconst hB dX9_hold_17 (m := 0) rfl (fun c10 ec10 => ?_)
  refine zr_ldc2 hB dX9_hold_18 wc_X9_111 (n := 999) rfl (fun c11 ec11 => ?_)
  refine zr_callsi hG (rest := []) dX9_hold_21 wm_X9_91 (c_M_in K hG.2.2.2.2.2.1 σ0 l8 c10 c11 hO0 ) rfl rfl (Nat.le_of_ble_eq_true rfl) ⟨Nat.le_of_ble_eq_true rfl, Nat.le_of_ble_eq_true rfl, rfl, rfl⟩ (fun r12 σ13 h14 => ?_)
  obtain ⟨rfl, r12q⟩ := h14
  have r12z := r12q.b
  refine zr_if_ne hB dX9_hold_24 (tgt := 29) rfl (fun c15 => ?_) (fun c15 => ?_)
  · have q16 := r12q.t c15
    refine zr_aload_n hB 0 dX9_hold_29 rfl ?_
    refine zr_iload_n hB 1 dX9_hold_30 rfl ?_
    refine zr_iload_n hB 2 dX9_hold_31 rfl ?_
    refine zr_iload_n hB 3 dX9_hold_32 rfl ?_
    refine zr_iload hB 4 dX9_hold_33 rfl ?_
    refine zr_iload hB 5 dX9_hold_35 rfl ?_
    refine zr_callvn hG (rest := []) 0 dX9_hold_37 wm_X9_236 rfl rfl (c_M_layMisses K hG.2.2.2.2.2.1 σ0 p1 p2 p3 p4 p5 hO0 (by omega) (by omega) (by omega) (by omega) (by omega) (by omega) (by omega) (by omega) (by omega) (by omega) (by omega) hT) rfl rfl (Nat.le_of_ble_eq_true rfl) ⟨Nat.le_of_ble_eq_true rfl, Nat.le_of_ble_eq_true rfl, rfl, rfl⟩ (fun σ18 h19 => ?_)
    obtain ⟨hO20, hAc21⟩ := h19
    have hA22 := zc_Ag.tr hA0 hAc21 rfl
    have q23 : (σ18.1 0 17).toInt = (σ0.1 0 17).toInt := congrArg Int32.toInt (hAc21 0 17 rfl).1
    refine zr_aload_n hB 0 dX9_hold_40 rfl ?_
    refine zr_iload hB 4 dX9_hold_41 rfl ?_
    refine zr_iload hB 5 dX9_hold_43 rfl ?_
    refine zr_iload hB 6 dX9_hold_45 rfl ?_
    refine zr_callvi hG (rest := []) 0 dX9_hold_47 wm_X9_251 rfl rfl (c_M_within K hG.2.2.2.2.2.1 σ18 p4 p5 p6 hO20 (by omega) (by omega) (by omega) (by omega)) rfl rfl (Nat.le_of_ble_eq_true rfl) ⟨Nat.le_of_ble_eq_true rfl, Nat.le_of_ble_eq_true rfl, rfl, rfl⟩ (fun r24 σ25 h26 => ?_)
    obtain ⟨rfl, r24a, r24b, g27⟩ := h26
    exact zr_iret hG dX9_hold_50 ⟨hO20, hA22⟩
  have q28 := r12q.f c15
  refine zr_iconst hB dX9_hold_27 rfl (fun c29 ec29 => ?_)
  exact zr_iret hG dX9_hold_28 ⟨hO0, hA0⟩

def m_M_going : zc_ms := [(14, none), (15, none)]
set_option maxHeartbeats 1000000 in
set_option maxRecDepth 100000 in
theorem c_M_going (K : zc_K) (hi : zc_inj shM K.2.2.2.1) (σ0 : zc_S) (p1 : Int32) (p2 : Int32) (p3 : Int32) (p4 : Int32) (p5 : Int32) (p6 : Int32) (p7 : Int32) (hO0 : zc_O okM σ0) (hT : zm_T σ0) : zc_M shM K yX9_going cX9_going 11 (some .int) (zrm 9 234) σ0 [.ref (zk K 0), .int p1, .int p2, .int p3, .int p4, .int p5, .int p6, .int p7] (zc_I (fun r9 σ9 => zc_O okM σ9 ∧ zc_Ag m_M_going σ0 σ9)) := by
  refine zc_start RX9 hi pfX9_going rfl (Nat.le_of_ble_eq_true rfl) ?_
  intro G hG
  have hB := hG.1
  have hA0 : zc_Ag m_M_going σ0 σ0 := zc_Ag.rf
  show zc_V 11 K G (zc_D shM K G σ0) [(0, .ref (zk K 0)), (1, .int p1), (2, .int p2), (3, .int p3), (4, .int p4), (5, .int p5), (6, .int p6), (7, .int p7)] 0 []
  have bw0_17 : 0 ≤ (σ0.1 0 17).toInt ∧ (σ0.1 0 17).toInt ≤ 6 := ⟨(hO0 0 17).1, (hO0 0 17).2.1⟩
  refine zr_aload_n hB 0 dX9_going_0 rfl ?_
  refine zr_iload_n hB 1 dX9_going_1 rfl ?_
  refine zr_iload_n hB 2 dX9_going_2 rfl ?_
  refine zr_iload_n hB 3 dX9_going_3 rfl ?_
  refine zr_iload hB 4 dX9_going_4 rfl ?_
  refine zr_iload hB 5 dX9_going_6 rfl ?_
  refine zr_callvi hG (rest := []) 0 dX9_going_8 wm_X9_232 rfl rfl (c_M_isAsked K hG.2.2.2.2.2.1 σ0 p1 p2 p3 p4 p5 hO0 ) rfl rfl (Nat.le_of_ble_eq_true rfl) ⟨Nat.le_of_ble_eq_true rfl, Nat.le_of_ble_eq_true rfl, rfl, rfl⟩ (fun r1 σ2 h3 => ?_)
  obtain ⟨rfl, r1q⟩ := h3
  have r1z := r1q.b
  refine zr_if_eq hB dX9_going_11 (tgt := 38) rfl (fun c4 => ?_) (fun c4 => ?_)
  · have q5 := r1q.f c4
    refine zr_iconst hB dX9_going_38 rfl (fun c6 ec6 => ?_)
    exact zr_iret hG dX9_going_39 ⟨hO0, hA0⟩
  have q7 := r1q.t c4
  refine zr_iload hB 6 dX9_going_14 rfl ?_
  have v9 := And.intro (zn_lo p6) (zn_hi p6)
  refine zr_i2l hB dX9_going_16 (fun l8 el8 => ?_)
  refine zr_lconst hB dX9_going_17 (m := 1) rfl (fun c10 ec10 => ?_)
  refine zr_ldc2 hB dX9_going_18 wc_X9_254 (n := 100) rfl (fun c11 ec11 => ?_)
  refine zr_callsi hG (rest := []) dX9_going_21 wm_X9_91 (c_M_in K hG.2.2.2.2.2.1 σ0 l8 c10 c11 hO0 ) rfl rfl (Nat.le_of_ble_eq_true rfl) ⟨Nat.le_of_ble_eq_true rfl, Nat.le_of_ble_eq_true rfl, rfl, rfl⟩ (fun r12 σ13 h14 => ?_)
  obtain ⟨rfl, r12q⟩ := h14
  have r12z := r12q.b
  refine zr_if_eq hB dX9_going_24 (tgt := 38) rfl (fun c15 => ?_) (fun c15 => ?_)
  · have q16 := r12q.f c15
    refine zr_iconst hB dX9_going_38 rfl (fun c17 ec17 => ?_)
    exact zr_iret hG dX9_going_39 ⟨hO0, hA0⟩
  have q18 := r12q.t c15
  refine zr_iload hB 7 dX9_going_27 rfl ?_
  have v20 := And.intro (zn_lo p7) (zn_hi p7)
  refine zr_i2l hB dX9_going_29 (fun l19 el19 => ?_)
  refine zr_lconst hB dX9_going_30 (m := 0) rfl (fun c21 ec21 => ?_)
  refine zr_lconst hB dX9_going_31 (m := 1) rfl (fun c22 ec22 => ?_)
  refine zr_callsi hG (rest := []) dX9_going_32 wm_X9_91 (c_M_in K hG.2.2.2.2.2.1 σ0 l19 c21 c22 hO0 ) rfl rfl (Nat.le_of_ble_eq_true rfl) ⟨Nat.le_of_ble_eq_true rfl, Nat.le_of_ble_eq_true rfl, rfl, rfl⟩ (fun r23 σ24 h25 => ?_)
  obtain ⟨rfl, r23q⟩ := h25
  have r23z := r23q.b
  refine zr_if_ne hB dX9_going_35 (tgt := 40) rfl (fun c26 => ?_) (fun c26 => ?_)
  · have q27 := r23q.t c26
    refine zr_aload_n hB 0 dX9_going_40 rfl ?_
    refine zr_iload_n hB 1 dX9_going_41 rfl ?_
    refine zr_iload_n hB 2 dX9_going_42 rfl ?_
    refine zr_iload_n hB 3 dX9_going_43 rfl ?_
    refine zr_iconst hB dX9_going_44 rfl (fun c28 ec28 => ?_)
    refine zr_iload hB 5 dX9_going_45 rfl ?_
    refine zr_callvn hG (rest := []) 0 dX9_going_47 wm_X9_236 rfl rfl (c_M_layMisses K hG.2.2.2.2.2.1 σ0 p1 p2 p3 c28 p5 hO0 (by omega) (by omega) (by omega) (by omega) (by omega) (by omega) (by omega) (by omega) (by omega) (by omega) (by omega) hT) rfl rfl (Nat.le_of_ble_eq_true rfl) ⟨Nat.le_of_ble_eq_true rfl, Nat.le_of_ble_eq_true rfl, rfl, rfl⟩ (fun σ30 h31 => ?_)
    obtain ⟨hO32, hAc33⟩ := h31
    have hA34 := zc_Ag.tr hA0 hAc33 rfl
    have q35 : (σ30.1 0 17).toInt = (σ0.1 0 17).toInt := congrArg Int32.toInt (hAc33 0 17 rfl).1
    refine zr_iconst hB dX9_going_50 rfl (fun c36 ec36 => ?_)
    refine zr_istore hB dX9_going_51 (by decide) (lv' := [(8, .int c36), (0, .ref (zk K 0)), (1, .int p1), (2, .int p2), (3, .int p3), (4, .int p4), (5, .int p5), (6, .int p6), (7, .int p7)]) rfl ?_
    refine zr_iconst hB dX9_going_53 rfl (fun c37 ec37 => ?_)
    refine zr_istore hB dX9_going_54 (by decide) (lv' := [(9, .int c37), (8, .int c36), (0, .ref (zk K 0)), (1, .int p1), (2, .int p2), (3, .int p3), (4, .int p4), (5, .int p5), (6, .int p6), (7, .int p7)]) rfl ?_
    refine zr_iload hB 6 dX9_going_56 rfl ?_
    refine zr_istore hB dX9_going_58 (by decide) (lv' := [(10, .int p4), (9, .int c37), (8, .int c36), (0, .ref (zk K 0)), (1, .int p1), (2, .int p2), (3, .int p3), (4, .int p4), (5, .int p5), (6, .int p6), (7, .int p7)]) rfl ?_
    have L60_41 : ∀ (n60 : Nat) (y8_38 : Int32) (y9_39 : Int32) (y10_40 : Int32), 0 ≤ y10_40.toInt → y10_40.toInt ≤ 64 → 64 - y10_40.toInt < (n60 : Int) → zc_V 11 K G (zc_D shM K G σ30) [(0, .ref (zk K 0)), (1, .int p1), (2, .int p2), (3, .int p3), (4, .int p4), (5, .int p5), (6, .int p6), (7, .int p7), (8, .int y8_38), (9, .int y9_39), (10, .int y10_40)] 60 [] := by
      intro n60
      induction n60 with
      | zero => intro y8_38 y9_39 y10_40 y10_40a y10_40b hn60; have vy8_38 := And.intro (zn_lo y8_38) (zn_hi y8_38); have vy9_39 := And.intro (zn_lo y9_39) (zn_hi y9_39); exfalso; omega
      | succ n60 ih60 =>
        intro y8_38 y9_39 y10_40 y10_40a y10_40b hn60
        have vy8_38 := And.intro (zn_lo y8_38) (zn_hi y8_38)
        have vy9_39 := And.intro (zn_lo y9_39) (zn_hi y9_39)
        refine zr_iload hB 10 dX9_going_60 rfl ?_
        refine zr_iload hB 5 dX9_going_62 rfl ?_
        refine zr_icmp_gt hB dX9_going_64 (tgt := 133) rfl (fun c42 => ?_) (fun c42 => ?_)
        · refine zr_iload hB 7 dX9_going_133 rfl ?_
          refine zr_if_ne hB dX9_going_135 (tgt := 143) rfl (fun c43 => ?_) (fun c43 => ?_)
          · refine zr_iload hB 9 dX9_going_143 rfl ?_
            exact zr_iret hG dX9_going_145 ⟨hO32, hA34⟩
          refine zr_iload hB 8 dX9_going_138 rfl ?_
          refine zr_goto hB dX9_going_140 (tgt := 145) rfl ?_
          exact zr_iret hG dX9_going_145 ⟨hO32, hA34⟩
        refine zr_aload_n hB 0 dX9_going_67 rfl ?_
        refine zr_getr hG 0 26 dX9_going_68 rfl wf_X9_53 rfl ?_
        refine zr_iload hB 10 dX9_going_71 rfl ?_
        refine zr_zald hG 15 dX9_going_73 rfl (by omega) (by omega) (fun x44 ex44 => ?_)
        have bx44 : 0 ≤ x44.toInt ∧ x44.toInt ≤ 1 := by rw [ex44]; exact ⟨(hO32 15 _).1, (hO32 15 _).2.1⟩
        refine zr_if_eq hB dX9_going_74 (tgt := 127) rfl (fun c45 => ?_) (fun c45 => ?_)
        · refine zr_iinc hB 10 dX9_going_127 rfl (by decide) rfl (by omega) (by omega) (fun x46 ex46 lv' hlv => ?_)
          obtain rfl : [(10, .int x46), (0, .ref (zk K 0)), (1, .int p1), (2, .int p2), (3, .int p3), (4, .int p4), (5, .int p5), (6, .int p6), (7, .int p7), (8, .int y8_38), (9, .int y9_39)] = lv' := hlv
          refine zr_goto hB dX9_going_130 (tgt := 60) rfl ?_
          exact zc_sub [1, 2, 3, 4, 5, 6, 7, 8, 9, 10, 0] rfl (ih60 y8_38 y9_39 x46 (by omega) (by omega) (by omega))
        refine zr_aload_n hB 0 dX9_going_77 rfl ?_
        refine zr_iconst hB dX9_going_78 rfl (fun c47 ec47 => ?_)
        refine zr_iload hB 10 dX9_going_79 rfl ?_
        refine zr_iload_n hB 3 dX9_going_81 rfl ?_
        refine zr_isub hB dX9_going_82 (by omega) (by omega) (fun x48 ex48 => ?_)
        refine zr_callvi hG (rest := []) 0 dX9_going_83 wm_X9_243 rfl rfl (c_M_manyIn K hG.2.2.2.2.2.1 σ30 c47 x48 hO32 (by omega) (by omega) (by omega) (by omega)) rfl rfl (Nat.le_of_ble_eq_true rfl) ⟨Nat.le_of_ble_eq_true rfl, Nat.le_of_ble_eq_true rfl, rfl, rfl⟩ (fun r49 σ50 h51 => ?_)
        obtain ⟨rfl, r49a, r49b, g52⟩ := h51
        refine zr_iconst hB dX9_going_86 rfl (fun c53 ec53 => ?_)
        refine zr_icmp_lt hB dX9_going_87 (tgt := 127) rfl (fun c54 => ?_) (fun c54 => ?_)
        · refine zr_iinc hB 10 dX9_going_127 rfl (by decide) rfl (by omega) (by omega) (fun x55 ex55 lv' hlv => ?_)
          obtain rfl : [(10, .int x55), (0, .ref (zk K 0)), (1, .int p1), (2, .int p2), (3, .int p3), (4, .int p4), (5, .int p5), (6, .int p6), (7, .int p7), (8, .int y8_38), (9, .int y9_39)] = lv' := hlv
          refine zr_goto hB dX9_going_130 (tgt := 60) rfl ?_
          exact zc_sub [1, 2, 3, 4, 5, 6, 7, 8, 9, 10, 0] rfl (ih60 y8_38 y9_39 x55 (by omega) (by omega) (by omega))
        refine zr_iincw hB 8 dX9_going_90 rfl (by decide) (fun x56 ex56 lv' hlv => ?_)
        obtain rfl : [(8, .int x56), (0, .ref (zk K 0)), (1, .int p1), (2, .int p2), (3, .int p3), (4, .int p4), (5, .int p5), (6, .int p6), (7, .int p7), (9, .int y9_39), (10, .int y10_40)] = lv' := hlv
        refine zr_iload hB 9 dX9_going_93 rfl ?_
        refine zr_aload_n hB 1 dX9_going_95 rfl ?_
        refine zr_getr hG 0 25 dX9_going_96 rfl wf_X9_50 rfl ?_
        refine zr_iload hB 10 dX9_going_99 rfl ?_
        refine zr_iald hG 14 dX9_going_101 rfl (by omega) (by omega) (fun x57 ex57 => ?_)
        have bx57 : (-999) ≤ x57.toInt ∧ x57.toInt ≤ 999 := by rw [ex57]; exact ⟨(hO32 14 _).1, (hO32 14 _).2.1⟩
        refine zr_callsi hG (rest := [.int y9_39]) dX9_going_102 wm_X9_240 (c_M_size K hG.2.2.2.2.2.1 σ30 x57 hO32 (by omega)) rfl rfl (Nat.le_of_ble_eq_true rfl) ⟨Nat.le_of_ble_eq_true rfl, Nat.le_of_ble_eq_true rfl, rfl, rfl⟩ (fun r58 σ59 h60 => ?_)
        obtain ⟨rfl, r58a, g61⟩ := h60
        refine zr_aload_n hB 1 dX9_going_105 rfl ?_
        refine zr_iconst hB dX9_going_106 rfl (fun c62 ec62 => ?_)
        refine zr_iload hB 10 dX9_going_107 rfl ?_
        refine zr_iload_n hB 4 dX9_going_109 rfl ?_
        refine zr_isub hB dX9_going_110 (by omega) (by omega) (fun x63 ex63 => ?_)
        refine zr_iload hB 7 dX9_going_111 rfl ?_
        refine zr_callvi hG (rest := [.int r58, .int y9_39]) 0 dX9_going_113 wm_X9_256 rfl rfl (c_M_spanOf K hG.2.2.2.2.2.1 σ30 c62 x63 p6 hO32 (by omega) (by omega) (by omega) (by omega) (by omega) (by omega)) rfl rfl (Nat.le_of_ble_eq_true rfl) ⟨Nat.le_of_ble_eq_true rfl, Nat.le_of_ble_eq_true rfl, rfl, rfl⟩ (fun r64 σ65 h66 => ?_)
        obtain ⟨rfl, r64a, r64b⟩ := h66
        refine zr_icmp_gt hB dX9_going_116 (tgt := 123) rfl (fun c67 => ?_) (fun c67 => ?_)
        · refine zr_iconst hB dX9_going_123 rfl (fun c68 ec68 => ?_)
          have v70 := And.intro (zn_lo y9_39) (zn_hi y9_39)
          refine zr_iadd hB dX9_going_124 (by omega) (by omega) (fun x69 ex69 => ?_)
          refine zr_istore hB dX9_going_125 (by decide) (lv' := [(9, .int x69), (8, .int x56), (0, .ref (zk K 0)), (1, .int p1), (2, .int p2), (3, .int p3), (4, .int p4), (5, .int p5), (6, .int p6), (7, .int p7), (10, .int y10_40)]) rfl ?_
          refine zr_iinc hB 10 dX9_going_127 rfl (by decide) rfl (by omega) (by omega) (fun x71 ex71 lv' hlv => ?_)
          obtain rfl : [(10, .int x71), (9, .int x69), (8, .int x56), (0, .ref (zk K 0)), (1, .int p1), (2, .int p2), (3, .int p3), (4, .int p4), (5, .int p5), (6, .int p6), (7, .int p7)] = lv' := hlv
          refine zr_goto hB dX9_going_130 (tgt := 60) rfl ?_
          exact zc_sub [3, 4, 5, 6, 7, 8, 9, 10, 2, 1, 0] rfl (ih60 x56 x69 x71 (by omega) (by omega) (by omega))
        refine zr_iconst hB dX9_going_119 rfl (fun c72 ec72 => ?_)
        refine zr_goto hB dX9_going_120 (tgt := 124) rfl ?_
        refine zr_iaddw hB dX9_going_124 (fun x73 ex73 => ?_)
        refine zr_istore hB dX9_going_125 (by decide) (lv' := [(9, .int x73), (8, .int x56), (0, .ref (zk K 0)), (1, .int p1), (2, .int p2), (3, .int p3), (4, .int p4), (5, .int p5), (6, .int p6), (7, .int p7), (10, .int y10_40)]) rfl ?_
        refine zr_iinc hB 10 dX9_going_127 rfl (by decide) rfl (by omega) (by omega) (fun x74 ex74 lv' hlv => ?_)
        obtain rfl : [(10, .int x74), (9, .int x73), (8, .int x56), (0, .ref (zk K 0)), (1, .int p1), (2, .int p2), (3, .int p3), (4, .int p4), (5, .int p5), (6, .int p6), (7, .int p7)] = lv' := hlv
        refine zr_goto hB dX9_going_130 (tgt := 60) rfl ?_
        exact zc_sub [3, 4, 5, 6, 7, 8, 9, 10, 2, 1, 0] rfl (ih60 x56 x73 x74 (by omega) (by omega) (by omega))
    exact zc_sub [3, 4, 5, 6, 7, 8, 9, 10, 2, 1, 0] rfl (L60_41 66 c36 c37 p4 (by omega) (by omega) (by omega))
  have q75 := r23q.f c26
  refine zr_iconst hB dX9_going_38 rfl (fun c76 ec76 => ?_)
  exact zr_iret hG dX9_going_39 ⟨hO0, hA0⟩

set_option maxHeartbeats 1000000 in
set_option maxRecDepth 100000 in
theorem c_M_agree (K : zc_K) (hi : zc_inj shM K.2.2.2.1) (σ0 : zc_S) (p1 : Int64) (p3 : Int32) (p4 : Int32) (p5 : Int32) (hO0 : zc_O okM σ0)  : zc_M shM K yX9_agree cX9_agree 17 (some .int) (zrm 2 45) σ0 [.ref (zk K 0), .long p1, .int p3, .int p4, .int p5] (zc_I (fun r9 σ9 => σ0 = σ9)) := by
  refine zc_start RX9 hi pfX9_agree rfl (Nat.le_of_ble_eq_true rfl) ?_
  intro G hG
  have hB := hG.1
  show zc_V 17 K G (zc_D shM K G σ0) [(0, .ref (zk K 0)), (1, .long p1), (3, .int p3), (4, .int p4), (5, .int p5)] 0 []
  refine zr_lload_n hB 1 dX9_agree_0 rfl ?_
  refine zr_lconst hB dX9_agree_1 (m := 0) rfl (fun c1 ec1 => ?_)
  refine zr_ldc2 hB dX9_agree_2 wc_X9_259 (n := 999999999999) rfl (fun c2 ec2 => ?_)
  refine zr_callsi hG (rest := []) dX9_agree_5 wm_X9_91 (c_M_in K hG.2.2.2.2.2.1 σ0 p1 c1 c2 hO0 ) rfl rfl (Nat.le_of_ble_eq_true rfl) ⟨Nat.le_of_ble_eq_true rfl, Nat.le_of_ble_eq_true rfl, rfl, rfl⟩ (fun r3 σ4 h5 => ?_)
  obtain ⟨rfl, r3q⟩ := h5
  have r3z := r3q.b
  refine zr_if_eq hB dX9_agree_8 (tgt := 44) rfl (fun c6 => ?_) (fun c6 => ?_)
  · have q7 := r3q.f c6
    refine zr_ldcw hB dX9_agree_44 wc_X9_265 (n := (-100000)) rfl (fun c8 ec8 => ?_)
    exact zr_iret hG dX9_agree_47 rfl
  have q9 := r3q.t c6
  refine zr_iload_n hB 2 dX9_agree_11 rfl ?_
  have v11 := And.intro (zn_lo p3) (zn_hi p3)
  refine zr_i2l hB dX9_agree_12 (fun l10 el10 => ?_)
  refine zr_lconst hB dX9_agree_13 (m := 0) rfl (fun c12 ec12 => ?_)
  refine zr_ldc2 hB dX9_agree_14 wc_X9_261 (n := 99999999) rfl (fun c13 ec13 => ?_)
  refine zr_callsi hG (rest := []) dX9_agree_17 wm_X9_91 (c_M_in K hG.2.2.2.2.2.1 σ0 l10 c12 c13 hO0 ) rfl rfl (Nat.le_of_ble_eq_true rfl) ⟨Nat.le_of_ble_eq_true rfl, Nat.le_of_ble_eq_true rfl, rfl, rfl⟩ (fun r14 σ15 h16 => ?_)
  obtain ⟨rfl, r14q⟩ := h16
  have r14z := r14q.b
  refine zr_if_eq hB dX9_agree_20 (tgt := 44) rfl (fun c17 => ?_) (fun c17 => ?_)
  · have q18 := r14q.f c17
    refine zr_ldcw hB dX9_agree_44 wc_X9_265 (n := (-100000)) rfl (fun c19 ec19 => ?_)
    exact zr_iret hG dX9_agree_47 rfl
  have q20 := r14q.t c17
  refine zr_iload hB 3 dX9_agree_23 rfl ?_
  have v22 := And.intro (zn_lo p4) (zn_hi p4)
  refine zr_i2l hB dX9_agree_25 (fun l21 el21 => ?_)
  refine zr_lconst hB dX9_agree_26 (m := 0) rfl (fun c23 ec23 => ?_)
  refine zr_ldc2 hB dX9_agree_27 wc_X9_263 (n := 9999) rfl (fun c24 ec24 => ?_)
  refine zr_callsi hG (rest := []) dX9_agree_30 wm_X9_91 (c_M_in K hG.2.2.2.2.2.1 σ0 l21 c23 c24 hO0 ) rfl rfl (Nat.le_of_ble_eq_true rfl) ⟨Nat.le_of_ble_eq_true rfl, Nat.le_of_ble_eq_true rfl, rfl, rfl⟩ (fun r25 σ26 h27 => ?_)
  obtain ⟨rfl, r25q⟩ := h27
  have r25z := r25q.b
  refine zr_if_eq hB dX9_agree_33 (tgt := 44) rfl (fun c28 => ?_) (fun c28 => ?_)
  · have q29 := r25q.f c28
    refine zr_ldcw hB dX9_agree_44 wc_X9_265 (n := (-100000)) rfl (fun c30 ec30 => ?_)
    exact zr_iret hG dX9_agree_47 rfl
  have q31 := r25q.t c28
  refine zr_iload hB 4 dX9_agree_36 rfl ?_
  refine zr_callsi hG (rest := []) dX9_agree_38 wm_X9_108 (c_M_isShop K hG.2.2.2.2.2.1 σ0 p5 hO0 ) rfl rfl (Nat.le_of_ble_eq_true rfl) ⟨Nat.le_of_ble_eq_true rfl, Nat.le_of_ble_eq_true rfl, rfl, rfl⟩ (fun r32 σ33 h34 => ?_)
  obtain ⟨rfl, r32q⟩ := h34
  have r32z := r32q.b
  refine zr_if_ne hB dX9_agree_41 (tgt := 48) rfl (fun c35 => ?_) (fun c35 => ?_)
  · have q36 := r32q.t c35
    refine zr_lload_n hB 1 dX9_agree_48 rfl ?_
    refine zr_lstore hB dX9_agree_49 (by decide) (lv' := [(6, .long p1), (0, .ref (zk K 0)), (1, .long p1), (3, .int p3), (4, .int p4), (5, .int p5)]) rfl ?_
    refine zr_iload_n hB 3 dX9_agree_51 rfl ?_
    refine zr_istore hB dX9_agree_52 (by decide) (lv' := [(8, .int p3), (6, .long p1), (0, .ref (zk K 0)), (1, .long p1), (3, .int p3), (4, .int p4), (5, .int p5)]) rfl ?_
    refine zr_iconst hB dX9_agree_54 rfl (fun c37 ec37 => ?_)
    refine zr_istore hB dX9_agree_55 (by decide) (lv' := [(9, .int c37), (8, .int p3), (6, .long p1), (0, .ref (zk K 0)), (1, .long p1), (3, .int p3), (4, .int p4), (5, .int p5)]) rfl ?_
    refine zr_iconst hB dX9_agree_57 rfl (fun c38 ec38 => ?_)
    refine zr_istore hB dX9_agree_58 (by decide) (lv' := [(10, .int c38), (9, .int c37), (8, .int p3), (6, .long p1), (0, .ref (zk K 0)), (1, .long p1), (3, .int p3), (4, .int p4), (5, .int p5)]) rfl ?_
    refine zr_iconst hB dX9_agree_60 rfl (fun c39 ec39 => ?_)
    refine zr_istore hB dX9_agree_61 (by decide) (lv' := [(11, .int c39), (10, .int c38), (9, .int c37), (8, .int p3), (6, .long p1), (0, .ref (zk K 0)), (1, .long p1), (3, .int p3), (4, .int p4), (5, .int p5)]) rfl ?_
    refine zr_iconst hB dX9_agree_63 rfl (fun c40 ec40 => ?_)
    refine zr_istore hB dX9_agree_64 (by decide) (lv' := [(12, .int c40), (11, .int c39), (10, .int c38), (9, .int c37), (8, .int p3), (6, .long p1), (0, .ref (zk K 0)), (1, .long p1), (3, .int p3), (4, .int p4), (5, .int p5)]) rfl ?_
    refine zr_iconst hB dX9_agree_66 rfl (fun c41 ec41 => ?_)
    refine zr_istore hB dX9_agree_67 (by decide) (lv' := [(13, .int c41), (12, .int c40), (11, .int c39), (10, .int c38), (9, .int c37), (8, .int p3), (6, .long p1), (0, .ref (zk K 0)), (1, .long p1), (3, .int p3), (4, .int p4), (5, .int p5)]) rfl ?_
    have L69_51 : ∀ (n69 : Nat) (y6_42 : Int64) (y8_43 : Int32) (y9_44 : Int32) (y10_45 : Int32) (y11_46 : Int32) (y12_47 : Int32) (y13_48 : Int32), 0 ≤ y6_42.toInt → y6_42.toInt ≤ 999999999999 → 0 ≤ y8_43.toInt → y8_43.toInt ≤ 99999999 → 0 ≤ y9_44.toInt → y9_44.toInt ≤ 999 → 0 ≤ y10_45.toInt → y10_45.toInt ≤ 99 → 0 ≤ y11_46.toInt → y11_46.toInt ≤ 3996 → 0 ≤ y12_47.toInt → y12_47.toInt ≤ 396 → 0 ≤ y13_48.toInt → y13_48.toInt ≤ 4 → y11_46.toInt ≤ 999 * y13_48.toInt → y12_47.toInt ≤ 99 * y13_48.toInt → 4 - y13_48.toInt < (n69 : Int) → zc_V 17 K G (zc_D shM K G σ0) [(0, .ref (zk K 0)), (1, .long p1), (3, .int p3), (4, .int p4), (5, .int p5), (6, .long y6_42), (8, .int y8_43), (9, .int y9_44), (10, .int y10_45), (11, .int y11_46), (12, .int y12_47), (13, .int y13_48)] 69 [] := by
      intro n69
      induction n69 with
      | zero => intro y6_42 y8_43 y9_44 y10_45 y11_46 y12_47 y13_48 y6_42a y6_42b y8_43a y8_43b y9_44a y9_44b y10_45a y10_45b y11_46a y11_46b y12_47a y12_47b y13_48a y13_48b e49 e50 hn69; exfalso; omega
      | succ n69 ih69 =>
        intro y6_42 y8_43 y9_44 y10_45 y11_46 y12_47 y13_48 y6_42a y6_42b y8_43a y8_43b y9_44a y9_44b y10_45a y10_45b y11_46a y11_46b y12_47a y12_47b y13_48a y13_48b e49 e50 hn69
        refine zr_iload hB 11 dX9_agree_69 rfl ?_
        refine zr_iconst hB dX9_agree_71 rfl (fun c52 ec52 => ?_)
        refine zr_icmp_ge hB dX9_agree_72 (tgt := 157) rfl (fun c53 => ?_) (fun c53 => ?_)
        · refine zr_iload hB 3 dX9_agree_157 rfl ?_
          refine zr_iload hB 9 dX9_agree_159 rfl ?_
          refine zr_isub hB dX9_agree_161 (by omega) (by omega) (fun x54 ex54 => ?_)
          refine zr_callsi hG (rest := []) dX9_agree_162 wm_X9_240 (c_M_size K hG.2.2.2.2.2.1 σ0 x54 hO0 (by omega)) rfl rfl (Nat.le_of_ble_eq_true rfl) ⟨Nat.le_of_ble_eq_true rfl, Nat.le_of_ble_eq_true rfl, rfl, rfl⟩ (fun r55 σ56 h57 => ?_)
          obtain ⟨rfl, r55a, g58⟩ := h57
          refine zr_istore hB dX9_agree_165 (by decide) (lv' := [(13, .int r55), (0, .ref (zk K 0)), (1, .long p1), (3, .int p3), (4, .int p4), (5, .int p5), (6, .long y6_42), (8, .int y8_43), (9, .int y9_44), (10, .int y10_45), (11, .int y11_46), (12, .int y12_47)]) rfl ?_
          refine zr_iload hB 11 dX9_agree_167 rfl ?_
          refine zr_if_ne hB dX9_agree_169 (tgt := 186) rfl (fun c59 => ?_) (fun c59 => ?_)
          · refine zr_iconst hB dX9_agree_186 rfl (fun c60 ec60 => ?_)
            refine zr_istore hB dX9_agree_187 (by decide) (lv' := [(14, .int c60), (13, .int r55), (0, .ref (zk K 0)), (1, .long p1), (3, .int p3), (4, .int p4), (5, .int p5), (6, .long y6_42), (8, .int y8_43), (9, .int y9_44), (10, .int y10_45), (11, .int y11_46), (12, .int y12_47)]) rfl ?_
            refine zr_iconst hB dX9_agree_189 rfl (fun c61 ec61 => ?_)
            refine zr_istore hB dX9_agree_190 (by decide) (lv' := [(15, .int c61), (14, .int c60), (13, .int r55), (0, .ref (zk K 0)), (1, .long p1), (3, .int p3), (4, .int p4), (5, .int p5), (6, .long y6_42), (8, .int y8_43), (9, .int y9_44), (10, .int y10_45), (11, .int y11_46), (12, .int y12_47)]) rfl ?_
            refine zr_iload_n hB 5 dX9_agree_192 rfl ?_
            refine zr_istore hB dX9_agree_193 (by decide) (lv' := [(8, .int p3), (15, .int c61), (14, .int c60), (13, .int r55), (0, .ref (zk K 0)), (1, .long p1), (3, .int p3), (4, .int p4), (5, .int p5), (6, .long y6_42), (9, .int y9_44), (10, .int y10_45), (11, .int y11_46), (12, .int y12_47)]) rfl ?_
            refine zr_iconst hB dX9_agree_195 rfl (fun c62 ec62 => ?_)
            refine zr_istore hB dX9_agree_196 (by decide) (lv' := [(16, .int c62), (8, .int p3), (15, .int c61), (14, .int c60), (13, .int r55), (0, .ref (zk K 0)), (1, .long p1), (3, .int p3), (4, .int p4), (5, .int p5), (6, .long y6_42), (9, .int y9_44), (10, .int y10_45), (11, .int y11_46), (12, .int y12_47)]) rfl ?_
            have L198_67 : ∀ (n198 : Nat) (y8_63 : Int32) (y14_64 : Int32) (y15_65 : Int32) (y16_66 : Int32), 0 ≤ y8_63.toInt → y8_63.toInt ≤ 99999999 → 0 ≤ y16_66.toInt → y16_66.toInt ≤ 4 → 4 - y16_66.toInt < (n198 : Int) → zc_V 17 K G (zc_D shM K G σ0) [(0, .ref (zk K 0)), (1, .long p1), (3, .int p3), (4, .int p4), (5, .int p5), (6, .long y6_42), (8, .int y8_63), (9, .int y9_44), (10, .int y10_45), (11, .int y11_46), (12, .int y12_47), (13, .int r55), (14, .int y14_64), (15, .int y15_65), (16, .int y16_66)] 198 [] := by
              intro n198
              induction n198 with
              | zero => intro y8_63 y14_64 y15_65 y16_66 y8_63a y8_63b y16_66a y16_66b hn198; have vy14_64 := And.intro (zn_lo y14_64) (zn_hi y14_64); have vy15_65 := And.intro (zn_lo y15_65) (zn_hi y15_65); exfalso; omega
              | succ n198 ih198 =>
                intro y8_63 y14_64 y15_65 y16_66 y8_63a y8_63b y16_66a y16_66b hn198
                have vy14_64 := And.intro (zn_lo y14_64) (zn_hi y14_64)
                have vy15_65 := And.intro (zn_lo y15_65) (zn_hi y15_65)
                refine zr_iload hB 14 dX9_agree_198 rfl ?_
                refine zr_iconst hB dX9_agree_200 rfl (fun c68 ec68 => ?_)
                refine zr_icmp_ge hB dX9_agree_201 (tgt := 258) rfl (fun c69 => ?_) (fun c69 => ?_)
                · refine zr_iload hB 11 dX9_agree_258 rfl ?_
                  refine zr_iload hB 8 dX9_agree_260 rfl ?_
                  refine zr_imulb hB dX9_agree_262 (A := 9999) (B := 99) (by omega) (by omega) (by omega) (by omega) (by decide) (fun x70 ex70 ex70a ex70b ex70c ex70d => ?_)
                  refine zr_iload hB 10 dX9_agree_263 rfl ?_
                  refine zr_idiv hB dX9_agree_265 (by omega) (by omega) (fun x71 ex71 ex71a ex71b ex71c => ?_)
                  refine zr_iload hB 8 dX9_agree_266 rfl ?_
                  refine zr_if_le hB dX9_agree_268 (tgt := 285) rfl (fun c72 => ?_) (fun c72 => ?_)
                  · refine zr_iconst hB dX9_agree_285 rfl (fun c73 ec73 => ?_)
                    refine zr_iadd hB dX9_agree_286 (by omega) (by omega) (fun x74 ex74 => ?_)
                    refine zr_istore hB dX9_agree_287 (by decide) (lv' := [(16, .int x74), (0, .ref (zk K 0)), (1, .long p1), (3, .int p3), (4, .int p4), (5, .int p5), (6, .long y6_42), (8, .int y8_63), (9, .int y9_44), (10, .int y10_45), (11, .int y11_46), (12, .int y12_47), (13, .int r55), (14, .int y14_64), (15, .int y15_65)]) rfl ?_
                    refine zr_iload hB 4 dX9_agree_289 rfl ?_
                    refine zr_iload hB 10 dX9_agree_291 rfl ?_
                    refine zr_icmp_ge hB dX9_agree_293 (tgt := 304) rfl (fun c75 => ?_) (fun c75 => ?_)
                    · refine zr_iload hB 8 dX9_agree_304 rfl ?_
                      refine zr_iload hB 0 dX9_agree_306 rfl ?_
                      refine zr_iadd hB dX9_agree_308 (by omega) (by omega) (fun x76 ex76 => ?_)
                      exact zr_iret hG dX9_agree_309 rfl
                    refine zr_iload hB 8 dX9_agree_296 rfl ?_
                    refine zr_iload hB 0 dX9_agree_298 rfl ?_
                    refine zr_isub hB dX9_agree_300 (by omega) (by omega) (fun x77 ex77 => ?_)
                    refine zr_goto hB dX9_agree_301 (tgt := 309) rfl ?_
                    exact zr_iret hG dX9_agree_309 rfl
                  refine zr_iload hB 13 dX9_agree_271 rfl ?_
                  refine zr_iload hB 11 dX9_agree_273 rfl ?_
                  refine zr_iload hB 12 dX9_agree_275 rfl ?_
                  refine zr_isubw hB dX9_agree_277 (fun x78 ex78 => ?_)
                  refine zr_icmp_ge hB dX9_agree_278 (tgt := 285) rfl (fun c79 => ?_) (fun c79 => ?_)
                  · refine zr_iconst hB dX9_agree_285 rfl (fun c80 ec80 => ?_)
                    refine zr_iadd hB dX9_agree_286 (by omega) (by omega) (fun x81 ex81 => ?_)
                    refine zr_istore hB dX9_agree_287 (by decide) (lv' := [(16, .int x81), (0, .ref (zk K 0)), (1, .long p1), (3, .int p3), (4, .int p4), (5, .int p5), (6, .long y6_42), (8, .int y8_63), (9, .int y9_44), (10, .int y10_45), (11, .int y11_46), (12, .int y12_47), (13, .int r55), (14, .int y14_64), (15, .int y15_65)]) rfl ?_
                    refine zr_iload hB 4 dX9_agree_289 rfl ?_
                    refine zr_iload hB 10 dX9_agree_291 rfl ?_
                    refine zr_icmp_ge hB dX9_agree_293 (tgt := 304) rfl (fun c82 => ?_) (fun c82 => ?_)
                    · refine zr_iload hB 8 dX9_agree_304 rfl ?_
                      refine zr_iload hB 0 dX9_agree_306 rfl ?_
                      refine zr_iadd hB dX9_agree_308 (by omega) (by omega) (fun x83 ex83 => ?_)
                      exact zr_iret hG dX9_agree_309 rfl
                    refine zr_iload hB 8 dX9_agree_296 rfl ?_
                    refine zr_iload hB 0 dX9_agree_298 rfl ?_
                    refine zr_isub hB dX9_agree_300 (by omega) (by omega) (fun x84 ex84 => ?_)
                    refine zr_goto hB dX9_agree_301 (tgt := 309) rfl ?_
                    exact zr_iret hG dX9_agree_309 rfl
                  refine zr_iconst hB dX9_agree_281 rfl (fun c85 ec85 => ?_)
                  refine zr_goto hB dX9_agree_282 (tgt := 286) rfl ?_
                  refine zr_iadd hB dX9_agree_286 (by omega) (by omega) (fun x86 ex86 => ?_)
                  refine zr_istore hB dX9_agree_287 (by decide) (lv' := [(16, .int x86), (0, .ref (zk K 0)), (1, .long p1), (3, .int p3), (4, .int p4), (5, .int p5), (6, .long y6_42), (8, .int y8_63), (9, .int y9_44), (10, .int y10_45), (11, .int y11_46), (12, .int y12_47), (13, .int r55), (14, .int y14_64), (15, .int y15_65)]) rfl ?_
                  refine zr_iload hB 4 dX9_agree_289 rfl ?_
                  refine zr_iload hB 10 dX9_agree_291 rfl ?_
                  refine zr_icmp_ge hB dX9_agree_293 (tgt := 304) rfl (fun c87 => ?_) (fun c87 => ?_)
                  · refine zr_iload hB 8 dX9_agree_304 rfl ?_
                    refine zr_iload hB 0 dX9_agree_306 rfl ?_
                    refine zr_iadd hB dX9_agree_308 (by omega) (by omega) (fun x88 ex88 => ?_)
                    exact zr_iret hG dX9_agree_309 rfl
                  refine zr_iload hB 8 dX9_agree_296 rfl ?_
                  refine zr_iload hB 0 dX9_agree_298 rfl ?_
                  refine zr_isub hB dX9_agree_300 (by omega) (by omega) (fun x89 ex89 => ?_)
                  refine zr_goto hB dX9_agree_301 (tgt := 309) rfl ?_
                  exact zr_iret hG dX9_agree_309 rfl
                refine zr_iload hB 12 dX9_agree_204 rfl ?_
                refine zr_iload hB 11 dX9_agree_206 rfl ?_
                refine zr_iload hB 6 dX9_agree_208 rfl ?_
                refine zr_bipush hB dX9_agree_210 rfl (fun c90 ec90 => ?_)
                refine zr_iremc hB dX9_agree_212 ec90 (by omega) (by decide) (fun x91 ex91 => ?_)
                refine zr_imulb hB dX9_agree_213 (A := 9999) (B := 99) (by omega) (by omega) (by omega) (by omega) (by decide) (fun x92 ex92 ex92a ex92b ex92c ex92d => ?_)
                refine zr_iload hB 10 dX9_agree_214 rfl ?_
                refine zr_idiv hB dX9_agree_216 (by omega) (by omega) (fun x93 ex93 ex93a ex93b ex93c => ?_)
                refine zr_iaddw hB dX9_agree_217 (fun x94 ex94 => ?_)
                refine zr_istore hB dX9_agree_218 (by decide) (lv' := [(14, .int x94), (0, .ref (zk K 0)), (1, .long p1), (3, .int p3), (4, .int p4), (5, .int p5), (6, .long y6_42), (8, .int y8_63), (9, .int y9_44), (10, .int y10_45), (11, .int y11_46), (12, .int y12_47), (13, .int r55), (15, .int y15_65), (16, .int y16_66)]) rfl ?_
                refine zr_iload hB 13 dX9_agree_220 rfl ?_
                refine zr_iload hB 14 dX9_agree_222 rfl ?_
                refine zr_iload hB 5 dX9_agree_224 rfl ?_
                refine zr_icmp_ge hB dX9_agree_226 (tgt := 241) rfl (fun c95 => ?_) (fun c95 => ?_)
                · refine zr_iconst hB dX9_agree_241 rfl (fun c96 ec96 => ?_)
                  have v98 := And.intro (zn_lo y15_65) (zn_hi y15_65)
                  refine zr_iadd hB dX9_agree_242 (by omega) (by omega) (fun x97 ex97 => ?_)
                  refine zr_istore hB dX9_agree_243 (by decide) (lv' := [(15, .int x97), (14, .int x94), (0, .ref (zk K 0)), (1, .long p1), (3, .int p3), (4, .int p4), (5, .int p5), (6, .long y6_42), (8, .int y8_63), (9, .int y9_44), (10, .int y10_45), (11, .int y11_46), (12, .int y12_47), (13, .int r55), (16, .int y16_66)]) rfl ?_
                  refine zr_iload hB 8 dX9_agree_245 rfl ?_
                  refine zr_bipush hB dX9_agree_247 rfl (fun c99 ec99 => ?_)
                  refine zr_idivc hB dX9_agree_249 ec99 (by omega) (by decide) (fun x100 ex100 => ?_)
                  refine zr_istore hB dX9_agree_250 (by decide) (lv' := [(8, .int x100), (15, .int x97), (14, .int x94), (0, .ref (zk K 0)), (1, .long p1), (3, .int p3), (4, .int p4), (5, .int p5), (6, .long y6_42), (9, .int y9_44), (10, .int y10_45), (11, .int y11_46), (12, .int y12_47), (13, .int r55), (16, .int y16_66)]) rfl ?_
                  refine zr_iinc hB 14 dX9_agree_252 rfl (by decide) rfl (by omega) (by omega) (fun x101 ex101 lv' hlv => ?_)
                  obtain rfl : [(16, .int x101), (8, .int x100), (15, .int x97), (14, .int x94), (0, .ref (zk K 0)), (1, .long p1), (3, .int p3), (4, .int p4), (5, .int p5), (6, .long y6_42), (9, .int y9_44), (10, .int y10_45), (11, .int y11_46), (12, .int y12_47), (13, .int r55)] = lv' := hlv
                  refine zr_goto hB dX9_agree_255 (tgt := 198) rfl ?_
                  exact zc_sub [4, 5, 6, 7, 8, 9, 1, 10, 11, 12, 13, 14, 3, 2, 0] rfl (ih198 x100 x94 x97 x101 (by omega) (by omega) (by omega) (by omega) (by omega))
                refine zr_iload hB 7 dX9_agree_229 rfl ?_
                refine zr_bipush hB dX9_agree_231 rfl (fun c102 ec102 => ?_)
                refine zr_iremc hB dX9_agree_233 ec102 (by omega) (by decide) (fun x103 ex103 => ?_)
                refine zr_if_le hB dX9_agree_234 (tgt := 241) rfl (fun c104 => ?_) (fun c104 => ?_)
                · refine zr_iconst hB dX9_agree_241 rfl (fun c105 ec105 => ?_)
                  have v107 := And.intro (zn_lo y15_65) (zn_hi y15_65)
                  refine zr_iadd hB dX9_agree_242 (by omega) (by omega) (fun x106 ex106 => ?_)
                  refine zr_istore hB dX9_agree_243 (by decide) (lv' := [(15, .int x106), (14, .int x94), (0, .ref (zk K 0)), (1, .long p1), (3, .int p3), (4, .int p4), (5, .int p5), (6, .long y6_42), (8, .int y8_63), (9, .int y9_44), (10, .int y10_45), (11, .int y11_46), (12, .int y12_47), (13, .int r55), (16, .int y16_66)]) rfl ?_
                  refine zr_iload hB 8 dX9_agree_245 rfl ?_
                  refine zr_bipush hB dX9_agree_247 rfl (fun c108 ec108 => ?_)
                  refine zr_idivc hB dX9_agree_249 ec108 (by omega) (by decide) (fun x109 ex109 => ?_)
                  refine zr_istore hB dX9_agree_250 (by decide) (lv' := [(8, .int x109), (15, .int x106), (14, .int x94), (0, .ref (zk K 0)), (1, .long p1), (3, .int p3), (4, .int p4), (5, .int p5), (6, .long y6_42), (9, .int y9_44), (10, .int y10_45), (11, .int y11_46), (12, .int y12_47), (13, .int r55), (16, .int y16_66)]) rfl ?_
                  refine zr_iinc hB 14 dX9_agree_252 rfl (by decide) rfl (by omega) (by omega) (fun x110 ex110 lv' hlv => ?_)
                  obtain rfl : [(16, .int x110), (8, .int x109), (15, .int x106), (14, .int x94), (0, .ref (zk K 0)), (1, .long p1), (3, .int p3), (4, .int p4), (5, .int p5), (6, .long y6_42), (9, .int y9_44), (10, .int y10_45), (11, .int y11_46), (12, .int y12_47), (13, .int r55)] = lv' := hlv
                  refine zr_goto hB dX9_agree_255 (tgt := 198) rfl ?_
                  exact zc_sub [4, 5, 6, 7, 8, 9, 1, 10, 11, 12, 13, 14, 3, 2, 0] rfl (ih198 x109 x94 x106 x110 (by omega) (by omega) (by omega) (by omega) (by omega))
                refine zr_iconst hB dX9_agree_237 rfl (fun c111 ec111 => ?_)
                refine zr_goto hB dX9_agree_238 (tgt := 242) rfl ?_
                refine zr_iaddw hB dX9_agree_242 (fun x112 ex112 => ?_)
                refine zr_istore hB dX9_agree_243 (by decide) (lv' := [(15, .int x112), (14, .int x94), (0, .ref (zk K 0)), (1, .long p1), (3, .int p3), (4, .int p4), (5, .int p5), (6, .long y6_42), (8, .int y8_63), (9, .int y9_44), (10, .int y10_45), (11, .int y11_46), (12, .int y12_47), (13, .int r55), (16, .int y16_66)]) rfl ?_
                refine zr_iload hB 8 dX9_agree_245 rfl ?_
                refine zr_bipush hB dX9_agree_247 rfl (fun c113 ec113 => ?_)
                refine zr_idivc hB dX9_agree_249 ec113 (by omega) (by decide) (fun x114 ex114 => ?_)
                refine zr_istore hB dX9_agree_250 (by decide) (lv' := [(8, .int x114), (15, .int x112), (14, .int x94), (0, .ref (zk K 0)), (1, .long p1), (3, .int p3), (4, .int p4), (5, .int p5), (6, .long y6_42), (9, .int y9_44), (10, .int y10_45), (11, .int y11_46), (12, .int y12_47), (13, .int r55), (16, .int y16_66)]) rfl ?_
                refine zr_iinc hB 14 dX9_agree_252 rfl (by decide) rfl (by omega) (by omega) (fun x115 ex115 lv' hlv => ?_)
                obtain rfl : [(16, .int x115), (8, .int x114), (15, .int x112), (14, .int x94), (0, .ref (zk K 0)), (1, .long p1), (3, .int p3), (4, .int p4), (5, .int p5), (6, .long y6_42), (9, .int y9_44), (10, .int y10_45), (11, .int y11_46), (12, .int y12_47), (13, .int r55)] = lv' := hlv
                refine zr_goto hB dX9_agree_255 (tgt := 198) rfl ?_
                exact zc_sub [4, 5, 6, 7, 8, 9, 1, 10, 11, 12, 13, 14, 3, 2, 0] rfl (ih198 x114 x94 x112 x115 (by omega) (by omega) (by omega) (by omega) (by omega))
            exact zc_sub [5, 6, 7, 8, 9, 10, 1, 11, 12, 13, 14, 4, 3, 2, 0] rfl (L198_67 6 p3 c60 c61 c62 (by omega) (by omega) (by omega) (by omega) (by omega))
          refine zr_iload hB 0 dX9_agree_172 rfl ?_
          refine zr_if_ne hB dX9_agree_174 (tgt := 182) rfl (fun c116 => ?_) (fun c116 => ?_)
          · refine zr_ldcw hB dX9_agree_182 wc_X9_268 (n := (-100004)) rfl (fun c117 ec117 => ?_)
            exact zr_iret hG dX9_agree_185 rfl
          refine zr_iload hB 8 dX9_agree_177 rfl ?_
          refine zr_goto hB dX9_agree_179 (tgt := 185) rfl ?_
          exact zr_iret hG dX9_agree_185 rfl
        refine zr_lload hB 5 dX9_agree_75 rfl ?_
        refine zr_ldc2 hB dX9_agree_77 wc_X9_266 (n := 1000) rfl (fun c118 ec118 => ?_)
        refine zr_lremc hB dX9_agree_80 ec118 (by omega) (by decide) (fun l119 el119 => ?_)
        refine zr_l2i hB dX9_agree_81 (by omega) (by omega) (fun x120 ex120 => ?_)
        refine zr_istore hB dX9_agree_82 (by decide) (lv' := [(14, .int x120), (0, .ref (zk K 0)), (1, .long p1), (3, .int p3), (4, .int p4), (5, .int p5), (6, .long y6_42), (8, .int y8_43), (9, .int y9_44), (10, .int y10_45), (11, .int y11_46), (12, .int y12_47), (13, .int y13_48)]) rfl ?_
        refine zr_iload hB 12 dX9_agree_84 rfl ?_
        refine zr_iload hB 5 dX9_agree_86 rfl ?_
        refine zr_icmp_ne hB dX9_agree_88 (tgt := 96) rfl (fun c121 => ?_) (fun c121 => ?_)
        · refine zr_iload hB 8 dX9_agree_96 rfl ?_
          refine zr_istore hB dX9_agree_98 (by decide) (lv' := [(9, .int y9_44), (14, .int x120), (0, .ref (zk K 0)), (1, .long p1), (3, .int p3), (4, .int p4), (5, .int p5), (6, .long y6_42), (8, .int y8_43), (10, .int y10_45), (11, .int y11_46), (12, .int y12_47), (13, .int y13_48)]) rfl ?_
          refine zr_iload hB 12 dX9_agree_100 rfl ?_
          refine zr_iload hB 6 dX9_agree_102 rfl ?_
          refine zr_icmp_ne hB dX9_agree_104 (tgt := 115) rfl (fun c122 => ?_) (fun c122 => ?_)
          · refine zr_iload hB 9 dX9_agree_115 rfl ?_
            refine zr_istore hB dX9_agree_117 (by decide) (lv' := [(10, .int y10_45), (9, .int y9_44), (14, .int x120), (0, .ref (zk K 0)), (1, .long p1), (3, .int p3), (4, .int p4), (5, .int p5), (6, .long y6_42), (8, .int y8_43), (11, .int y11_46), (12, .int y12_47), (13, .int y13_48)]) rfl ?_
            refine zr_iload hB 10 dX9_agree_119 rfl ?_
            refine zr_iload hB 2 dX9_agree_121 rfl ?_
            refine zr_iadd hB dX9_agree_123 (by omega) (by omega) (fun x123 ex123 => ?_)
            refine zr_istore hB dX9_agree_124 (by decide) (lv' := [(11, .int x123), (10, .int y10_45), (9, .int y9_44), (14, .int x120), (0, .ref (zk K 0)), (1, .long p1), (3, .int p3), (4, .int p4), (5, .int p5), (6, .long y6_42), (8, .int y8_43), (12, .int y12_47), (13, .int y13_48)]) rfl ?_
            refine zr_iload hB 11 dX9_agree_126 rfl ?_
            refine zr_iload hB 10 dX9_agree_128 rfl ?_
            refine zr_bipush hB dX9_agree_130 rfl (fun c124 ec124 => ?_)
            refine zr_iremc hB dX9_agree_132 ec124 (by omega) (by decide) (fun x125 ex125 => ?_)
            refine zr_iadd hB dX9_agree_133 (by omega) (by omega) (fun x126 ex126 => ?_)
            refine zr_istore hB dX9_agree_134 (by decide) (lv' := [(12, .int x126), (11, .int x123), (10, .int y10_45), (9, .int y9_44), (14, .int x120), (0, .ref (zk K 0)), (1, .long p1), (3, .int p3), (4, .int p4), (5, .int p5), (6, .long y6_42), (8, .int y8_43), (13, .int y13_48)]) rfl ?_
            refine zr_lload hB 10 dX9_agree_136 rfl ?_
            refine zr_ldc2 hB dX9_agree_138 wc_X9_266 (n := 1000) rfl (fun c127 ec127 => ?_)
            refine zr_ldivc hB dX9_agree_141 ec127 (by omega) (by decide) (fun l128 el128 => ?_)
            refine zr_lstore hB dX9_agree_142 (by decide) (lv' := [(6, .long l128), (12, .int x126), (11, .int x123), (10, .int y10_45), (9, .int y9_44), (14, .int x120), (0, .ref (zk K 0)), (1, .long p1), (3, .int p3), (4, .int p4), (5, .int p5), (8, .int y8_43), (13, .int y13_48)]) rfl ?_
            refine zr_iload hB 11 dX9_agree_144 rfl ?_
            refine zr_bipush hB dX9_agree_146 rfl (fun c129 ec129 => ?_)
            refine zr_idivc hB dX9_agree_148 ec129 (by omega) (by decide) (fun x130 ex130 => ?_)
            refine zr_istore hB dX9_agree_149 (by decide) (lv' := [(8, .int x130), (6, .long l128), (12, .int x126), (11, .int x123), (10, .int y10_45), (9, .int y9_44), (14, .int x120), (0, .ref (zk K 0)), (1, .long p1), (3, .int p3), (4, .int p4), (5, .int p5), (13, .int y13_48)]) rfl ?_
            refine zr_iinc hB 12 dX9_agree_151 rfl (by decide) rfl (by omega) (by omega) (fun x131 ex131 lv' hlv => ?_)
            obtain rfl : [(13, .int x131), (8, .int x130), (6, .long l128), (12, .int x126), (11, .int x123), (10, .int y10_45), (9, .int y9_44), (14, .int x120), (0, .ref (zk K 0)), (1, .long p1), (3, .int p3), (4, .int p4), (5, .int p5)] = lv' := hlv
            refine zr_goto hB dX9_agree_154 (tgt := 69) rfl ?_
            exact zc_sub [8, 9, 10, 11, 12, 2, 1, 6, 5, 4, 3, 0] rfl (ih69 l128 x130 y9_44 y10_45 x123 x126 x131 (by omega) (by omega) (by omega) (by omega) (by omega) (by omega) (by omega) (by omega) (by omega) (by omega) (by omega) (by omega) (by omega) (by omega) (show x123.toInt ≤ 999 * x131.toInt by omega) (show x126.toInt ≤ 99 * x131.toInt by omega) (by omega))
          refine zr_iload hB 8 dX9_agree_107 rfl ?_
          refine zr_bipush hB dX9_agree_109 rfl (fun c132 ec132 => ?_)
          refine zr_iremc hB dX9_agree_111 ec132 (by omega) (by decide) (fun x133 ex133 => ?_)
          refine zr_goto hB dX9_agree_112 (tgt := 117) rfl ?_
          refine zr_istore hB dX9_agree_117 (by decide) (lv' := [(10, .int x133), (9, .int y9_44), (14, .int x120), (0, .ref (zk K 0)), (1, .long p1), (3, .int p3), (4, .int p4), (5, .int p5), (6, .long y6_42), (8, .int y8_43), (11, .int y11_46), (12, .int y12_47), (13, .int y13_48)]) rfl ?_
          refine zr_iload hB 10 dX9_agree_119 rfl ?_
          refine zr_iload hB 2 dX9_agree_121 rfl ?_
          refine zr_iadd hB dX9_agree_123 (by omega) (by omega) (fun x134 ex134 => ?_)
          refine zr_istore hB dX9_agree_124 (by decide) (lv' := [(11, .int x134), (10, .int x133), (9, .int y9_44), (14, .int x120), (0, .ref (zk K 0)), (1, .long p1), (3, .int p3), (4, .int p4), (5, .int p5), (6, .long y6_42), (8, .int y8_43), (12, .int y12_47), (13, .int y13_48)]) rfl ?_
          refine zr_iload hB 11 dX9_agree_126 rfl ?_
          refine zr_iload hB 10 dX9_agree_128 rfl ?_
          refine zr_bipush hB dX9_agree_130 rfl (fun c135 ec135 => ?_)
          refine zr_iremc hB dX9_agree_132 ec135 (by omega) (by decide) (fun x136 ex136 => ?_)
          refine zr_iadd hB dX9_agree_133 (by omega) (by omega) (fun x137 ex137 => ?_)
          refine zr_istore hB dX9_agree_134 (by decide) (lv' := [(12, .int x137), (11, .int x134), (10, .int x133), (9, .int y9_44), (14, .int x120), (0, .ref (zk K 0)), (1, .long p1), (3, .int p3), (4, .int p4), (5, .int p5), (6, .long y6_42), (8, .int y8_43), (13, .int y13_48)]) rfl ?_
          refine zr_lload hB 10 dX9_agree_136 rfl ?_
          refine zr_ldc2 hB dX9_agree_138 wc_X9_266 (n := 1000) rfl (fun c138 ec138 => ?_)
          refine zr_ldivc hB dX9_agree_141 ec138 (by omega) (by decide) (fun l139 el139 => ?_)
          refine zr_lstore hB dX9_agree_142 (by decide) (lv' := [(6, .long l139), (12, .int x137), (11, .int x134), (10, .int x133), (9, .int y9_44), (14, .int x120), (0, .ref (zk K 0)), (1, .long p1), (3, .int p3), (4, .int p4), (5, .int p5), (8, .int y8_43), (13, .int y13_48)]) rfl ?_
          refine zr_iload hB 11 dX9_agree_144 rfl ?_
          refine zr_bipush hB dX9_agree_146 rfl (fun c140 ec140 => ?_)
          refine zr_idivc hB dX9_agree_148 ec140 (by omega) (by decide) (fun x141 ex141 => ?_)
          refine zr_istore hB dX9_agree_149 (by decide) (lv' := [(8, .int x141), (6, .long l139), (12, .int x137), (11, .int x134), (10, .int x133), (9, .int y9_44), (14, .int x120), (0, .ref (zk K 0)), (1, .long p1), (3, .int p3), (4, .int p4), (5, .int p5), (13, .int y13_48)]) rfl ?_
          refine zr_iinc hB 12 dX9_agree_151 rfl (by decide) rfl (by omega) (by omega) (fun x142 ex142 lv' hlv => ?_)
          obtain rfl : [(13, .int x142), (8, .int x141), (6, .long l139), (12, .int x137), (11, .int x134), (10, .int x133), (9, .int y9_44), (14, .int x120), (0, .ref (zk K 0)), (1, .long p1), (3, .int p3), (4, .int p4), (5, .int p5)] = lv' := hlv
          refine zr_goto hB dX9_agree_154 (tgt := 69) rfl ?_
          exact zc_sub [8, 9, 10, 11, 12, 2, 1, 6, 5, 4, 3, 0] rfl (ih69 l139 x141 y9_44 x133 x134 x137 x142 (by omega) (by omega) (by omega) (by omega) (by omega) (by omega) (by omega) (by omega) (by omega) (by omega) (by omega) (by omega) (by omega) (by omega) (show x134.toInt ≤ 999 * x142.toInt by omega) (show x137.toInt ≤ 99 * x142.toInt by omega) (by omega))
        refine zr_iload hB 0 dX9_agree_91 rfl ?_
        refine zr_goto hB dX9_agree_93 (tgt := 98) rfl ?_
        refine zr_istore hB dX9_agree_98 (by decide) (lv' := [(9, .int x120), (14, .int x120), (0, .ref (zk K 0)), (1, .long p1), (3, .int p3), (4, .int p4), (5, .int p5), (6, .long y6_42), (8, .int y8_43), (10, .int y10_45), (11, .int y11_46), (12, .int y12_47), (13, .int y13_48)]) rfl ?_
        refine zr_iload hB 12 dX9_agree_100 rfl ?_
        refine zr_iload hB 6 dX9_agree_102 rfl ?_
        refine zr_icmp_ne hB dX9_agree_104 (tgt := 115) rfl (fun c143 => ?_) (fun c143 => ?_)
        · refine zr_iload hB 9 dX9_agree_115 rfl ?_
          refine zr_istore hB dX9_agree_117 (by decide) (lv' := [(10, .int y10_45), (9, .int x120), (14, .int x120), (0, .ref (zk K 0)), (1, .long p1), (3, .int p3), (4, .int p4), (5, .int p5), (6, .long y6_42), (8, .int y8_43), (11, .int y11_46), (12, .int y12_47), (13, .int y13_48)]) rfl ?_
          refine zr_iload hB 10 dX9_agree_119 rfl ?_
          refine zr_iload hB 2 dX9_agree_121 rfl ?_
          refine zr_iadd hB dX9_agree_123 (by omega) (by omega) (fun x144 ex144 => ?_)
          refine zr_istore hB dX9_agree_124 (by decide) (lv' := [(11, .int x144), (10, .int y10_45), (9, .int x120), (14, .int x120), (0, .ref (zk K 0)), (1, .long p1), (3, .int p3), (4, .int p4), (5, .int p5), (6, .long y6_42), (8, .int y8_43), (12, .int y12_47), (13, .int y13_48)]) rfl ?_
          refine zr_iload hB 11 dX9_agree_126 rfl ?_
          refine zr_iload hB 10 dX9_agree_128 rfl ?_
          refine zr_bipush hB dX9_agree_130 rfl (fun c145 ec145 => ?_)
          refine zr_iremc hB dX9_agree_132 ec145 (by omega) (by decide) (fun x146 ex146 => ?_)
          refine zr_iadd hB dX9_agree_133 (by omega) (by omega) (fun x147 ex147 => ?_)
          refine zr_istore hB dX9_agree_134 (by decide) (lv' := [(12, .int x147), (11, .int x144), (10, .int y10_45), (9, .int x120), (14, .int x120), (0, .ref (zk K 0)), (1, .long p1), (3, .int p3), (4, .int p4), (5, .int p5), (6, .long y6_42), (8, .int y8_43), (13, .int y13_48)]) rfl ?_
          refine zr_lload hB 10 dX9_agree_136 rfl ?_
          refine zr_ldc2 hB dX9_agree_138 wc_X9_266 (n := 1000) rfl (fun c148 ec148 => ?_)
          refine zr_ldivc hB dX9_agree_141 ec148 (by omega) (by decide) (fun l149 el149 => ?_)
          refine zr_lstore hB dX9_agree_142 (by decide) (lv' := [(6, .long l149), (12, .int x147), (11, .int x144), (10, .int y10_45), (9, .int x120), (14, .int x120), (0, .ref (zk K 0)), (1, .long p1), (3, .int p3), (4, .int p4), (5, .int p5), (8, .int y8_43), (13, .int y13_48)]) rfl ?_
          refine zr_iload hB 11 dX9_agree_144 rfl ?_
          refine zr_bipush hB dX9_agree_146 rfl (fun c150 ec150 => ?_)
          refine zr_idivc hB dX9_agree_148 ec150 (by omega) (by decide) (fun x151 ex151 => ?_)
          refine zr_istore hB dX9_agree_149 (by decide) (lv' := [(8, .int x151), (6, .long l149), (12, .int x147), (11, .int x144), (10, .int y10_45), (9, .int x120), (14, .int x120), (0, .ref (zk K 0)), (1, .long p1), (3, .int p3), (4, .int p4), (5, .int p5), (13, .int y13_48)]) rfl ?_
          refine zr_iinc hB 12 dX9_agree_151 rfl (by decide) rfl (by omega) (by omega) (fun x152 ex152 lv' hlv => ?_)
          obtain rfl : [(13, .int x152), (8, .int x151), (6, .long l149), (12, .int x147), (11, .int x144), (10, .int y10_45), (9, .int x120), (14, .int x120), (0, .ref (zk K 0)), (1, .long p1), (3, .int p3), (4, .int p4), (5, .int p5)] = lv' := hlv
          refine zr_goto hB dX9_agree_154 (tgt := 69) rfl ?_
          exact zc_sub [8, 9, 10, 11, 12, 2, 1, 6, 5, 4, 3, 0] rfl (ih69 l149 x151 x120 y10_45 x144 x147 x152 (by omega) (by omega) (by omega) (by omega) (by omega) (by omega) (by omega) (by omega) (by omega) (by omega) (by omega) (by omega) (by omega) (by omega) (show x144.toInt ≤ 999 * x152.toInt by omega) (show x147.toInt ≤ 99 * x152.toInt by omega) (by omega))
        refine zr_iload hB 8 dX9_agree_107 rfl ?_
        refine zr_bipush hB dX9_agree_109 rfl (fun c153 ec153 => ?_)
        refine zr_iremc hB dX9_agree_111 ec153 (by omega) (by decide) (fun x154 ex154 => ?_)
        refine zr_goto hB dX9_agree_112 (tgt := 117) rfl ?_
        refine zr_istore hB dX9_agree_117 (by decide) (lv' := [(10, .int x154), (9, .int x120), (14, .int x120), (0, .ref (zk K 0)), (1, .long p1), (3, .int p3), (4, .int p4), (5, .int p5), (6, .long y6_42), (8, .int y8_43), (11, .int y11_46), (12, .int y12_47), (13, .int y13_48)]) rfl ?_
        refine zr_iload hB 10 dX9_agree_119 rfl ?_
        refine zr_iload hB 2 dX9_agree_121 rfl ?_
        refine zr_iadd hB dX9_agree_123 (by omega) (by omega) (fun x155 ex155 => ?_)
        refine zr_istore hB dX9_agree_124 (by decide) (lv' := [(11, .int x155), (10, .int x154), (9, .int x120), (14, .int x120), (0, .ref (zk K 0)), (1, .long p1), (3, .int p3), (4, .int p4), (5, .int p5), (6, .long y6_42), (8, .int y8_43), (12, .int y12_47), (13, .int y13_48)]) rfl ?_
        refine zr_iload hB 11 dX9_agree_126 rfl ?_
        refine zr_iload hB 10 dX9_agree_128 rfl ?_
        refine zr_bipush hB dX9_agree_130 rfl (fun c156 ec156 => ?_)
        refine zr_iremc hB dX9_agree_132 ec156 (by omega) (by decide) (fun x157 ex157 => ?_)
        refine zr_iadd hB dX9_agree_133 (by omega) (by omega) (fun x158 ex158 => ?_)
        refine zr_istore hB dX9_agree_134 (by decide) (lv' := [(12, .int x158), (11, .int x155), (10, .int x154), (9, .int x120), (14, .int x120), (0, .ref (zk K 0)), (1, .long p1), (3, .int p3), (4, .int p4), (5, .int p5), (6, .long y6_42), (8, .int y8_43), (13, .int y13_48)]) rfl ?_
        refine zr_lload hB 10 dX9_agree_136 rfl ?_
        refine zr_ldc2 hB dX9_agree_138 wc_X9_266 (n := 1000) rfl (fun c159 ec159 => ?_)
        refine zr_ldivc hB dX9_agree_141 ec159 (by omega) (by decide) (fun l160 el160 => ?_)
        refine zr_lstore hB dX9_agree_142 (by decide) (lv' := [(6, .long l160), (12, .int x158), (11, .int x155), (10, .int x154), (9, .int x120), (14, .int x120), (0, .ref (zk K 0)), (1, .long p1), (3, .int p3), (4, .int p4), (5, .int p5), (8, .int y8_43), (13, .int y13_48)]) rfl ?_
        refine zr_iload hB 11 dX9_agree_144 rfl ?_
        refine zr_bipush hB dX9_agree_146 rfl (fun c161 ec161 => ?_)
        refine zr_idivc hB dX9_agree_148 ec161 (by omega) (by decide) (fun x162 ex162 => ?_)
        refine zr_istore hB dX9_agree_149 (by decide) (lv' := [(8, .int x162), (6, .long l160), (12, .int x158), (11, .int x155), (10, .int x154), (9, .int x120), (14, .int x120), (0, .ref (zk K 0)), (1, .long p1), (3, .int p3), (4, .int p4), (5, .int p5), (13, .int y13_48)]) rfl ?_
        refine zr_iinc hB 12 dX9_agree_151 rfl (by decide) rfl (by omega) (by omega) (fun x163 ex163 lv' hlv => ?_)
        obtain rfl : [(13, .int x163), (8, .int x162), (6, .long l160), (12, .int x158), (11, .int x155), (10, .int x154), (9, .int x120), (14, .int x120), (0, .ref (zk K 0)), (1, .long p1), (3, .int p3), (4, .int p4), (5, .int p5)] = lv' := hlv
        refine zr_goto hB dX9_agree_154 (tgt := 69) rfl ?_
        exact zc_sub [8, 9, 10, 11, 12, 2, 1, 6, 5, 4, 3, 0] rfl (ih69 l160 x162 x120 x154 x155 x158 x163 (by omega) (by omega) (by omega) (by omega) (by omega) (by omega) (by omega) (by omega) (by omega) (by omega) (by omega) (by omega) (by omega) (by omega) (show x155.toInt ≤ 999 * x163.toInt by omega) (show x158.toInt ≤ 99 * x163.toInt by omega) (by omega))
    exact zc_sub [7, 8, 9, 10, 11, 6, 5, 4, 3, 2, 1, 0] rfl (L69_51 6 p1 p3 c37 c38 c39 c40 c41 (by omega) (by omega) (by omega) (by omega) (by omega) (by omega) (by omega) (by omega) (by omega) (by omega) (by omega) (by omega) (by omega) (by omega) (show c39.toInt ≤ 999 * c41.toInt by omega) (show c40.toInt ≤ 99 * c41.toInt by omega) (by omega))
  have q164 := r32q.f c35
  refine zr_ldcw hB dX9_agree_44 wc_X9_265 (n := (-100000)) rfl (fun c165 ec165 => ?_)
  exact zr_iret hG dX9_agree_47 rfl
