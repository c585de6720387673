def m_M_read : zc_ms := [(1, none), (0, some 2), (0, some 39)]
set_option maxHeartbeats 16000000 in
set_option maxRecDepth 100000 in
theorem c_M_read (K : zc_K) (hi : zc_inj shM K.2.2.2.1) (σ0 : zc_S) (p1 : Int32) (p2 : Int32) (p3 : Int32) (p4 : Int32) (p5 : Int32) (p6 : Int32) (hO0 : zc_O okM σ0)  : zc_M shM K yX9_read cX9_read 12 (some .int) (zrm 3 68) σ0 [.ref (zk K 0), .int p1, .int p2, .int p3, .int p4, .int p5, .int p6] (zc_I (fun r9 σ9 => zc_O okM σ9 ∧ zc_Ag m_M_read σ0 σ9 ∧ ((¬ (0 ≤ p1.toInt ∧ p1.toInt ≤ 3 ∧ 0 ≤ p2.toInt ∧ p2.toInt ≤ 63 ∧ 0 ≤ p3.toInt ∧ p3.toInt ≤ 3 ∧ 0 ≤ p4.toInt ∧ p4.toInt ≤ 2 ∧ 0 ≤ p6.toInt ∧ p6.toInt ≤ 64 ∧ p2.toInt + p6.toInt - 1 ≤ (σ0.1 0 1).toInt) ∧ σ9 = σ0) ∨ ((0 ≤ p1.toInt ∧ p1.toInt ≤ 3 ∧ 0 ≤ p2.toInt ∧ p2.toInt ≤ 63 ∧ 0 ≤ p3.toInt ∧ p3.toInt ≤ 3 ∧ 0 ≤ p4.toInt ∧ p4.toInt ≤ 2 ∧ 0 ≤ p6.toInt ∧ p6.toInt ≤ 64 ∧ p2.toInt + p6.toInt - 1 ≤ (σ0.1 0 1).toInt) ∧ zq_E (zy_fl σ0 p3.toInt p4.toInt p5.toInt) (zy_cl σ0 p3.toInt p5.toInt) (zq_cn (σ0.1 0 1).toInt (p1.toInt * 64 + p2.toInt).toNat (zy_cl σ0 p3.toInt p5.toInt) (zy_A σ0)) (σ0.1 0 2).toInt p6.toInt.toNat (σ9 = σ0) (fun R9 => zy_R σ0 σ9 (p1.toInt * 64 + p2.toInt).toNat (zy_cl σ0 p3.toInt p5.toInt) R9))))) := by
  refine zc_start RX9 hi pfX9_read rfl (Nat.le_of_ble_eq_true rfl) ?_
  intro G hG
  have hB := hG.1
  have hA0 : zc_Ag m_M_read σ0 σ0 := zc_Ag.rf
  show zc_V 12 K G (zc_D shM K G σ0) [(0, .ref (zk K 0)), (1, .int p1), (2, .int p2), (3, .int p3), (4, .int p4), (5, .int p5), (6, .int p6)] 0 []
  refine zr_iload_n hB 1 dX9_read_0 rfl ?_
  refine zr_callsi hG (rest := []) dX9_read_1 wm_X9_108 (c_M_isShop K hG.2.2.2.2.2.1 σ0 p1 hO0 ) rfl rfl (Nat.le_of_ble_eq_true rfl) ⟨Nat.le_of_ble_eq_true rfl, Nat.le_of_ble_eq_true rfl, rfl, rfl⟩ (fun r1 σ2 h3 => ?_)
  obtain ⟨rfl, r1q⟩ := h3
  have r1z := r1q.b
  refine zr_if_eq hB dX9_read_4 (tgt := 65) rfl (fun c4 => ?_) (fun c4 => ?_)
  · have q5 := r1q.f c4
    refine zr_iconst hB dX9_read_65 rfl (fun c6 ec6 => ?_)
    exact zr_iret hG dX9_read_66 ⟨hO0, hA0, (Or.inl ⟨by omega, rfl⟩)⟩
  have q7 := r1q.t c4
  refine zr_iload_n hB 2 dX9_read_7 rfl ?_
  refine zr_callsi hG (rest := []) dX9_read_8 wm_X9_97 (c_M_isDay K hG.2.2.2.2.2.1 σ0 p2 hO0 ) rfl rfl (Nat.le_of_ble_eq_true rfl) ⟨Nat.le_of_ble_eq_true rfl, Nat.le_of_ble_eq_true rfl, rfl, rfl⟩ (fun r8 σ9 h10 => ?_)
  obtain ⟨rfl, r8q⟩ := h10
  have r8z := r8q.b
  refine zr_if_eq hB dX9_read_11 (tgt := 65) rfl (fun c11 => ?_) (fun c11 => ?_)
  · have q12 := r8q.f c11
    refine zr_iconst hB dX9_read_65 rfl (fun c13 ec13 => ?_)
    exact zr_iret hG dX9_read_66 ⟨hO0, hA0, (Or.inl ⟨by omega, rfl⟩)⟩
  have q14 := r8q.t c11
  refine zr_iload_n hB 3 dX9_read_14 rfl ?_
  have v16 := And.intro (zn_lo p3) (zn_hi p3)
  refine zr_i2l hB dX9_read_15 (fun l15 el15 => ?_)
  refine zr_lconst hB dX9_read_16 (m := 0) rfl (fun c17 ec17 => ?_)
  refine zr_ldc2 hB dX9_read_17 wc_X9_89 (n := 3) rfl (fun c18 ec18 => ?_)
  refine zr_callsi hG (rest := []) dX9_read_20 wm_X9_91 (c_M_in K hG.2.2.2.2.2.1 σ0 l15 c17 c18 hO0 ) rfl rfl (Nat.le_of_ble_eq_true rfl) ⟨Nat.le_of_ble_eq_true rfl, Nat.le_of_ble_eq_true rfl, rfl, rfl⟩ (fun r19 σ20 h21 => ?_)
  obtain ⟨rfl, r19q⟩ := h21
  have r19z := r19q.b
  refine zr_if_eq hB dX9_read_23 (tgt := 65) rfl (fun c22 => ?_) (fun c22 => ?_)
  · have q23 := r19q.f c22
    refine zr_iconst hB dX9_read_65 rfl (fun c24 ec24 => ?_)
    exact zr_iret hG dX9_read_66 ⟨hO0, hA0, (Or.inl ⟨by omega, rfl⟩)⟩
  have q25 := r19q.t c22
  refine zr_iload hB 4 dX9_read_26 rfl ?_
  have v27 := And.intro (zn_lo p4) (zn_hi p4)
  refine zr_i2l hB dX9_read_28 (fun l26 el26 => ?_)
  refine zr_lconst hB dX9_read_29 (m := 0) rfl (fun c28 ec28 => ?_)
  refine zr_ldc2 hB dX9_read_30 wc_X9_249 (n := 2) rfl (fun c29 ec29 => ?_)
  refine zr_callsi hG (rest := []) dX9_read_33 wm_X9_91 (c_M_in K hG.2.2.2.2.2.1 σ0 l26 c28 c29 hO0 ) rfl rfl (Nat.le_of_ble_eq_true rfl) ⟨Nat.le_of_ble_eq_true rfl, Nat.le_of_ble_eq_true rfl, rfl, rfl⟩ (fun r30 σ31 h32 => ?_)
  obtain ⟨rfl, r30q⟩ := h32
  have r30z := r30q.b
  refine zr_if_eq hB dX9_read_36 (tgt := 65) rfl (fun c33 => ?_) (fun c33 => ?_)
  · have q34 := r30q.f c33
    refine zr_iconst hB dX9_read_65 rfl (fun c35 ec35 => ?_)
    exact zr_iret hG dX9_read_66 ⟨hO0, hA0, (Or.inl ⟨by omega, rfl⟩)⟩
  have q36 := r30q.t c33
  refine zr_iload hB 6 dX9_read_39 rfl ?_
  have v38 := And.intro (zn_lo p6) (zn_hi p6)
  refine zr_i2l hB dX9_read_41 (fun l37 el37 => ?_)
  refine zr_lconst hB dX9_read_42 (m := 0) rfl (fun c39 ec39 => ?_)
  refine zr_ldc2 hB dX9_read_43 wc_X9_280 (n := 64) rfl (fun c40 ec40 => ?_)
  refine zr_callsi hG (rest := []) dX9_read_46 wm_X9_91 (c_M_in K hG.2.2.2.2.2.1 σ0 l37 c39 c40 hO0 ) rfl rfl (Nat.le_of_ble_eq_true rfl) ⟨Nat.le_of_ble_eq_true rfl, Nat.le_of_ble_eq_true rfl, rfl, rfl⟩ (fun r41 σ42 h43 => ?_)
  obtain ⟨rfl, r41q⟩ := h43
  have r41z := r41q.b
  refine zr_if_eq hB dX9_read_49 (tgt := 65) rfl (fun c44 => ?_) (fun c44 => ?_)
  · have q45 := r41q.f c44
    refine zr_iconst hB dX9_read_65 rfl (fun c46 ec46 => ?_)
    exact zr_iret hG dX9_read_66 ⟨hO0, hA0, (Or.inl ⟨by omega, rfl⟩)⟩
  have q47 := r41q.t c44
  refine zr_iload_n hB 2 dX9_read_52 rfl ?_
  refine zr_iload hB 6 dX9_read_53 rfl ?_
  refine zr_iadd hB dX9_read_55 (by omega) (by omega) (fun x48 ex48 => ?_)
  refine zr_iconst hB dX9_read_56 rfl (fun c49 ec49 => ?_)
  refine zr_isub hB dX9_read_57 (by omega) (by omega) (fun x50 ex50 => ?_)
  refine zr_aload_n hB 0 dX9_read_58 rfl ?_
  refine zr_geti' hG 0 1 (σ0.1 0 1) dX9_read_59 rfl wf_X9_101 rfl rfl ?_
  have b51 : 0 ≤ (σ0.1 0 1).toInt ∧ (σ0.1 0 1).toInt ≤ 63 := ⟨(hO0 0 1).1, (hO0 0 1).2.1⟩
  refine zr_icmp_le hB dX9_read_62 (tgt := 67) rfl (fun c52 => ?_) (fun c52 => ?_)
  · refine zr_iconst hB dX9_read_67 rfl (fun c53 ec53 => ?_)
    refine zr_istore hB dX9_read_68 (by decide) (lv' := [(7, .int c53), (0, .ref (zk K 0)), (1, .int p1), (2, .int p2), (3, .int p3), (4, .int p4), (5, .int p5), (6, .int p6)]) rfl ?_
    refine zr_iload hB 7 dX9_read_70 rfl ?_
    refine zr_istore hB dX9_read_72 (by decide) (lv' := [(8, .int p6), (7, .int c53), (0, .ref (zk K 0)), (1, .int p1), (2, .int p2), (3, .int p3), (4, .int p4), (5, .int p5), (6, .int p6)]) rfl ?_
    refine zr_iconst hB dX9_read_74 rfl (fun c54 ec54 => ?_)
    refine zr_istore hB dX9_read_75 (by decide) (lv' := [(9, .int c54), (8, .int p6), (7, .int c53), (0, .ref (zk K 0)), (1, .int p1), (2, .int p2), (3, .int p3), (4, .int p4), (5, .int p5), (6, .int p6)]) rfl ?_
    refine zr_iconst hB dX9_read_77 rfl (fun c55 ec55 => ?_)
    refine zr_istore hB dX9_read_78 (by decide) (lv' := [(10, .int c55), (9, .int c54), (8, .int p6), (7, .int c53), (0, .ref (zk K 0)), (1, .int p1), (2, .int p2), (3, .int p3), (4, .int p4), (5, .int p5), (6, .int p6)]) rfl ?_
    have L80_66 : ∀ (n80 : Nat) (y7_56 : Int32) (y8_57 : Int32) (y9_58 : Int32) (y10_59 : Int32), 0 ≤ y7_56.toInt → y7_56.toInt ≤ 3 → 0 ≤ y8_57.toInt → y8_57.toInt ≤ 64 → 0 ≤ y9_58.toInt → y9_58.toInt ≤ 64 → 0 ≤ y10_59.toInt → y10_59.toInt ≤ 64 → y10_59.toInt ≤ p6.toInt → y9_58.toInt ≤ y10_59.toInt → ((¬ y7_56.toInt = 0 ∨ y8_57.toInt = p6.toInt)) → ((y7_56.toInt = 0 ∨ (y8_57.toInt = 0 ∨ (0 ≤ p5.toInt ∧ p5.toInt + y8_57.toInt ≤ 64)))) → ((¬ y7_56.toInt = 0 ∨ (y10_59.toInt = 0 ∨ (0 ≤ p5.toInt ∧ p5.toInt + y10_59.toInt ≤ 64)))) → y8_57.toInt ≤ p6.toInt → (zc_hid (y7_56.toInt = 0 → ∀ j : Int, 0 ≤ j → j < y10_59.toInt → (σ0.1 26 (64 * p3.toInt + p5.toInt + j).toNat).toInt ≤ 999)) → (zc_hid (¬ y7_56.toInt = 0 → ∀ j : Int, 0 ≤ j → j < y8_57.toInt → (σ0.1 26 (64 * p3.toInt + p5.toInt + j).toNat).toInt ≤ 999)) → (zc_hid (y7_56.toInt = 0 → zq_G (zy_fl σ0 p3.toInt p4.toInt p5.toInt) (zy_cl σ0 p3.toInt p5.toInt) (zq_cn (σ0.1 0 1).toInt (p1.toInt * 64 + p2.toInt).toNat (zy_cl σ0 p3.toInt p5.toInt) (zy_A σ0)) (σ0.1 0 2).toInt y10_59.toInt.toNat ∧ y9_58.toInt = (zq_cn (σ0.1 0 1).toInt (p1.toInt * 64 + p2.toInt).toNat (zy_cl σ0 p3.toInt p5.toInt) (zy_A σ0)) y10_59.toInt.toNat)) → (zc_hid (¬ y7_56.toInt = 0 → zq_G (zy_fl σ0 p3.toInt p4.toInt p5.toInt) (zy_cl σ0 p3.toInt p5.toInt) (zq_cn (σ0.1 0 1).toInt (p1.toInt * 64 + p2.toInt).toNat (zy_cl σ0 p3.toInt p5.toInt) (zy_A σ0)) (σ0.1 0 2).toInt y8_57.toInt.toNat ∧ (zy_fl σ0 p3.toInt p4.toInt p5.toInt) y8_57.toInt.toNat)) → 64 - y10_59.toInt < (n80 : Int) → zc_V 12 K G (zc_D shM K G σ0) [(0, .ref (zk K 0)), (1, .int p1), (2, .int p2), (3, .int p3), (4, .int p4), (5, .int p5), (6, .int p6), (7, .int y7_56), (8, .int y8_57), (9, .int y9_58), (10, .int y10_59)] 80 [] := by
      intro n80
      induction n80 with
      | zero => intro y7_56 y8_57 y9_58 y10_59 y7_56a y7_56b y8_57a y8_57b y9_58a y9_58b y10_59a y10_59b e60 e61 e62 e63 e64 e65 hqa hqb hG9 hF9 hn80; exfalso; omega
      | succ n80 ih80 =>
        intro y7_56 y8_57 y9_58 y10_59 y7_56a y7_56b y8_57a y8_57b y9_58a y9_58b y10_59a y10_59b e60 e61 e62 e63 e64 e65 hqa hqb hG9 hF9 hn80
        refine zr_iload hB 10 dX9_read_80 rfl ?_
        refine zr_iload hB 6 dX9_read_82 rfl ?_
        have L254_69 : zc_hid (((y8_57.toInt = 0 ∨ (0 ≤ p5.toInt ∧ p5.toInt + y8_57.toInt ≤ 64))) → y8_57.toInt ≤ p6.toInt → (∀ j : Int, 0 ≤ j → j < y8_57.toInt → (σ0.1 26 (64 * p3.toInt + p5.toInt + j).toNat).toInt ≤ 999) → zq_G (zy_fl σ0 p3.toInt p4.toInt p5.toInt) (zy_cl σ0 p3.toInt p5.toInt) (zq_cn (σ0.1 0 1).toInt (p1.toInt * 64 + p2.toInt).toNat (zy_cl σ0 p3.toInt p5.toInt) (zy_A σ0)) (σ0.1 0 2).toInt y8_57.toInt.toNat → (zc_hid (y8_57.toInt = p6.toInt ∨ (zy_fl σ0 p3.toInt p4.toInt p5.toInt) y8_57.toInt.toNat)) → zc_V 12 K G (zc_D shM K G σ0) [(0, .ref (zk K 0)), (1, .int p1), (2, .int p2), (3, .int p3), (4, .int p4), (5, .int p5), (6, .int p6), (7, .int y7_56), (8, .int y8_57), (9, .int y9_58), (10, .int y10_59)] 254 []) := by
          intro e67 e68 hqc hGR hFR
          refine zr_iconst hB dX9_read_254 rfl (fun c70 ec70 => ?_)
          refine zr_istore hB dX9_read_255 (by decide) (lv' := [(10, .int c70), (0, .ref (zk K 0)), (1, .int p1), (2, .int p2), (3, .int p3), (4, .int p4), (5, .int p5), (6, .int p6), (7, .int y7_56), (8, .int y8_57), (9, .int y9_58)]) rfl ?_
          have L257_74 : ∀ (n257 : Nat) (σ72 : zc_S) (y10_71 : Int32), zc_O okM σ72 → zc_Ag m_M_read σ0 σ72 → 0 ≤ y10_71.toInt → y10_71.toInt ≤ 64 → y10_71.toInt ≤ y8_57.toInt → zy_R σ0 σ72 (p1.toInt * 64 + p2.toInt).toNat (zy_cl σ0 p3.toInt p5.toInt) y10_71.toInt.toNat → 64 - y10_71.toInt < (n257 : Int) → zc_V 12 K G (zc_D shM K G σ72) [(0, .ref (zk K 0)), (1, .int p1), (2, .int p2), (3, .int p3), (4, .int p4), (5, .int p5), (6, .int p6), (7, .int y7_56), (8, .int y8_57), (9, .int y9_58), (10, .int y10_71)] 257 [] := by
            intro n257
            induction n257 with
            | zero => intro σ72 y10_71 hO72 hA72 y10_71a y10_71b e73 hzr hn257; exfalso; omega
            | succ n257 ih257 =>
              intro σ72 y10_71 hO72 hA72 y10_71a y10_71b e73 hzr hn257
              refine zr_iload hB 10 dX9_read_257 rfl ?_
              refine zr_iload hB 8 dX9_read_259 rfl ?_
              refine zr_icmp_ge hB dX9_read_261 (tgt := 338) rfl (fun c75 => ?_) (fun c75 => ?_)
              · refine zr_aload_n hB 0 dX9_read_338 rfl ?_
                refine zr_iload hB 7 dX9_read_339 rfl ?_
                refine zr_puti hG 0 39 dX9_read_341 rfl wp_X9_282 rfl ?_
                have hOw76 := zc_O.u hO72 0 39 (v := y7_56) (show 0 ≤ y7_56.toInt by omega) (show y7_56.toInt ≤ 3 by omega) (Or.inr (show 0 ≤ y7_56.toInt by omega))
                have hAw76 := zc_Ag.u hA72 0 39 y7_56 rfl
                refine zr_iload hB 9 dX9_read_344 rfl ?_
                exact zr_iret hG dX9_read_346 ⟨hOw76, hAw76, (Or.inr ⟨by omega, ⟨y8_57.toInt.toNat, by omega, hGR, Or.inl ⟨Or.imp (fun h9 => by omega) id hFR, by have h9 := hzr; rw [show y10_71.toInt.toNat = y8_57.toInt.toNat by omega] at h9; exact h9.ag (zc_Ag.u (M := [(0, some 39)]) zc_Ag.rf 0 39 _ rfl) (fun _ => rfl) rfl⟩⟩⟩)⟩
              refine zr_aload_n hB 0 dX9_read_264 rfl ?_
              refine zr_getr hG 0 38 dX9_read_265 rfl wf_X9_86 rfl ?_
              refine zr_bipush hB dX9_read_268 rfl (fun c77 ec77 => ?_)
              refine zr_iload_n hB 3 dX9_read_270 rfl ?_
              refine zr_imuld hB dX9_read_271 ec77 (by omega) (by omega) (fun x78 ex78 => ?_)
              refine zr_iload hB 5 dX9_read_272 rfl ?_
              have v80 := And.intro (zn_lo p5) (zn_hi p5)
              refine zr_iadd hB dX9_read_274 (by omega) (by omega) (fun x79 ex79 => ?_)
              refine zr_iload hB 10 dX9_read_275 rfl ?_
              refine zr_iadd hB dX9_read_277 (by omega) (by omega) (fun x81 ex81 => ?_)
              refine zr_iald hG 26 dX9_read_278 rfl (by omega) (by omega) (fun x82 ex82 => ?_)
              have hvx82 : x82.toInt ≤ 999 := by rw [ex82, (hA72 26 _ rfl).1, show x81.toInt.toNat = (64 * p3.toInt + p5.toInt + y10_71.toInt).toNat by omega]; exact hqc y10_71.toInt (by omega) (by omega)
              have hcl : x82.toInt = (zy_cl σ0 p3.toInt p5.toInt) y10_71.toInt.toNat := by unfold zy_cl; rw [ex82, (hA72 26 _ rfl).1, show x81.toInt.toNat = (64 * p3.toInt + p5.toInt + (y10_71.toInt.toNat : Int)).toNat by omega]
              refine zr_if_ge hB dX9_read_279 (tgt := 286) rfl (fun c83 => ?_) (fun c83 => ?_)
              · refine zr_aload_n hB 0 dX9_read_286 rfl ?_
                refine zr_getr hG 0 38 dX9_read_287 rfl wf_X9_86 rfl ?_
                refine zr_bipush hB dX9_read_290 rfl (fun c84 ec84 => ?_)
                refine zr_iload_n hB 3 dX9_read_292 rfl ?_
                refine zr_imuld hB dX9_read_293 ec84 (by omega) (by omega) (fun x85 ex85 => ?_)
                refine zr_iload hB 5 dX9_read_294 rfl ?_
                have v87 := And.intro (zn_lo p5) (zn_hi p5)
                refine zr_iadd hB dX9_read_296 (by omega) (by omega) (fun x86 ex86 => ?_)
                refine zr_iload hB 10 dX9_read_297 rfl ?_
                refine zr_iadd hB dX9_read_299 (by omega) (by omega) (fun x88 ex88 => ?_)
                refine zr_iald hG 26 dX9_read_300 rfl (by omega) (by omega) (fun x89 ex89 => ?_)
                have hvx89 : x89.toInt ≤ 999 := by rw [ex89, (hA72 26 _ rfl).1, show x88.toInt.toNat = (64 * p3.toInt + p5.toInt + y10_71.toInt).toNat by omega]; exact hqc y10_71.toInt (by omega) (by omega)
                have hsx89 : x89.toInt = x82.toInt := congrArg Int32.toInt (by rw [ex89, ex82, show x88.toInt.toNat = x81.toInt.toNat by omega])
                refine zr_istore hB dX9_read_301 (by decide) (lv' := [(11, .int x89), (0, .ref (zk K 0)), (1, .int p1), (2, .int p2), (3, .int p3), (4, .int p4), (5, .int p5), (6, .int p6), (7, .int y7_56), (8, .int y8_57), (9, .int y9_58), (10, .int y10_71)]) rfl ?_
                have hcl9 := hcl
                refine zr_iload hB 0 dX9_read_303 rfl ?_
                refine zr_aload_n hB 1 dX9_read_305 rfl ?_
                refine zr_iload_n hB 2 dX9_read_306 rfl ?_
                refine zr_iload_n hB 3 dX9_read_307 rfl ?_
                refine zr_iload hB 11 dX9_read_308 rfl ?_
                refine zr_iadd hB dX9_read_310 (by omega) (by omega) (fun x90 ex90 => ?_)
                refine zr_aload_n hB 1 dX9_read_311 rfl ?_
                refine zr_geti' hG 0 1 (σ72.1 0 1) dX9_read_312 rfl wf_X9_101 rfl rfl ?_
                have b91 : 0 ≤ (σ72.1 0 1).toInt ∧ (σ72.1 0 1).toInt ≤ 63 := ⟨(hO72 0 1).1, (hO72 0 1).2.1⟩
                refine zr_callvi hG (rest := [.int x89]) 0 dX9_read_315 wm_X9_113 rfl rfl (c_M_knownOn K hG.2.2.2.2.2.1 σ72 p1 x90 (σ72.1 0 1) hO72 (by omega) (by omega) (by omega) (by omega)) rfl rfl (Nat.le_of_ble_eq_true rfl) ⟨Nat.le_of_ble_eq_true rfl, Nat.le_of_ble_eq_true rfl, rfl, rfl⟩ (fun r92 σ93 h94 => ?_)
                obtain ⟨rfl, r92a, r92b, g95⟩ := h94
                have hnw : (σ72.1 0 1).toInt = (σ0.1 0 1).toInt := by rw [(hA72 0 1 rfl).1]
                have hT0 := zx_or g95 (by omega)
                clear g95
                rw [hnw] at hT0
                rw [show (256 * (σ0.1 0 1).toInt + 64 * p1.toInt + x90.toInt).toNat = 256 * (σ0.1 0 1).toInt.toNat + ((p1.toInt * 64 + p2.toInt).toNat + y10_71.toInt.toNat) by omega] at hT0
                refine zr_icmp_eq hB dX9_read_318 (tgt := 332) rfl (fun c96 => ?_) (fun c96 => ?_)
                · have hk9 : zy_A σ72 ((p1.toInt * 64 + p2.toInt).toNat + y10_71.toInt.toNat) (σ0.1 0 1).toInt = zq_nm ((zy_cl σ0 p3.toInt p5.toInt) y10_71.toInt.toNat) := by unfold zy_A zq_nm; rw [← hcl]; split <;> first | omega | (split <;> omega)
                  clear hT0
                  refine zr_iinc hB 11 dX9_read_332 rfl (by decide) rfl (by omega) (by omega) (fun x97 ex97 lv' hlv => ?_)
                  obtain rfl : [(10, .int x97), (11, .int x89), (0, .ref (zk K 0)), (1, .int p1), (2, .int p2), (3, .int p3), (4, .int p4), (5, .int p5), (6, .int p6), (7, .int y7_56), (8, .int y8_57), (9, .int y9_58)] = lv' := hlv
                  refine zr_goto hB dX9_read_335 (tgt := 257) rfl ?_
                  exact zc_sub [2, 3, 4, 5, 6, 7, 8, 9, 10, 11, 0] rfl (ih257 σ72 x97 hO72 hA72 (by omega) (by omega) (show x97.toInt ≤ y8_57.toInt by omega) (show zy_R σ0 σ72 (p1.toInt * 64 + p2.toInt).toNat (zy_cl σ0 p3.toInt p5.toInt) x97.toInt.toNat by exact zy_Rk hzr (by omega) (by omega) (by omega) (by omega) hk9) (by omega))
                have hk9 : ¬ zy_A σ72 ((p1.toInt * 64 + p2.toInt).toNat + y10_71.toInt.toNat) (σ0.1 0 1).toInt = zq_nm ((zy_cl σ0 p3.toInt p5.toInt) y10_71.toInt.toNat) := by unfold zy_A zq_nm; rw [← hcl]; split <;> first | omega | (split <;> omega)
                clear hT0
                refine zr_aload_n hB 1 dX9_read_321 rfl ?_
                refine zr_iload_n hB 2 dX9_read_322 rfl ?_
                refine zr_iload_n hB 3 dX9_read_323 rfl ?_
                refine zr_iload hB 11 dX9_read_324 rfl ?_
                refine zr_iadd hB dX9_read_326 (by omega) (by omega) (fun x98 ex98 => ?_)
                refine zr_iload hB 0 dX9_read_327 rfl ?_
                have hrm9 := zy_room hzr (hGR.le rfl (hO0 0 2).2.1) (by omega) (by omega) (by omega) (by omega) hk9
                refine zr_callvn hG (rest := []) 0 dX9_read_329 wm_X9_121 rfl rfl (c_M_tellFigure K hG.2.2.2.2.2.1 σ72 p1 x98 x89 hO72 (by omega) (by omega) (by omega) (by omega) (by omega) (by omega) (by omega)) rfl rfl (Nat.le_of_ble_eq_true rfl) ⟨Nat.le_of_ble_eq_true rfl, Nat.le_of_ble_eq_true rfl, rfl, rfl⟩ (fun σ100 h101 => ?_)
                obtain ⟨hO102, hAc103, g104⟩ := h101
                have hA105 := zc_Ag.tr hA72 hAc103 rfl
                have q106 : (σ100.1 0 1).toInt = (σ72.1 0 1).toInt := congrArg Int32.toInt (hAc103 0 1 rfl).1
                have hT9 := g104
                rw [show (64 * p1.toInt + x98.toInt).toNat = (p1.toInt * 64 + p2.toInt).toNat + y10_71.toInt.toNat by omega] at hT9
                refine zr_iinc hB 11 dX9_read_332 rfl (by decide) rfl (by omega) (by omega) (fun x107 ex107 lv' hlv => ?_)
                obtain rfl : [(10, .int x107), (11, .int x89), (0, .ref (zk K 0)), (1, .int p1), (2, .int p2), (3, .int p3), (4, .int p4), (5, .int p5), (6, .int p6), (7, .int y7_56), (8, .int y8_57), (9, .int y9_58)] = lv' := hlv
                refine zr_goto hB dX9_read_335 (tgt := 257) rfl ?_
                exact zc_sub [2, 3, 4, 5, 6, 7, 8, 9, 10, 11, 0] rfl (ih257 σ100 x107 hO102 hA105 (by omega) (by omega) (show x107.toInt ≤ y8_57.toInt by omega) (show zy_R σ0 σ100 (p1.toInt * 64 + p2.toInt).toNat (zy_cl σ0 p3.toInt p5.toInt) x107.toInt.toNat by exact zy_Rt hzr (by omega) (by omega) (by omega) (by omega) hnw hk9 hT9 (by rw [← hcl9]; unfold zq_nm; split <;> first | omega | (split <;> omega))) (by omega))
              refine zr_iconst hB dX9_read_282 rfl (fun c108 ec108 => ?_)
              refine zr_goto hB dX9_read_283 (tgt := 301) rfl ?_
              refine zr_istore hB dX9_read_301 (by decide) (lv' := [(11, .int c108), (0, .ref (zk K 0)), (1, .int p1), (2, .int p2), (3, .int p3), (4, .int p4), (5, .int p5), (6, .int p6), (7, .int y7_56), (8, .int y8_57), (9, .int y9_58), (10, .int y10_71)]) rfl ?_
              have hcl9 := hcl
              refine zr_iload hB 0 dX9_read_303 rfl ?_
              refine zr_aload_n hB 1 dX9_read_305 rfl ?_
              refine zr_iload_n hB 2 dX9_read_306 rfl ?_
              refine zr_iload_n hB 3 dX9_read_307 rfl ?_
              refine zr_iload hB 11 dX9_read_308 rfl ?_
              refine zr_iadd hB dX9_read_310 (by omega) (by omega) (fun x109 ex109 => ?_)
              refine zr_aload_n hB 1 dX9_read_311 rfl ?_
              refine zr_geti' hG 0 1 (σ72.1 0 1) dX9_read_312 rfl wf_X9_101 rfl rfl ?_
              have b110 : 0 ≤ (σ72.1 0 1).toInt ∧ (σ72.1 0 1).toInt ≤ 63 := ⟨(hO72 0 1).1, (hO72 0 1).2.1⟩
              refine zr_callvi hG (rest := [.int c108]) 0 dX9_read_315 wm_X9_113 rfl rfl (c_M_knownOn K hG.2.2.2.2.2.1 σ72 p1 x109 (σ72.1 0 1) hO72 (by omega) (by omega) (by omega) (by omega)) rfl rfl (Nat.le_of_ble_eq_true rfl) ⟨Nat.le_of_ble_eq_true rfl, Nat.le_of_ble_eq_true rfl, rfl, rfl⟩ (fun r111 σ112 h113 => ?_)
              obtain ⟨rfl, r111a, r111b, g114⟩ := h113
              have hnw : (σ72.1 0 1).toInt = (σ0.1 0 1).toInt := by rw [(hA72 0 1 rfl).1]
              have hT0 := zx_or g114 (by omega)
              clear g114
              rw [hnw] at hT0
              rw [show (256 * (σ0.1 0 1).toInt + 64 * p1.toInt + x109.toInt).toNat = 256 * (σ0.1 0 1).toInt.toNat + ((p1.toInt * 64 + p2.toInt).toNat + y10_71.toInt.toNat) by omega] at hT0
              refine zr_icmp_eq hB dX9_read_318 (tgt := 332) rfl (fun c115 => ?_) (fun c115 => ?_)
              · have hk9 : zy_A σ72 ((p1.toInt * 64 + p2.toInt).toNat + y10_71.toInt.toNat) (σ0.1 0 1).toInt = zq_nm ((zy_cl σ0 p3.toInt p5.toInt) y10_71.toInt.toNat) := by unfold zy_A zq_nm; rw [← hcl]; split <;> first | omega | (split <;> omega)
                clear hT0
                refine zr_iinc hB 11 dX9_read_332 rfl (by decide) rfl (by omega) (by omega) (fun x116 ex116 lv' hlv => ?_)
                obtain rfl : [(10, .int x116), (11, .int c108), (0, .ref (zk K 0)), (1, .int p1), (2, .int p2), (3, .int p3), (4, .int p4), (5, .int p5), (6, .int p6), (7, .int y7_56), (8, .int y8_57), (9, .int y9_58)] = lv' := hlv
                refine zr_goto hB dX9_read_335 (tgt := 257) rfl ?_
                exact zc_sub [2, 3, 4, 5, 6, 7, 8, 9, 10, 11, 0] rfl (ih257 σ72 x116 hO72 hA72 (by omega) (by omega) (show x116.toInt ≤ y8_57.toInt by omega) (show zy_R σ0 σ72 (p1.toInt * 64 + p2.toInt).toNat (zy_cl σ0 p3.toInt p5.toInt) x116.toInt.toNat by exact zy_Rk hzr (by omega) (by omega) (by omega) (by omega) hk9) (by omega))
              have hk9 : ¬ zy_A σ72 ((p1.toInt * 64 + p2.toInt).toNat + y10_71.toInt.toNat) (σ0.1 0 1).toInt = zq_nm ((zy_cl σ0 p3.toInt p5.toInt) y10_71.toInt.toNat) := by unfold zy_A zq_nm; rw [← hcl]; split <;> first | omega | (split <;> omega)
              clear hT0
              refine zr_aload_n hB 1 dX9_read_321 rfl ?_
              refine zr_iload_n hB 2 dX9_read_322 rfl ?_
              refine zr_iload_n hB 3 dX9_read_323 rfl ?_
              refine zr_iload hB 11 dX9_read_324 rfl ?_
              refine zr_iadd hB dX9_read_326 (by omega) (by omega) (fun x117 ex117 => ?_)
              refine zr_iload hB 0 dX9_read_327 rfl ?_
              have hrm9 := zy_room hzr (hGR.le rfl (hO0 0 2).2.1) (by omega) (by omega) (by omega) (by omega) hk9
              refine zr_callvn hG (rest := []) 0 dX9_read_329 wm_X9_121 rfl rfl (c_M_tellFigure K hG.2.2.2.2.2.1 σ72 p1 x117 c108 hO72 (by omega) (by omega) (by omega) (by omega) (by omega) (by omega) (by omega)) rfl rfl (Nat.le_of_ble_eq_true rfl) ⟨Nat.le_of_ble_eq_true rfl, Nat.le_of_ble_eq_true rfl, rfl, rfl⟩ (fun σ119 h120 => ?_)
              obtain ⟨hO121, hAc122, g123⟩ := h120
              have hA124 := zc_Ag.tr hA72 hAc122 rfl
              have q125 : (σ119.1 0 1).toInt = (σ72.1 0 1).toInt := congrArg Int32.toInt (hAc122 0 1 rfl).1
              have hT9 := g123
              rw [show (64 * p1.toInt + x117.toInt).toNat = (p1.toInt * 64 + p2.toInt).toNat + y10_71.toInt.toNat by omega] at hT9
              refine zr_iinc hB 11 dX9_read_332 rfl (by decide) rfl (by omega) (by omega) (fun x126 ex126 lv' hlv => ?_)
              obtain rfl : [(10, .int x126), (11, .int c108), (0, .ref (zk K 0)), (1, .int p1), (2, .int p2), (3, .int p3), (4, .int p4), (5, .int p5), (6, .int p6), (7, .int y7_56), (8, .int y8_57), (9, .int y9_58)] = lv' := hlv
              refine zr_goto hB dX9_read_335 (tgt := 257) rfl ?_
              exact zc_sub [2, 3, 4, 5, 6, 7, 8, 9, 10, 11, 0] rfl (ih257 σ119 x126 hO121 hA124 (by omega) (by omega) (show x126.toInt ≤ y8_57.toInt by omega) (show zy_R σ0 σ119 (p1.toInt * 64 + p2.toInt).toNat (zy_cl σ0 p3.toInt p5.toInt) x126.toInt.toNat by exact zy_Rt hzr (by omega) (by omega) (by omega) (by omega) hnw hk9 hT9 (by rw [← hcl9]; unfold zq_nm; split <;> first | omega | (split <;> omega))) (by omega))
          exact zc_sub [1, 2, 3, 4, 5, 6, 7, 8, 9, 10, 0] rfl (L257_74 66 σ0 c70 hO0 hA0 (by omega) (by omega) (show c70.toInt ≤ y8_57.toInt by omega) (show zy_R σ0 σ0 (p1.toInt * 64 + p2.toInt).toNat (zy_cl σ0 p3.toInt p5.toInt) c70.toInt.toNat by exact zy_R0 (by omega)) (by omega))
        refine zr_icmp_ge hB dX9_read_84 (tgt := 254) rfl (fun c127 => ?_) (fun c127 => ?_)
        · exact L254_69 (show (y8_57.toInt = 0 ∨ (0 ≤ p5.toInt ∧ p5.toInt + y8_57.toInt ≤ 64)) by omega) (show y8_57.toInt ≤ p6.toInt by omega) (show ∀ j : Int, 0 ≤ j → j < y8_57.toInt → (σ0.1 26 (64 * p3.toInt + p5.toInt + j).toNat).toInt ≤ 999 by intro j h1 h2; by_cases hb9 : y7_56.toInt = 0; (first | (exfalso; omega) | exact hqa hb9 j h1 (by omega)); (first | (exfalso; omega) | exact hqb hb9 j h1 h2)) (show zq_G (zy_fl σ0 p3.toInt p4.toInt p5.toInt) (zy_cl σ0 p3.toInt p5.toInt) (zq_cn (σ0.1 0 1).toInt (p1.toInt * 64 + p2.toInt).toNat (zy_cl σ0 p3.toInt p5.toInt) (zy_A σ0)) (σ0.1 0 2).toInt y8_57.toInt.toNat by by_cases h9 : y7_56.toInt = 0; (rw [show y8_57.toInt.toNat = y10_59.toInt.toNat by omega]; exact (hG9 h9).1); exact (hF9 h9).1) (show zc_hid (y8_57.toInt = p6.toInt ∨ (zy_fl σ0 p3.toInt p4.toInt p5.toInt) y8_57.toInt.toNat) by by_cases h9 : y7_56.toInt = 0; exact Or.inl (by omega); exact Or.inr (hF9 h9).2)
        refine zr_iload hB 7 dX9_read_87 rfl ?_
        refine zr_if_ne hB dX9_read_89 (tgt := 254) rfl (fun c128 => ?_) (fun c128 => ?_)
        · exact L254_69 (show (y8_57.toInt = 0 ∨ (0 ≤ p5.toInt ∧ p5.toInt + y8_57.toInt ≤ 64)) by omega) (show y8_57.toInt ≤ p6.toInt by omega) (show ∀ j : Int, 0 ≤ j → j < y8_57.toInt → (σ0.1 26 (64 * p3.toInt + p5.toInt + j).toNat).toInt ≤ 999 by intro j h1 h2; by_cases hb9 : y7_56.toInt = 0; (first | (exfalso; omega) | exact hqa hb9 j h1 (by omega)); (first | (exfalso; omega) | exact hqb hb9 j h1 h2)) (show zq_G (zy_fl σ0 p3.toInt p4.toInt p5.toInt) (zy_cl σ0 p3.toInt p5.toInt) (zq_cn (σ0.1 0 1).toInt (p1.toInt * 64 + p2.toInt).toNat (zy_cl σ0 p3.toInt p5.toInt) (zy_A σ0)) (σ0.1 0 2).toInt y8_57.toInt.toNat by by_cases h9 : y7_56.toInt = 0; (rw [show y8_57.toInt.toNat = y10_59.toInt.toNat by omega]; exact (hG9 h9).1); exact (hF9 h9).1) (show zc_hid (y8_57.toInt = p6.toInt ∨ (zy_fl σ0 p3.toInt p4.toInt p5.toInt) y8_57.toInt.toNat) by by_cases h9 : y7_56.toInt = 0; exact Or.inl (by omega); exact Or.inr (hF9 h9).2)
        refine zr_aload_n hB 0 dX9_read_92 rfl ?_
        refine zr_getr hG 0 36 dX9_read_93 rfl wf_X9_80 rfl ?_
        refine zr_iload_n hB 3 dX9_read_96 rfl ?_
        refine zr_iald hG 24 dX9_read_97 rfl (by omega) (by omega) (fun x129 ex129 => ?_)
        have bx129 : (-4) ≤ x129.toInt ∧ x129.toInt ≤ 2 := by rw [ex129]; exact ⟨(hO0 24 _).1, (hO0 24 _).2.1⟩
        refine zr_bipush hB dX9_read_98 rfl (fun c130 ec130 => ?_)
        refine zr_icmp_ne hB dX9_read_100 (tgt := 107) rfl (fun c131 => ?_) (fun c131 => ?_)
        · refine zr_aload_n hB 0 dX9_read_107 rfl ?_
          refine zr_getr hG 0 36 dX9_read_108 rfl wf_X9_80 rfl ?_
          refine zr_iload_n hB 3 dX9_read_111 rfl ?_
          refine zr_iald hG 24 dX9_read_112 rfl (by omega) (by omega) (fun x132 ex132 => ?_)
          obtain rfl : x129 = x132 := ex129.trans ex132.symm
          refine zr_iload hB 4 dX9_read_113 rfl ?_
          refine zr_icmp_eq hB dX9_read_115 (tgt := 122) rfl (fun c133 => ?_) (fun c133 => ?_)
          · refine zr_iload hB 5 dX9_read_122 rfl ?_
            have v135 := And.intro (zn_lo p5) (zn_hi p5)
            refine zr_i2l hB dX9_read_124 (fun l134 el134 => ?_)
            refine zr_iload hB 10 dX9_read_125 rfl ?_
            refine zr_i2l hB dX9_read_127 (fun l136 el136 => ?_)
            refine zr_ladd hB dX9_read_128 (by omega) (by omega) (fun l137 el137 => ?_)
            refine zr_lconst hB dX9_read_129 (m := 0) rfl (fun c138 ec138 => ?_)
            refine zr_aload_n hB 0 dX9_read_130 rfl ?_
            refine zr_getr hG 0 37 dX9_read_131 rfl wf_X9_83 rfl ?_
            refine zr_iload_n hB 3 dX9_read_134 rfl ?_
            refine zr_iald hG 25 dX9_read_135 rfl (by omega) (by omega) (fun x139 ex139 => ?_)
            have bx139 : 0 ≤ x139.toInt ∧ x139.toInt ≤ 64 := by rw [ex139]; exact ⟨(hO0 25 _).1, (hO0 25 _).2.1⟩
            refine zr_iconst hB dX9_read_136 rfl (fun c140 ec140 => ?_)
            refine zr_isub hB dX9_read_137 (by omega) (by omega) (fun x141 ex141 => ?_)
            refine zr_i2l hB dX9_read_138 (fun l142 el142 => ?_)
            refine zr_callsi hG (rest := []) dX9_read_139 wm_X9_91 (c_M_in K hG.2.2.2.2.2.1 σ0 l137 c138 l142 hO0 ) rfl rfl (Nat.le_of_ble_eq_true rfl) ⟨Nat.le_of_ble_eq_true rfl, Nat.le_of_ble_eq_true rfl, rfl, rfl⟩ (fun r143 σ144 h145 => ?_)
            obtain ⟨rfl, r143q⟩ := h145
            have r143z := r143q.b
            refine zr_if_ne hB dX9_read_142 (tgt := 149) rfl (fun c146 => ?_) (fun c146 => ?_)
            · have q147 := r143q.t c146
              refine zr_iconst hB dX9_read_149 rfl (fun c148 ec148 => ?_)
              refine zr_istore hB dX9_read_150 (by decide) (lv' := [(7, .int c148), (0, .ref (zk K 0)), (1, .int p1), (2, .int p2), (3, .int p3), (4, .int p4), (5, .int p5), (6, .int p6), (8, .int y8_57), (9, .int y9_58), (10, .int y10_59)]) rfl ?_
              refine zr_iload hB 0 dX9_read_152 rfl ?_
              refine zr_if_le hB dX9_read_154 (tgt := 164) rfl (fun c149 => ?_) (fun c149 => ?_)
              · have hfl : ¬ (zy_fl σ0 p3.toInt p4.toInt p5.toInt) y10_59.toInt.toNat := by have hqx129 := congrArg Int32.toInt ex129; have hqx139 := congrArg Int32.toInt ex139; unfold zy_fl; omega
                refine zr_aload_n hB 1 dX9_read_164 rfl ?_
                refine zr_getr hG 0 38 dX9_read_165 rfl wf_X9_86 rfl ?_
                refine zr_bipush hB dX9_read_168 rfl (fun c150 ec150 => ?_)
                refine zr_iload_n hB 4 dX9_read_170 rfl ?_
                refine zr_imuld hB dX9_read_171 ec150 (by omega) (by omega) (fun x151 ex151 => ?_)
                refine zr_iload hB 6 dX9_read_172 rfl ?_
                have v153 := And.intro (zn_lo p5) (zn_hi p5)
                refine zr_iadd hB dX9_read_174 (by omega) (by omega) (fun x152 ex152 => ?_)
                refine zr_iload hB 10 dX9_read_175 rfl ?_
                refine zr_iadd hB dX9_read_177 (by omega) (by omega) (fun x154 ex154 => ?_)
                refine zr_iald hG 26 dX9_read_178 rfl (by omega) (by omega) (fun x155 ex155 => ?_)
                have hcl : x155.toInt = (zy_cl σ0 p3.toInt p5.toInt) y10_59.toInt.toNat := by unfold zy_cl; rw [ex155, show x154.toInt.toNat = (64 * p3.toInt + p5.toInt + (y10_59.toInt.toNat : Int)).toNat by omega]
                refine zr_istore hB dX9_read_179 (by decide) (lv' := [(11, .int x155), (7, .int c148), (0, .ref (zk K 0)), (1, .int p1), (2, .int p2), (3, .int p3), (4, .int p4), (5, .int p5), (6, .int p6), (8, .int y8_57), (9, .int y9_58), (10, .int y10_59)]) rfl ?_
                refine zr_iload hB 0 dX9_read_181 rfl ?_
                refine zr_sipush hB dX9_read_183 rfl (fun c156 ec156 => ?_)
                refine zr_icmp_le hB dX9_read_186 (tgt := 195) rfl (fun c157 => ?_) (fun c157 => ?_)
                · refine zr_iload hB 10 dX9_read_195 rfl ?_
                  refine zr_iload hB 0 dX9_read_197 rfl ?_
                  refine zr_if_ge hB dX9_read_199 (tgt := 206) rfl (fun c158 => ?_) (fun c158 => ?_)
                  · refine zr_iload hB 0 dX9_read_206 rfl ?_
                    refine zr_aload_n hB 2 dX9_read_208 rfl ?_
                    refine zr_iload_n hB 3 dX9_read_209 rfl ?_
                    refine zr_iload_n hB 4 dX9_read_210 rfl ?_
                    refine zr_iload hB 11 dX9_read_211 rfl ?_
                    refine zr_iadd hB dX9_read_213 (by omega) (by omega) (fun x159 ex159 => ?_)
                    refine zr_aload_n hB 2 dX9_read_214 rfl ?_
                    refine zr_geti' hG 0 1 (σ0.1 0 1) dX9_read_215 rfl wf_X9_101 rfl rfl ?_
                    refine zr_callvi hG (rest := [.int x155, .int y9_58]) 0 dX9_read_218 wm_X9_113 rfl rfl (c_M_knownOn K hG.2.2.2.2.2.1 σ0 p1 x159 (σ0.1 0 1) hO0 (by omega) (by omega) (by omega) (by omega)) rfl rfl (Nat.le_of_ble_eq_true rfl) ⟨Nat.le_of_ble_eq_true rfl, Nat.le_of_ble_eq_true rfl, rfl, rfl⟩ (fun r160 σ161 h162 => ?_)
                    obtain ⟨rfl, r160a, r160b, g163⟩ := h162
                    have hT0 := zx_or g163 (by omega)
                    clear g163
                    rw [show (256 * (σ0.1 0 1).toInt + 64 * p1.toInt + x159.toInt).toNat = 256 * (σ0.1 0 1).toInt.toNat + ((p1.toInt * 64 + p2.toInt).toNat + y10_59.toInt.toNat) by omega] at hT0
                    refine zr_icmp_eq hB dX9_read_221 (tgt := 228) rfl (fun c164 => ?_) (fun c164 => ?_)
                    · have hk9 : zy_A σ0 ((p1.toInt * 64 + p2.toInt).toNat + y10_59.toInt.toNat) (σ0.1 0 1).toInt = zq_nm ((zy_cl σ0 p3.toInt p5.toInt) y10_59.toInt.toNat) := by unfold zy_A zq_nm; rw [← hcl]; split <;> first | omega | (split <;> omega)
                      clear hT0
                      refine zr_iconst hB dX9_read_228 rfl (fun c165 ec165 => ?_)
                      refine zr_iadd hB dX9_read_229 (by omega) (by omega) (fun x166 ex166 => ?_)
                      refine zr_istore hB dX9_read_230 (by decide) (lv' := [(9, .int x166), (11, .int x155), (7, .int c148), (0, .ref (zk K 0)), (1, .int p1), (2, .int p2), (3, .int p3), (4, .int p4), (5, .int p5), (6, .int p6), (8, .int y8_57), (10, .int y10_59)]) rfl ?_
                      have hc9 : x166.toInt = (zq_cn (σ0.1 0 1).toInt (p1.toInt * 64 + p2.toInt).toNat (zy_cl σ0 p3.toInt p5.toInt) (zy_A σ0)) (y10_59.toInt.toNat + 1) := by have h8 := (hG9 (by omega)).2; first | (rw [zq_cnk hk9]; omega) | (rw [zq_cnt hk9]; omega)
                      refine zr_aload_n hB 3 dX9_read_232 rfl ?_
                      refine zr_geti' hG 0 2 (σ0.1 0 2) dX9_read_233 rfl wf_X9_105 rfl rfl ?_
                      have b167 : 0 ≤ (σ0.1 0 2).toInt ∧ (σ0.1 0 2).toInt ≤ 200 := ⟨(hO0 0 2).1, (hO0 0 2).2.1⟩
                      refine zr_iload hB 0 dX9_read_236 rfl ?_
                      refine zr_iadd hB dX9_read_238 (by omega) (by omega) (fun x168 ex168 => ?_)
                      refine zr_sipush hB dX9_read_239 rfl (fun c169 ec169 => ?_)
                      refine zr_icmp_le hB dX9_read_242 (tgt := 248) rfl (fun c170 => ?_) (fun c170 => ?_)
                      · refine zr_iinc hB 11 dX9_read_248 rfl (by decide) rfl (by omega) (by omega) (fun x171 ex171 lv' hlv => ?_)
                        obtain rfl : [(10, .int x171), (9, .int x166), (11, .int x155), (7, .int c148), (0, .ref (zk K 0)), (1, .int p1), (2, .int p2), (3, .int p3), (4, .int p4), (5, .int p5), (6, .int p6), (8, .int y8_57)] = lv' := hlv
                        refine zr_goto hB dX9_read_251 (tgt := 80) rfl ?_
                        exact zc_sub [4, 5, 6, 7, 8, 9, 10, 3, 11, 1, 0] rfl (ih80 c148 y8_57 x166 x171 (by omega) (by omega) (by omega) (by omega) (by omega) (by omega) (by omega) (by omega) (show x171.toInt ≤ p6.toInt by omega) (show x166.toInt ≤ x171.toInt by omega) (show (¬ c148.toInt = 0 ∨ y8_57.toInt = p6.toInt) by omega) (show (c148.toInt = 0 ∨ (y8_57.toInt = 0 ∨ (0 ≤ p5.toInt ∧ p5.toInt + y8_57.toInt ≤ 64))) by omega) (show (¬ c148.toInt = 0 ∨ (x171.toInt = 0 ∨ (0 ≤ p5.toInt ∧ p5.toInt + x171.toInt ≤ 64))) by omega) (show y8_57.toInt ≤ p6.toInt by omega) (show zc_hid (c148.toInt = 0 → ∀ j : Int, 0 ≤ j → j < x171.toInt → (σ0.1 26 (64 * p3.toInt + p5.toInt + j).toNat).toInt ≤ 999) by intro hb9 j h1 h2; first | (exfalso; omega) | exact (show (σ0.1 26 (64 * p3.toInt + p5.toInt + j).toNat).toInt ≤ 999 by by_cases hj : j < y10_59.toInt; exact hqa (by omega) j h1 hj; rw [show (64 * p3.toInt + p5.toInt + j).toNat = x154.toInt.toNat by omega, ← ex155]; omega)) (show zc_hid (¬ c148.toInt = 0 → ∀ j : Int, 0 ≤ j → j < y8_57.toInt → (σ0.1 26 (64 * p3.toInt + p5.toInt + j).toNat).toInt ≤ 999) by intro hb9 j h1 h2; first | (exfalso; omega) | exact hqa (by omega) j h1 (by omega) | exact hqb (by omega) j h1 h2) (show zc_hid (c148.toInt = 0 → zq_G (zy_fl σ0 p3.toInt p4.toInt p5.toInt) (zy_cl σ0 p3.toInt p5.toInt) (zq_cn (σ0.1 0 1).toInt (p1.toInt * 64 + p2.toInt).toNat (zy_cl σ0 p3.toInt p5.toInt) (zy_A σ0)) (σ0.1 0 2).toInt x171.toInt.toNat ∧ x166.toInt = (zq_cn (σ0.1 0 1).toInt (p1.toInt * 64 + p2.toInt).toNat (zy_cl σ0 p3.toInt p5.toInt) (zy_A σ0)) x171.toInt.toNat) by intro _; exact ⟨zq_G1 (hG9 (by omega)).1 (by omega) hfl (by rw [← hcl]; omega) (by rw [← hc9]; omega), by rw [show x171.toInt.toNat = y10_59.toInt.toNat + 1 by omega]; exact hc9⟩) (show zc_hid (¬ c148.toInt = 0 → zq_G (zy_fl σ0 p3.toInt p4.toInt p5.toInt) (zy_cl σ0 p3.toInt p5.toInt) (zq_cn (σ0.1 0 1).toInt (p1.toInt * 64 + p2.toInt).toNat (zy_cl σ0 p3.toInt p5.toInt) (zy_A σ0)) (σ0.1 0 2).toInt y8_57.toInt.toNat ∧ (zy_fl σ0 p3.toInt p4.toInt p5.toInt) y8_57.toInt.toNat) by intro h9; exfalso; omega) (by omega))
                      refine zr_bipush hB dX9_read_245 rfl (fun c172 ec172 => ?_)
                      exact zr_iret hG dX9_read_247 ⟨hO0, hA0, (Or.inr ⟨by omega, ⟨y10_59.toInt.toNat, by omega, (hG9 (by omega)).1, Or.inr ⟨by omega, hfl, Or.inr (by rw [← hc9]; omega), rfl⟩⟩⟩)⟩
                    have hk9 : ¬ zy_A σ0 ((p1.toInt * 64 + p2.toInt).toNat + y10_59.toInt.toNat) (σ0.1 0 1).toInt = zq_nm ((zy_cl σ0 p3.toInt p5.toInt) y10_59.toInt.toNat) := by unfold zy_A zq_nm; rw [← hcl]; split <;> first | omega | (split <;> omega)
                    clear hT0
                    refine zr_iconst hB dX9_read_224 rfl (fun c173 ec173 => ?_)
                    refine zr_goto hB dX9_read_225 (tgt := 229) rfl ?_
                    refine zr_iadd hB dX9_read_229 (by omega) (by omega) (fun x174 ex174 => ?_)
                    refine zr_istore hB dX9_read_230 (by decide) (lv' := [(9, .int x174), (11, .int x155), (7, .int c148), (0, .ref (zk K 0)), (1, .int p1), (2, .int p2), (3, .int p3), (4, .int p4), (5, .int p5), (6, .int p6), (8, .int y8_57), (10, .int y10_59)]) rfl ?_
                    have hc9 : x174.toInt = (zq_cn (σ0.1 0 1).toInt (p1.toInt * 64 + p2.toInt).toNat (zy_cl σ0 p3.toInt p5.toInt) (zy_A σ0)) (y10_59.toInt.toNat + 1) := by have h8 := (hG9 (by omega)).2; first | (rw [zq_cnk hk9]; omega) | (rw [zq_cnt hk9]; omega)
                    refine zr_aload_n hB 3 dX9_read_232 rfl ?_
                    refine zr_geti' hG 0 2 (σ0.1 0 2) dX9_read_233 rfl wf_X9_105 rfl rfl ?_
                    have b175 : 0 ≤ (σ0.1 0 2).toInt ∧ (σ0.1 0 2).toInt ≤ 200 := ⟨(hO0 0 2).1, (hO0 0 2).2.1⟩
                    refine zr_iload hB 0 dX9_read_236 rfl ?_
                    refine zr_iadd hB dX9_read_238 (by omega) (by omega) (fun x176 ex176 => ?_)
                    refine zr_sipush hB dX9_read_239 rfl (fun c177 ec177 => ?_)
                    refine zr_icmp_le hB dX9_read_242 (tgt := 248) rfl (fun c178 => ?_) (fun c178 => ?_)
                    · refine zr_iinc hB 11 dX9_read_248 rfl (by decide) rfl (by omega) (by omega) (fun x179 ex179 lv' hlv => ?_)
                      obtain rfl : [(10, .int x179), (9, .int x174), (11, .int x155), (7, .int c148), (0, .ref (zk K 0)), (1, .int p1), (2, .int p2), (3, .int p3), (4, .int p4), (5, .int p5), (6, .int p6), (8, .int y8_57)] = lv' := hlv
                      refine zr_goto hB dX9_read_251 (tgt := 80) rfl ?_
                      exact zc_sub [4, 5, 6, 7, 8, 9, 10, 3, 11, 1, 0] rfl (ih80 c148 y8_57 x174 x179 (by omega) (by omega) (by omega) (by omega) (by omega) (by omega) (by omega) (by omega) (show x179.toInt ≤ p6.toInt by omega) (show x174.toInt ≤ x179.toInt by omega) (show (¬ c148.toInt = 0 ∨ y8_57.toInt = p6.toInt) by omega) (show (c148.toInt = 0 ∨ (y8_57.toInt = 0 ∨ (0 ≤ p5.toInt ∧ p5.toInt + y8_57.toInt ≤ 64))) by omega) (show (¬ c148.toInt = 0 ∨ (x179.toInt = 0 ∨ (0 ≤ p5.toInt ∧ p5.toInt + x179.toInt ≤ 64))) by omega) (show y8_57.toInt ≤ p6.toInt by omega) (show zc_hid (c148.toInt = 0 → ∀ j : Int, 0 ≤ j → j < x179.toInt → (σ0.1 26 (64 * p3.toInt + p5.toInt + j).toNat).toInt ≤ 999) by intro hb9 j h1 h2; first | (exfalso; omega) | exact (show (σ0.1 26 (64 * p3.toInt + p5.toInt + j).toNat).toInt ≤ 999 by by_cases hj : j < y10_59.toInt; exact hqa (by omega) j h1 hj; rw [show (64 * p3.toInt + p5.toInt + j).toNat = x154.toInt.toNat by omega, ← ex155]; omega)) (show zc_hid (¬ c148.toInt = 0 → ∀ j : Int, 0 ≤ j → j < y8_57.toInt → (σ0.1 26 (64 * p3.toInt + p5.toInt + j).toNat).toInt ≤ 999) by intro hb9 j h1 h2; first | (exfalso; omega) | exact hqa (by omega) j h1 (by omega) | exact hqb (by omega) j h1 h2) (show zc_hid (c148.toInt = 0 → zq_G (zy_fl σ0 p3.toInt p4.toInt p5.toInt) (zy_cl σ0 p3.toInt p5.toInt) (zq_cn (σ0.1 0 1).toInt (p1.toInt * 64 + p2.toInt).toNat (zy_cl σ0 p3.toInt p5.toInt) (zy_A σ0)) (σ0.1 0 2).toInt x179.toInt.toNat ∧ x174.toInt = (zq_cn (σ0.1 0 1).toInt (p1.toInt * 64 + p2.toInt).toNat (zy_cl σ0 p3.toInt p5.toInt) (zy_A σ0)) x179.toInt.toNat) by intro _; exact ⟨zq_G1 (hG9 (by omega)).1 (by omega) hfl (by rw [← hcl]; omega) (by rw [← hc9]; omega), by rw [show x179.toInt.toNat = y10_59.toInt.toNat + 1 by omega]; exact hc9⟩) (show zc_hid (¬ c148.toInt = 0 → zq_G (zy_fl σ0 p3.toInt p4.toInt p5.toInt) (zy_cl σ0 p3.toInt p5.toInt) (zq_cn (σ0.1 0 1).toInt (p1.toInt * 64 + p2.toInt).toNat (zy_cl σ0 p3.toInt p5.toInt) (zy_A σ0)) (σ0.1 0 2).toInt y8_57.toInt.toNat ∧ (zy_fl σ0 p3.toInt p4.toInt p5.toInt) y8_57.toInt.toNat) by intro h9; exfalso; omega) (by omega))
                    refine zr_bipush hB dX9_read_245 rfl (fun c180 ec180 => ?_)
                    exact zr_iret hG dX9_read_247 ⟨hO0, hA0, (Or.inr ⟨by omega, ⟨y10_59.toInt.toNat, by omega, (hG9 (by omega)).1, Or.inr ⟨by omega, hfl, Or.inr (by rw [← hc9]; omega), rfl⟩⟩⟩)⟩
                  refine zr_iconst hB dX9_read_202 rfl (fun c181 ec181 => ?_)
                  refine zr_goto hB dX9_read_203 (tgt := 208) rfl ?_
                  refine zr_aload_n hB 2 dX9_read_208 rfl ?_
                  refine zr_iload_n hB 3 dX9_read_209 rfl ?_
                  refine zr_iload_n hB 4 dX9_read_210 rfl ?_
                  refine zr_iload hB 11 dX9_read_211 rfl ?_
                  refine zr_iadd hB dX9_read_213 (by omega) (by omega) (fun x182 ex182 => ?_)
                  refine zr_aload_n hB 2 dX9_read_214 rfl ?_
                  refine zr_geti' hG 0 1 (σ0.1 0 1) dX9_read_215 rfl wf_X9_101 rfl rfl ?_
                  refine zr_callvi hG (rest := [.int c181, .int y9_58]) 0 dX9_read_218 wm_X9_113 rfl rfl (c_M_knownOn K hG.2.2.2.2.2.1 σ0 p1 x182 (σ0.1 0 1) hO0 (by omega) (by omega) (by omega) (by omega)) rfl rfl (Nat.le_of_ble_eq_true rfl) ⟨Nat.le_of_ble_eq_true rfl, Nat.le_of_ble_eq_true rfl, rfl, rfl⟩ (fun r183 σ184 h185 => ?_)
                  obtain ⟨rfl, r183a, r183b, g186⟩ := h185
                  have hT0 := zx_or g186 (by omega)
                  clear g186
                  rw [show (256 * (σ0.1 0 1).toInt + 64 * p1.toInt + x182.toInt).toNat = 256 * (σ0.1 0 1).toInt.toNat + ((p1.toInt * 64 + p2.toInt).toNat + y10_59.toInt.toNat) by omega] at hT0
                  refine zr_icmp_eq hB dX9_read_221 (tgt := 228) rfl (fun c187 => ?_) (fun c187 => ?_)
                  · have hk9 : zy_A σ0 ((p1.toInt * 64 + p2.toInt).toNat + y10_59.toInt.toNat) (σ0.1 0 1).toInt = zq_nm ((zy_cl σ0 p3.toInt p5.toInt) y10_59.toInt.toNat) := by unfold zy_A zq_nm; rw [← hcl]; split <;> first | omega | (split <;> omega)
                    clear hT0
                    refine zr_iconst hB dX9_read_228 rfl (fun c188 ec188 => ?_)
                    refine zr_iadd hB dX9_read_229 (by omega) (by omega) (fun x189 ex189 => ?_)
                    refine zr_istore hB dX9_read_230 (by decide) (lv' := [(9, .int x189), (11, .int x155), (7, .int c148), (0, .ref (zk K 0)), (1, .int p1), (2, .int p2), (3, .int p3), (4, .int p4), (5, .int p5), (6, .int p6), (8, .int y8_57), (10, .int y10_59)]) rfl ?_
                    have hc9 : x189.toInt = (zq_cn (σ0.1 0 1).toInt (p1.toInt * 64 + p2.toInt).toNat (zy_cl σ0 p3.toInt p5.toInt) (zy_A σ0)) (y10_59.toInt.toNat + 1) := by have h8 := (hG9 (by omega)).2; first | (rw [zq_cnk hk9]; omega) | (rw [zq_cnt hk9]; omega)
                    refine zr_aload_n hB 3 dX9_read_232 rfl ?_
                    refine zr_geti' hG 0 2 (σ0.1 0 2) dX9_read_233 rfl wf_X9_105 rfl rfl ?_
                    have b190 : 0 ≤ (σ0.1 0 2).toInt ∧ (σ0.1 0 2).toInt ≤ 200 := ⟨(hO0 0 2).1, (hO0 0 2).2.1⟩
                    refine zr_iload hB 0 dX9_read_236 rfl ?_
                    refine zr_iadd hB dX9_read_238 (by omega) (by omega) (fun x191 ex191 => ?_)
                    refine zr_sipush hB dX9_read_239 rfl (fun c192 ec192 => ?_)
                    refine zr_icmp_le hB dX9_read_242 (tgt := 248) rfl (fun c193 => ?_) (fun c193 => ?_)
                    · refine zr_iinc hB 11 dX9_read_248 rfl (by decide) rfl (by omega) (by omega) (fun x194 ex194 lv' hlv => ?_)
                      obtain rfl : [(10, .int x194), (9, .int x189), (11, .int x155), (7, .int c148), (0, .ref (zk K 0)), (1, .int p1), (2, .int p2), (3, .int p3), (4, .int p4), (5, .int p5), (6, .int p6), (8, .int y8_57)] = lv' := hlv
                      refine zr_goto hB dX9_read_251 (tgt := 80) rfl ?_
                      exact zc_sub [4, 5, 6, 7, 8, 9, 10, 3, 11, 1, 0] rfl (ih80 c148 y8_57 x189 x194 (by omega) (by omega) (by omega) (by omega) (by omega) (by omega) (by omega) (by omega) (show x194.toInt ≤ p6.toInt by omega) (show x189.toInt ≤ x194.toInt by omega) (show (¬ c148.toInt = 0 ∨ y8_57.toInt = p6.toInt) by omega) (show (c148.toInt = 0 ∨ (y8_57.toInt = 0 ∨ (0 ≤ p5.toInt ∧ p5.toInt + y8_57.toInt ≤ 64))) by omega) (show (¬ c148.toInt = 0 ∨ (x194.toInt = 0 ∨ (0 ≤ p5.toInt ∧ p5.toInt + x194.toInt ≤ 64))) by omega) (show y8_57.toInt ≤ p6.toInt by omega) (show zc_hid (c148.toInt = 0 → ∀ j : Int, 0 ≤ j → j < x194.toInt → (σ0.1 26 (64 * p3.toInt + p5.toInt + j).toNat).toInt ≤ 999) by intro hb9 j h1 h2; first | (exfalso; omega) | exact (show (σ0.1 26 (64 * p3.toInt + p5.toInt + j).toNat).toInt ≤ 999 by by_cases hj : j < y10_59.toInt; exact hqa (by omega) j h1 hj; rw [show (64 * p3.toInt + p5.toInt + j).toNat = x154.toInt.toNat by omega, ← ex155]; omega)) (show zc_hid (¬ c148.toInt = 0 → ∀ j : Int, 0 ≤ j → j < y8_57.toInt → (σ0.1 26 (64 * p3.toInt + p5.toInt + j).toNat).toInt ≤ 999) by intro hb9 j h1 h2; first | (exfalso; omega) | exact hqa (by omega) j h1 (by omega) | exact hqb (by omega) j h1 h2) (show zc_hid (c148.toInt = 0 → zq_G (zy_fl σ0 p3.toInt p4.toInt p5.toInt) (zy_cl σ0 p3.toInt p5.toInt) (zq_cn (σ0.1 0 1).toInt (p1.toInt * 64 + p2.toInt).toNat (zy_cl σ0 p3.toInt p5.toInt) (zy_A σ0)) (σ0.1 0 2).toInt x194.toInt.toNat ∧ x189.toInt = (zq_cn (σ0.1 0 1).toInt (p1.toInt * 64 + p2.toInt).toNat (zy_cl σ0 p3.toInt p5.toInt) (zy_A σ0)) x194.toInt.toNat) by intro _; exact ⟨zq_G1 (hG9 (by omega)).1 (by omega) hfl (by rw [← hcl]; omega) (by rw [← hc9]; omega), by rw [show x194.toInt.toNat = y10_59.toInt.toNat + 1 by omega]; exact hc9⟩) (show zc_hid (¬ c148.toInt = 0 → zq_G (zy_fl σ0 p3.toInt p4.toInt p5.toInt) (zy_cl σ0 p3.toInt p5.toInt) (zq_cn (σ0.1 0 1).toInt (p1.toInt * 64 + p2.toInt).toNat (zy_cl σ0 p3.toInt p5.toInt) (zy_A σ0)) (σ0.1 0 2).toInt y8_57.toInt.toNat ∧ (zy_fl σ0 p3.toInt p4.toInt p5.toInt) y8_57.toInt.toNat) by intro h9; exfalso; omega) (by omega))
                    refine zr_bipush hB dX9_read_245 rfl (fun c195 ec195 => ?_)
                    exact zr_iret hG dX9_read_247 ⟨hO0, hA0, (Or.inr ⟨by omega, ⟨y10_59.toInt.toNat, by omega, (hG9 (by omega)).1, Or.inr ⟨by omega, hfl, Or.inr (by rw [← hc9]; omega), rfl⟩⟩⟩)⟩
                  have hk9 : ¬ zy_A σ0 ((p1.toInt * 64 + p2.toInt).toNat + y10_59.toInt.toNat) (σ0.1 0 1).toInt = zq_nm ((zy_cl σ0 p3.toInt p5.toInt) y10_59.toInt.toNat) := by unfold zy_A zq_nm; rw [← hcl]; split <;> first | omega | (split <;> omega)
                  clear hT0
                  refine zr_iconst hB dX9_read_224 rfl (fun c196 ec196 => ?_)
                  refine zr_goto hB dX9_read_225 (tgt := 229) rfl ?_
                  refine zr_iadd hB dX9_read_229 (by omega) (by omega) (fun x197 ex197 => ?_)
                  refine zr_istore hB dX9_read_230 (by decide) (lv' := [(9, .int x197), (11, .int x155), (7, .int c148), (0, .ref (zk K 0)), (1, .int p1), (2, .int p2), (3, .int p3), (4, .int p4), (5, .int p5), (6, .int p6), (8, .int y8_57), (10, .int y10_59)]) rfl ?_
                  have hc9 : x197.toInt = (zq_cn (σ0.1 0 1).toInt (p1.toInt * 64 + p2.toInt).toNat (zy_cl σ0 p3.toInt p5.toInt) (zy_A σ0)) (y10_59.toInt.toNat + 1) := by have h8 := (hG9 (by omega)).2; first | (rw [zq_cnk hk9]; omega) | (rw [zq_cnt hk9]; omega)
                  refine zr_aload_n hB 3 dX9_read_232 rfl ?_
                  refine zr_geti' hG 0 2 (σ0.1 0 2) dX9_read_233 rfl wf_X9_105 rfl rfl ?_
                  have b198 : 0 ≤ (σ0.1 0 2).toInt ∧ (σ0.1 0 2).toInt ≤ 200 := ⟨(hO0 0 2).1, (hO0 0 2).2.1⟩
                  refine zr_iload hB 0 dX9_read_236 rfl ?_
                  refine zr_iadd hB dX9_read_238 (by omega) (by omega) (fun x199 ex199 => ?_)
                  refine zr_sipush hB dX9_read_239 rfl (fun c200 ec200 => ?_)
                  refine zr_icmp_le hB dX9_read_242 (tgt := 248) rfl (fun c201 => ?_) (fun c201 => ?_)
                  · refine zr_iinc hB 11 dX9_read_248 rfl (by decide) rfl (by omega) (by omega) (fun x202 ex202 lv' hlv => ?_)
                    obtain rfl : [(10, .int x202), (9, .int x197), (11, .int x155), (7, .int c148), (0, .ref (zk K 0)), (1, .int p1), (2, .int p2), (3, .int p3), (4, .int p4), (5, .int p5), (6, .int p6), (8, .int y8_57)] = lv' := hlv
                    refine zr_goto hB dX9_read_251 (tgt := 80) rfl ?_
                    exact zc_sub [4, 5, 6, 7, 8, 9, 10, 3, 11, 1, 0] rfl (ih80 c148 y8_57 x197 x202 (by omega) (by omega) (by omega) (by omega) (by omega) (by omega) (by omega) (by omega) (show x202.toInt ≤ p6.toInt by omega) (show x197.toInt ≤ x202.toInt by omega) (show (¬ c148.toInt = 0 ∨ y8_57.toInt = p6.toInt) by omega) (show (c148.toInt = 0 ∨ (y8_57.toInt = 0 ∨ (0 ≤ p5.toInt ∧ p5.toInt + y8_57.toInt ≤ 64))) by omega) (show (¬ c148.toInt = 0 ∨ (x202.toInt = 0 ∨ (0 ≤ p5.toInt ∧ p5.toInt + x202.toInt ≤ 64))) by omega) (show y8_57.toInt ≤ p6.toInt by omega) (show zc_hid (c148.toInt = 0 → ∀ j : Int, 0 ≤ j → j < x202.toInt → (σ0.1 26 (64 * p3.toInt + p5.toInt + j).toNat).toInt ≤ 999) by intro hb9 j h1 h2; first | (exfalso; omega) | exact (show (σ0.1 26 (64 * p3.toInt + p5.toInt + j).toNat).toInt ≤ 999 by by_cases hj : j < y10_59.toInt; exact hqa (by omega) j h1 hj; rw [show (64 * p3.toInt + p5.toInt + j).toNat = x154.toInt.toNat by omega, ← ex155]; omega)) (show zc_hid (¬ c148.toInt = 0 → ∀ j : Int, 0 ≤ j → j < y8_57.toInt → (σ0.1 26 (64 * p3.toInt + p5.toInt + j).toNat).toInt ≤ 999) by intro hb9 j h1 h2; first | (exfalso; omega) | exact hqa (by omega) j h1 (by omega) | exact hqb (by omega) j h1 h2) (show zc_hid (c148.toInt = 0 → zq_G (zy_fl σ0 p3.toInt p4.toInt p5.toInt) (zy_cl σ0 p3.toInt p5.toInt) (zq_cn (σ0.1 0 1).toInt (p1.toInt * 64 + p2.toInt).toNat (zy_cl σ0 p3.toInt p5.toInt) (zy_A σ0)) (σ0.1 0 2).toInt x202.toInt.toNat ∧ x197.toInt = (zq_cn (σ0.1 0 1).toInt (p1.toInt * 64 + p2.toInt).toNat (zy_cl σ0 p3.toInt p5.toInt) (zy_A σ0)) x202.toInt.toNat) by intro _; exact ⟨zq_G1 (hG9 (by omega)).1 (by omega) hfl (by rw [← hcl]; omega) (by rw [← hc9]; omega), by rw [show x202.toInt.toNat = y10_59.toInt.toNat + 1 by omega]; exact hc9⟩) (show zc_hid (¬ c148.toInt = 0 → zq_G (zy_fl σ0 p3.toInt p4.toInt p5.toInt) (zy_cl σ0 p3.toInt p5.toInt) (zq_cn (σ0.1 0 1).toInt (p1.toInt * 64 + p2.toInt).toNat (zy_cl σ0 p3.toInt p5.toInt) (zy_A σ0)) (σ0.1 0 2).toInt y8_57.toInt.toNat ∧ (zy_fl σ0 p3.toInt p4.toInt p5.toInt) y8_57.toInt.toNat) by intro h9; exfalso; omega) (by omega))
                  refine zr_bipush hB dX9_read_245 rfl (fun c203 ec203 => ?_)
                  exact zr_iret hG dX9_read_247 ⟨hO0, hA0, (Or.inr ⟨by omega, ⟨y10_59.toInt.toNat, by omega, (hG9 (by omega)).1, Or.inr ⟨by omega, hfl, Or.inr (by rw [← hc9]; omega), rfl⟩⟩⟩)⟩
                refine zr_bipush hB dX9_read_189 rfl (fun c204 ec204 => ?_)
                refine zr_iload hB 11 dX9_read_191 rfl ?_
                refine zr_isub hB dX9_read_193 (by omega) (by omega) (fun x205 ex205 => ?_)
                exact zr_iret hG dX9_read_194 ⟨hO0, hA0, (Or.inr ⟨by omega, ⟨y10_59.toInt.toNat, by omega, (hG9 (by omega)).1, Or.inr ⟨by omega, hfl, Or.inl (by rw [← hcl]; omega), rfl⟩⟩⟩)⟩
              exfalso; omega
            have q206 := r143q.f c146
            refine zr_iconst hB dX9_read_145 rfl (fun c207 ec207 => ?_)
            refine zr_goto hB dX9_read_146 (tgt := 150) rfl ?_
            refine zr_istore hB dX9_read_150 (by decide) (lv' := [(7, .int c207), (0, .ref (zk K 0)), (1, .int p1), (2, .int p2), (3, .int p3), (4, .int p4), (5, .int p5), (6, .int p6), (8, .int y8_57), (9, .int y9_58), (10, .int y10_59)]) rfl ?_
            refine zr_iload hB 0 dX9_read_152 rfl ?_
            refine zr_if_le hB dX9_read_154 (tgt := 164) rfl (fun c208 => ?_) (fun c208 => ?_)
            · exfalso; omega
            have hfl : (zy_fl σ0 p3.toInt p4.toInt p5.toInt) y10_59.toInt.toNat := by have hqx129 := congrArg Int32.toInt ex129; have hqx139 := congrArg Int32.toInt ex139; unfold zy_fl; omega
            refine zr_iload hB 10 dX9_read_157 rfl ?_
            refine zr_istore hB dX9_read_159 (by decide) (lv' := [(8, .int y10_59), (7, .int c207), (0, .ref (zk K 0)), (1, .int p1), (2, .int p2), (3, .int p3), (4, .int p4), (5, .int p5), (6, .int p6), (9, .int y9_58), (10, .int y10_59)]) rfl ?_
            refine zr_goto hB dX9_read_161 (tgt := 248) rfl ?_
            refine zr_iinc hB 10 dX9_read_248 rfl (by decide) rfl (by omega) (by omega) (fun x209 ex209 lv' hlv => ?_)
            obtain rfl : [(10, .int x209), (8, .int y10_59), (7, .int c207), (0, .ref (zk K 0)), (1, .int p1), (2, .int p2), (3, .int p3), (4, .int p4), (5, .int p5), (6, .int p6), (9, .int y9_58)] = lv' := hlv
            refine zr_goto hB dX9_read_251 (tgt := 80) rfl ?_
            exact zc_sub [3, 4, 5, 6, 7, 8, 9, 2, 1, 10, 0] rfl (ih80 c207 y10_59 y9_58 x209 (by omega) (by omega) (by omega) (by omega) (by omega) (by omega) (by omega) (by omega) (show x209.toInt ≤ p6.toInt by omega) (show y9_58.toInt ≤ x209.toInt by omega) (show (¬ c207.toInt = 0 ∨ y10_59.toInt = p6.toInt) by omega) (show (c207.toInt = 0 ∨ (y10_59.toInt = 0 ∨ (0 ≤ p5.toInt ∧ p5.toInt + y10_59.toInt ≤ 64))) by omega) (show (¬ c207.toInt = 0 ∨ (x209.toInt = 0 ∨ (0 ≤ p5.toInt ∧ p5.toInt + x209.toInt ≤ 64))) by omega) (show y10_59.toInt ≤ p6.toInt by omega) (show zc_hid (c207.toInt = 0 → ∀ j : Int, 0 ≤ j → j < x209.toInt → (σ0.1 26 (64 * p3.toInt + p5.toInt + j).toNat).toInt ≤ 999) by intro hb9 j h1 h2; exfalso; omega) (show zc_hid (¬ c207.toInt = 0 → ∀ j : Int, 0 ≤ j → j < y10_59.toInt → (σ0.1 26 (64 * p3.toInt + p5.toInt + j).toNat).toInt ≤ 999) by intro hb9 j h1 h2; first | (exfalso; omega) | exact hqa (by omega) j h1 (by omega) | exact hqb (by omega) j h1 h2) (show zc_hid (c207.toInt = 0 → zq_G (zy_fl σ0 p3.toInt p4.toInt p5.toInt) (zy_cl σ0 p3.toInt p5.toInt) (zq_cn (σ0.1 0 1).toInt (p1.toInt * 64 + p2.toInt).toNat (zy_cl σ0 p3.toInt p5.toInt) (zy_A σ0)) (σ0.1 0 2).toInt x209.toInt.toNat ∧ y9_58.toInt = (zq_cn (σ0.1 0 1).toInt (p1.toInt * 64 + p2.toInt).toNat (zy_cl σ0 p3.toInt p5.toInt) (zy_A σ0)) x209.toInt.toNat) by intro h9; exfalso; omega) (show zc_hid (¬ c207.toInt = 0 → zq_G (zy_fl σ0 p3.toInt p4.toInt p5.toInt) (zy_cl σ0 p3.toInt p5.toInt) (zq_cn (σ0.1 0 1).toInt (p1.toInt * 64 + p2.toInt).toNat (zy_cl σ0 p3.toInt p5.toInt) (zy_A σ0)) (σ0.1 0 2).toInt y10_59.toInt.toNat ∧ (zy_fl σ0 p3.toInt p4.toInt p5.toInt) y10_59.toInt.toNat) by intro _; rw [show y10_59.toInt.toNat = y10_59.toInt.toNat by omega]; exact ⟨(hG9 (by omega)).1, hfl⟩) (by omega))
          refine zr_iconst hB dX9_read_118 rfl (fun c210 ec210 => ?_)
          refine zr_goto hB dX9_read_119 (tgt := 150) rfl ?_
          refine zr_istore hB dX9_read_150 (by decide) (lv' := [(7, .int c210), (0, .ref (zk K 0)), (1, .int p1), (2, .int p2), (3, .int p3), (4, .int p4), (5, .int p5), (6, .int p6), (8, .int y8_57), (9, .int y9_58), (10, .int y10_59)]) rfl ?_
          refine zr_iload hB 0 dX9_read_152 rfl ?_
          refine zr_if_le hB dX9_read_154 (tgt := 164) rfl (fun c211 => ?_) (fun c211 => ?_)
          · exfalso; omega
          have hfl : (zy_fl σ0 p3.toInt p4.toInt p5.toInt) y10_59.toInt.toNat := by have hqx129 := congrArg Int32.toInt ex129; unfold zy_fl; omega
          refine zr_iload hB 10 dX9_read_157 rfl ?_
          refine zr_istore hB dX9_read_159 (by decide) (lv' := [(8, .int y10_59), (7, .int c210), (0, .ref (zk K 0)), (1, .int p1), (2, .int p2), (3, .int p3), (4, .int p4), (5, .int p5), (6, .int p6), (9, .int y9_58), (10, .int y10_59)]) rfl ?_
          refine zr_goto hB dX9_read_161 (tgt := 248) rfl ?_
          refine zr_iinc hB 10 dX9_read_248 rfl (by decide) rfl (by omega) (by omega) (fun x212 ex212 lv' hlv => ?_)
          obtain rfl : [(10, .int x212), (8, .int y10_59), (7, .int c210), (0, .ref (zk K 0)), (1, .int p1), (2, .int p2), (3, .int p3), (4, .int p4), (5, .int p5), (6, .int p6), (9, .int y9_58)] = lv' := hlv
          refine zr_goto hB dX9_read_251 (tgt := 80) rfl ?_
          exact zc_sub [3, 4, 5, 6, 7, 8, 9, 2, 1, 10, 0] rfl (ih80 c210 y10_59 y9_58 x212 (by omega) (by omega) (by omega) (by omega) (by omega) (by omega) (by omega) (by omega) (show x212.toInt ≤ p6.toInt by omega) (show y9_58.toInt ≤ x212.toInt by omega) (show (¬ c210.toInt = 0 ∨ y10_59.toInt = p6.toInt) by omega) (show (c210.toInt = 0 ∨ (y10_59.toInt = 0 ∨ (0 ≤ p5.toInt ∧ p5.toInt + y10_59.toInt ≤ 64))) by omega) (show (¬ c210.toInt = 0 ∨ (x212.toInt = 0 ∨ (0 ≤ p5.toInt ∧ p5.toInt + x212.toInt ≤ 64))) by omega) (show y10_59.toInt ≤ p6.toInt by omega) (show zc_hid (c210.toInt = 0 → ∀ j : Int, 0 ≤ j → j < x212.toInt → (σ0.1 26 (64 * p3.toInt + p5.toInt + j).toNat).toInt ≤ 999) by intro hb9 j h1 h2; exfalso; omega) (show zc_hid (¬ c210.toInt = 0 → ∀ j : Int, 0 ≤ j → j < y10_59.toInt → (σ0.1 26 (64 * p3.toInt + p5.toInt + j).toNat).toInt ≤ 999) by intro hb9 j h1 h2; first | (exfalso; omega) | exact hqa (by omega) j h1 (by omega) | exact hqb (by omega) j h1 h2) (show zc_hid (c210.toInt = 0 → zq_G (zy_fl σ0 p3.toInt p4.toInt p5.toInt) (zy_cl σ0 p3.toInt p5.toInt) (zq_cn (σ0.1 0 1).toInt (p1.toInt * 64 + p2.toInt).toNat (zy_cl σ0 p3.toInt p5.toInt) (zy_A σ0)) (σ0.1 0 2).toInt x212.toInt.toNat ∧ y9_58.toInt = (zq_cn (σ0.1 0 1).toInt (p1.toInt * 64 + p2.toInt).toNat (zy_cl σ0 p3.toInt p5.toInt) (zy_A σ0)) x212.toInt.toNat) by intro h9; exfalso; omega) (show zc_hid (¬ c210.toInt = 0 → zq_G (zy_fl σ0 p3.toInt p4.toInt p5.toInt) (zy_cl σ0 p3.toInt p5.toInt) (zq_cn (σ0.1 0 1).toInt (p1.toInt * 64 + p2.toInt).toNat (zy_cl σ0 p3.toInt p5.toInt) (zy_A σ0)) (σ0.1 0 2).toInt y10_59.toInt.toNat ∧ (zy_fl σ0 p3.toInt p4.toInt p5.toInt) y10_59.toInt.toNat) by intro _; rw [show y10_59.toInt.toNat = y10_59.toInt.toNat by omega]; exact ⟨(hG9 (by omega)).1, hfl⟩) (by omega))
        refine zr_iconst hB dX9_read_103 rfl (fun c213 ec213 => ?_)
        refine zr_goto hB dX9_read_104 (tgt := 150) rfl ?_
        refine zr_istore hB dX9_read_150 (by decide) (lv' := [(7, .int c213), (0, .ref (zk K 0)), (1, .int p1), (2, .int p2), (3, .int p3), (4, .int p4), (5, .int p5), (6, .int p6), (8, .int y8_57), (9, .int y9_58), (10, .int y10_59)]) rfl ?_
        refine zr_iload hB 0 dX9_read_152 rfl ?_
        refine zr_if_le hB dX9_read_154 (tgt := 164) rfl (fun c214 => ?_) (fun c214 => ?_)
        · exfalso; omega
        have hfl : (zy_fl σ0 p3.toInt p4.toInt p5.toInt) y10_59.toInt.toNat := by have hqx129 := congrArg Int32.toInt ex129; unfold zy_fl; omega
        refine zr_iload hB 10 dX9_read_157 rfl ?_
        refine zr_istore hB dX9_read_159 (by decide) (lv' := [(8, .int y10_59), (7, .int c213), (0, .ref (zk K 0)), (1, .int p1), (2, .int p2), (3, .int p3), (4, .int p4), (5, .int p5), (6, .int p6), (9, .int y9_58), (10, .int y10_59)]) rfl ?_
        refine zr_goto hB dX9_read_161 (tgt := 248) rfl ?_
        refine zr_iinc hB 10 dX9_read_248 rfl (by decide) rfl (by omega) (by omega) (fun x215 ex215 lv' hlv => ?_)
        obtain rfl : [(10, .int x215), (8, .int y10_59), (7, .int c213), (0, .ref (zk K 0)), (1, .int p1), (2, .int p2), (3, .int p3), (4, .int p4), (5, .int p5), (6, .int p6), (9, .int y9_58)] = lv' := hlv
        refine zr_goto hB dX9_read_251 (tgt := 80) rfl ?_
        exact zc_sub [3, 4, 5, 6, 7, 8, 9, 2, 1, 10, 0] rfl (ih80 c213 y10_59 y9_58 x215 (by omega) (by omega) (by omega) (by omega) (by omega) (by omega) (by omega) (by omega) (show x215.toInt ≤ p6.toInt by omega) (show y9_58.toInt ≤ x215.toInt by omega) (show (¬ c213.toInt = 0 ∨ y10_59.toInt = p6.toInt) by omega) (show (c213.toInt = 0 ∨ (y10_59.toInt = 0 ∨ (0 ≤ p5.toInt ∧ p5.toInt + y10_59.toInt ≤ 64))) by omega) (show (¬ c213.toInt = 0 ∨ (x215.toInt = 0 ∨ (0 ≤ p5.toInt ∧ p5.toInt + x215.toInt ≤ 64))) by omega) (show y10_59.toInt ≤ p6.toInt by omega) (show zc_hid (c213.toInt = 0 → ∀ j : Int, 0 ≤ j → j < x215.toInt → (σ0.1 26 (64 * p3.toInt + p5.toInt + j).toNat).toInt ≤ 999) by intro hb9 j h1 h2; exfalso; omega) (show zc_hid (¬ c213.toInt = 0 → ∀ j : Int, 0 ≤ j → j < y10_59.toInt → (σ0.1 26 (64 * p3.toInt + p5.toInt + j).toNat).toInt ≤ 999) by intro hb9 j h1 h2; first | (exfalso; omega) | exact hqa (by omega) j h1 (by omega) | exact hqb (by omega) j h1 h2) (show zc_hid (c213.toInt = 0 → zq_G (zy_fl σ0 p3.toInt p4.toInt p5.toInt) (zy_cl σ0 p3.toInt p5.toInt) (zq_cn (σ0.1 0 1).toInt (p1.toInt * 64 + p2.toInt).toNat (zy_cl σ0 p3.toInt p5.toInt) (zy_A σ0)) (σ0.1 0 2).toInt x215.toInt.toNat ∧ y9_58.toInt = (zq_cn (σ0.1 0 1).toInt (p1.toInt * 64 + p2.toInt).toNat (zy_cl σ0 p3.toInt p5.toInt) (zy_A σ0)) x215.toInt.toNat) by intro h9; exfalso; omega) (show zc_hid (¬ c213.toInt = 0 → zq_G (zy_fl σ0 p3.toInt p4.toInt p5.toInt) (zy_cl σ0 p3.toInt p5.toInt) (zq_cn (σ0.1 0 1).toInt (p1.toInt * 64 + p2.toInt).toNat (zy_cl σ0 p3.toInt p5.toInt) (zy_A σ0)) (σ0.1 0 2).toInt y10_59.toInt.toNat ∧ (zy_fl σ0 p3.toInt p4.toInt p5.toInt) y10_59.toInt.toNat) by intro _; rw [show y10_59.toInt.toNat = y10_59.toInt.toNat by omega]; exact ⟨(hG9 (by omega)).1, hfl⟩) (by omega))
    exact zc_sub [4, 5, 6, 7, 8, 9, 10, 3, 2, 1, 0] rfl (L80_66 66 c53 p6 c54 c55 (by omega) (by omega) (by omega) (by omega) (by omega) (by omega) (by omega) (by omega) (show c55.toInt ≤ p6.toInt by omega) (show c54.toInt ≤ c55.toInt by omega) (show (¬ c53.toInt = 0 ∨ p6.toInt = p6.toInt) by omega) (show (c53.toInt = 0 ∨ (p6.toInt = 0 ∨ (0 ≤ p5.toInt ∧ p5.toInt + p6.toInt ≤ 64))) by omega) (show (¬ c53.toInt = 0 ∨ (c55.toInt = 0 ∨ (0 ≤ p5.toInt ∧ p5.toInt + c55.toInt ≤ 64))) by omega) (show p6.toInt ≤ p6.toInt by omega) (show zc_hid (c53.toInt = 0 → ∀ j : Int, 0 ≤ j → j < c55.toInt → (σ0.1 26 (64 * p3.toInt + p5.toInt + j).toNat).toInt ≤ 999) by intro hb9 j h1 h2; exfalso; omega) (show zc_hid (¬ c53.toInt = 0 → ∀ j : Int, 0 ≤ j → j < p6.toInt → (σ0.1 26 (64 * p3.toInt + p5.toInt + j).toNat).toInt ≤ 999) by intro hb9 j h1 h2; first | (exfalso; omega) | exact hqa (by omega) j h1 (by omega) | exact hqb (by omega) j h1 h2) (show zc_hid (c53.toInt = 0 → zq_G (zy_fl σ0 p3.toInt p4.toInt p5.toInt) (zy_cl σ0 p3.toInt p5.toInt) (zq_cn (σ0.1 0 1).toInt (p1.toInt * 64 + p2.toInt).toNat (zy_cl σ0 p3.toInt p5.toInt) (zy_A σ0)) (σ0.1 0 2).toInt c55.toInt.toNat ∧ c54.toInt = (zq_cn (σ0.1 0 1).toInt (p1.toInt * 64 + p2.toInt).toNat (zy_cl σ0 p3.toInt p5.toInt) (zy_A σ0)) c55.toInt.toNat) by intro _; exact ⟨zq_Gz (by omega), by rw [show c55.toInt.toNat = 0 by omega]; show _ = (0 : Int); omega⟩) (show zc_hid (¬ c53.toInt = 0 → zq_G (zy_fl σ0 p3.toInt p4.toInt p5.toInt) (zy_cl σ0 p3.toInt p5.toInt) (zq_cn (σ0.1 0 1).toInt (p1.toInt * 64 + p2.toInt).toNat (zy_cl σ0 p3.toInt p5.toInt) (zy_A σ0)) (σ0.1 0 2).toInt p6.toInt.toNat ∧ (zy_fl σ0 p3.toInt p4.toInt p5.toInt) p6.toInt.toNat) by intro h9; exfalso; omega) (by omega))
  refine zr_iconst hB dX9_read_65 rfl (fun c216 ec216 => ?_)
  exact zr_iret hG dX9_read_66 ⟨hO0, hA0, (Or.inl ⟨by omega, rfl⟩)⟩
