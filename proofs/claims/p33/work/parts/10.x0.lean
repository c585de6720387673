set_option maxHeartbeats 1000000 in
set_option maxRecDepth 100000 in
theorem c_J9_abs_0f7a4 (K : zc_K) (hi : zc_inj shX K.2.2.2.1) (σ0 : zc_S) (p0 : Int32) (hO0 : zc_O okX σ0) (h0a : (-2147483647) ≤ p0.toInt) : zc_M shX K yJ9_abs_0f7a4 cJ9_abs_0f7a4 1 (some .int) (zrm 0 0) σ0 [.int p0] (zc_I (fun r9 σ9 => σ0 = σ9 ∧ 0 ≤ r9.toInt ∧ (r9.toInt = p0.toInt ∨ r9.toInt = -p0.toInt))) := by
  refine zc_start RJ9 hi pfJ9_abs_0f7a4 rfl (Nat.le_of_ble_eq_true rfl) ?_
  intro G hG
  have hB := hG.1
  show zc_V 1 K G (zc_D shX K G σ0) [(0, .int p0)] 0 []
  refine zr_iload_n hB 0 dJ9_abs_0f7a4_0 rfl ?_
  refine zr_if_ge hB dJ9_abs_0f7a4_1 (tgt := 9) rfl (fun c1 => ?_) (fun c1 => ?_)
  · refine zr_iload_n hB 0 dJ9_abs_0f7a4_9 rfl ?_
    exact zr_iret hG dJ9_abs_0f7a4_10 ⟨rfl, by omega, by omega⟩
  refine zr_iload_n hB 0 dJ9_abs_0f7a4_4 rfl ?_
  refine zr_ineg hB dJ9_abs_0f7a4_5 (by omega) (fun x2 ex2 => ?_)
  refine zr_goto hB dJ9_abs_0f7a4_6 (tgt := 10) rfl ?_
  exact zr_iret hG dJ9_abs_0f7a4_10 ⟨rfl, by omega, by omega⟩

set_option maxHeartbeats 1000000 in
set_option maxRecDepth 100000 in
theorem c_J9_max_7cf53 (K : zc_K) (hi : zc_inj shX K.2.2.2.1) (σ0 : zc_S) (p0 : Int32) (p1 : Int32) (hO0 : zc_O okX σ0)  : zc_M shX K yJ9_max_7cf53 cJ9_max_7cf53 2 (some .int) (zrm 0 0) σ0 [.int p0, .int p1] (zc_I (fun r9 σ9 => σ0 = σ9 ∧ p0.toInt ≤ r9.toInt ∧ p1.toInt ≤ r9.toInt ∧ (r9.toInt = p0.toInt ∨ r9.toInt = p1.toInt))) := by
  refine zc_start RJ9 hi pfJ9_max_7cf53 rfl (Nat.le_of_ble_eq_true rfl) ?_
  intro G hG
  have hB := hG.1
  show zc_V 2 K G (zc_D shX K G σ0) [(0, .int p0), (1, .int p1)] 0 []
  refine zr_iload_n hB 0 dJ9_max_7cf53_0 rfl ?_
  refine zr_iload_n hB 1 dJ9_max_7cf53_1 rfl ?_
  refine zr_icmp_lt hB dJ9_max_7cf53_2 (tgt := 9) rfl (fun c1 => ?_) (fun c1 => ?_)
  · refine zr_iload_n hB 1 dJ9_max_7cf53_9 rfl ?_
    exact zr_iret hG dJ9_max_7cf53_10 ⟨rfl, by omega, by omega, by omega⟩
  refine zr_iload_n hB 0 dJ9_max_7cf53_5 rfl ?_
  refine zr_goto hB dJ9_max_7cf53_6 (tgt := 10) rfl ?_
  exact zr_iret hG dJ9_max_7cf53_10 ⟨rfl, by omega, by omega, by omega⟩

set_option maxHeartbeats 1000000 in
set_option maxRecDepth 100000 in
theorem c_J9_min_7cf53 (K : zc_K) (hi : zc_inj shX K.2.2.2.1) (σ0 : zc_S) (p0 : Int32) (p1 : Int32) (hO0 : zc_O okX σ0)  : zc_M shX K yJ9_min_7cf53 cJ9_min_7cf53 2 (some .int) (zrm 0 0) σ0 [.int p0, .int p1] (zc_I (fun r9 σ9 => σ0 = σ9 ∧ r9.toInt ≤ p0.toInt ∧ r9.toInt ≤ p1.toInt ∧ (r9.toInt = p0.toInt ∨ r9.toInt = p1.toInt))) := by
  refine zc_start RJ9 hi pfJ9_min_7cf53 rfl (Nat.le_of_ble_eq_true rfl) ?_
  intro G hG
  have hB := hG.1
  show zc_V 2 K G (zc_D shX K G σ0) [(0, .int p0), (1, .int p1)] 0 []
  refine zr_iload_n hB 0 dJ9_min_7cf53_0 rfl ?_
  refine zr_iload_n hB 1 dJ9_min_7cf53_1 rfl ?_
  refine zr_icmp_gt hB dJ9_min_7cf53_2 (tgt := 9) rfl (fun c1 => ?_) (fun c1 => ?_)
  · refine zr_iload_n hB 1 dJ9_min_7cf53_9 rfl ?_
    exact zr_iret hG dJ9_min_7cf53_10 ⟨rfl, by omega, by omega, by omega⟩
  refine zr_iload_n hB 0 dJ9_min_7cf53_5 rfl ?_
  refine zr_goto hB dJ9_min_7cf53_6 (tgt := 10) rfl ?_
  exact zr_iret hG dJ9_min_7cf53_10 ⟨rfl, by omega, by omega, by omega⟩

set_option maxHeartbeats 1000000 in
set_option maxRecDepth 100000 in
theorem c_J9_max_f86c9 (K : zc_K) (hi : zc_inj shX K.2.2.2.1) (σ0 : zc_S) (p0 : Int64) (p2 : Int64) (hO0 : zc_O okX σ0)  : zc_M shX K yJ9_max_f86c9 cJ9_max_f86c9 4 (some .long) (zrm 0 0) σ0 [.long p0, .long p2] (zc_J (fun r9 σ9 => σ0 = σ9 ∧ p0.toInt ≤ r9.toInt ∧ p2.toInt ≤ r9.toInt ∧ (r9.toInt = p0.toInt ∨ r9.toInt = p2.toInt))) := by
  refine zc_start RJ9 hi pfJ9_max_f86c9 rfl (Nat.le_of_ble_eq_true rfl) ?_
  intro G hG
  have hB := hG.1
  show zc_V 4 K G (zc_D shX K G σ0) [(0, .long p0), (2, .long p2)] 0 []
  refine zr_lload_n hB 0 dJ9_max_f86c9_0 rfl ?_
  refine zr_lload_n hB 1 dJ9_max_f86c9_1 rfl ?_
  refine zr_lcmp_lt hB dJ9_max_f86c9_2 dJ9_max_f86c9_3 (tgt := 10) rfl (fun c1 => ?_) (fun c1 => ?_)
  · refine zr_lload_n hB 1 dJ9_max_f86c9_10 rfl ?_
    exact zr_lret hG dJ9_max_f86c9_11 ⟨rfl, by omega, by omega, by omega⟩
  refine zr_lload_n hB 0 dJ9_max_f86c9_6 rfl ?_
  refine zr_goto hB dJ9_max_f86c9_7 (tgt := 11) rfl ?_
  exact zr_lret hG dJ9_max_f86c9_11 ⟨rfl, by omega, by omega, by omega⟩

set_option maxHeartbeats 1000000 in
set_option maxRecDepth 100000 in
theorem c_J9_min_f86c9 (K : zc_K) (hi : zc_inj shX K.2.2.2.1) (σ0 : zc_S) (p0 : Int64) (p2 : Int64) (hO0 : zc_O okX σ0)  : zc_M shX K yJ9_min_f86c9 cJ9_min_f86c9 4 (some .long) (zrm 0 0) σ0 [.long p0, .long p2] (zc_J (fun r9 σ9 => σ0 = σ9 ∧ r9.toInt ≤ p0.toInt ∧ r9.toInt ≤ p2.toInt ∧ (r9.toInt = p0.toInt ∨ r9.toInt = p2.toInt))) := by
  refine zc_start RJ9 hi pfJ9_min_f86c9 rfl (Nat.le_of_ble_eq_true rfl) ?_
  intro G hG
  have hB := hG.1
  show zc_V 4 K G (zc_D shX K G σ0) [(0, .long p0), (2, .long p2)] 0 []
  refine zr_lload_n hB 0 dJ9_min_f86c9_0 rfl ?_
  refine zr_lload_n hB 1 dJ9_min_f86c9_1 rfl ?_
  refine zr_lcmp_gt hB dJ9_min_f86c9_2 dJ9_min_f86c9_3 (tgt := 10) rfl (fun c1 => ?_) (fun c1 => ?_)
  · refine zr_lload_n hB 1 dJ9_min_f86c9_10 rfl ?_
    exact zr_lret hG dJ9_min_f86c9_11 ⟨rfl, by omega, by omega, by omega⟩
  refine zr_lload_n hB 0 dJ9_min_f86c9_6 rfl ?_
  refine zr_goto hB dJ9_min_f86c9_7 (tgt := 11) rfl ?_
  exact zr_lret hG dJ9_min_f86c9_11 ⟨rfl, by omega, by omega, by omega⟩

set_option maxHeartbeats 1000000 in
set_option maxRecDepth 100000 in
theorem c_J9_floorDiv_f86c9 (K : zc_K) (hi : zc_inj shX K.2.2.2.1) (σ0 : zc_S) (p0 : Int64) (p2 : Int64) (hO0 : zc_O okX σ0) (hx0 : ¬ p2.toInt = 0) : zc_M shX K yJ9_floorDiv_f86c9 cJ9_floorDiv_f86c9 6 (some .long) (zrm 0 0) σ0 [.long p0, .long p2] (zc_J (fun r9 σ9 => σ0 = σ9)) := by
  refine zc_start RJ9 hi pfJ9_floorDiv_f86c9 rfl (Nat.le_of_ble_eq_true rfl) ?_
  intro G hG
  have hB := hG.1
  show zc_V 6 K G (zc_D shX K G σ0) [(0, .long p0), (2, .long p2)] 0 []
  refine zr_lload_n hB 0 dJ9_floorDiv_f86c9_0 rfl ?_
  refine zr_lload_n hB 1 dJ9_floorDiv_f86c9_1 rfl ?_
  refine zr_ldivw hB dJ9_floorDiv_f86c9_2 (by omega) (fun l1 el1 => ?_)
  refine zr_lstore hB dJ9_floorDiv_f86c9_3 (by decide) (lv' := [(4, .long l1), (0, .long p0), (2, .long p2)]) rfl ?_
  refine zr_lload_n hB 1 dJ9_floorDiv_f86c9_5 rfl ?_
  refine zr_lload_n hB 2 dJ9_floorDiv_f86c9_6 rfl ?_
  refine zr_lxor hB dJ9_floorDiv_f86c9_7 (fun l2 el2 => ?_)
  refine zr_lconst hB dJ9_floorDiv_f86c9_8 (m := 0) rfl (fun c3 ec3 => ?_)
  refine zr_lcmp_ge hB dJ9_floorDiv_f86c9_9 dJ9_floorDiv_f86c9_10 (tgt := 27) rfl (fun c4 => ?_) (fun c4 => ?_)
  · refine zr_lload hB 0 dJ9_floorDiv_f86c9_27 rfl ?_
    exact zr_lret hG dJ9_floorDiv_f86c9_29 rfl
  refine zr_lload hB 0 dJ9_floorDiv_f86c9_13 rfl ?_
  refine zr_lload_n hB 2 dJ9_floorDiv_f86c9_15 rfl ?_
  refine zr_lmulw hB dJ9_floorDiv_f86c9_16 (fun l5 el5 => ?_)
  refine zr_lload_n hB 1 dJ9_floorDiv_f86c9_17 rfl ?_
  refine zr_lcmp_eq hB dJ9_floorDiv_f86c9_18 dJ9_floorDiv_f86c9_19 (tgt := 27) rfl (fun c6 => ?_) (fun c6 => ?_)
  · refine zr_lload hB 0 dJ9_floorDiv_f86c9_27 rfl ?_
    exact zr_lret hG dJ9_floorDiv_f86c9_29 rfl
  refine zr_lload hB 0 dJ9_floorDiv_f86c9_22 rfl ?_
  refine zr_lconst hB dJ9_floorDiv_f86c9_24 (m := 1) rfl (fun c7 ec7 => ?_)
  refine zr_lsubw hB dJ9_floorDiv_f86c9_25 (fun l8 el8 => ?_)
  exact zr_lret hG dJ9_floorDiv_f86c9_26 rfl

def m_J7_fill_53178_25 : zc_ms := [(25, none)]
set_option maxHeartbeats 1000000 in
set_option maxRecDepth 100000 in
theorem c_J7_fill_53178_25 (K : zc_K) (hi : zc_inj shX K.2.2.2.1) (σ0 : zc_S) (p1 : Int32) (hO0 : zc_O okX σ0)  : zc_M shX K yJ7_fill_53178 cJ7_fill_53178 4 none (zrm 0 0) σ0 [.ref (zk K 25), .int p1] (zc_N (fun σ9 => zc_O okX σ9 ∧ zc_Ag m_J7_fill_53178_25 σ0 σ9)) := by
  refine zc_start RJ7 hi pfJ7_fill_53178 rfl (Nat.le_of_ble_eq_true rfl) ?_
  intro G hG
  have hB := hG.1
  have hA0 : zc_Ag m_J7_fill_53178_25 σ0 σ0 := zc_Ag.rf
  show zc_V 4 K G (zc_D shX K G σ0) [(0, .ref (zk K 25)), (1, .int p1)] 0 []
  refine zr_iconst hB dJ7_fill_53178_0 rfl (fun c1 ec1 => ?_)
  refine zr_istore_n hB dJ7_fill_53178_1 rfl (by decide) (lv' := [(2, .int c1), (0, .ref (zk K 25)), (1, .int p1)]) rfl ?_
  refine zr_aload_n hB 1 dJ7_fill_53178_2 rfl ?_
  refine zr_alen hG 25 dJ7_fill_53178_3 rfl rfl (m := 121) rfl (fun c2 ec2 => ?_)
  refine zr_istore_n hB dJ7_fill_53178_4 rfl (by decide) (lv' := [(3, .int c2), (2, .int c1), (0, .ref (zk K 25)), (1, .int p1)]) rfl ?_
  have L5_5 : ∀ (n5 : Nat) (σ4 : zc_S) (y2_3 : Int32), zc_O okX σ4 → zc_Ag m_J7_fill_53178_25 σ0 σ4 → 0 ≤ y2_3.toInt → y2_3.toInt ≤ 121 → 121 - y2_3.toInt < (n5 : Int) → zc_V 4 K G (zc_D shX K G σ4) [(0, .ref (zk K 25)), (1, .int p1), (2, .int y2_3), (3, .int c2)] 5 [] := by
    intro n5
    induction n5 with
    | zero => intro σ4 y2_3 hO4 hA4 y2_3a y2_3b hn5; exfalso; omega
    | succ n5 ih5 =>
      intro σ4 y2_3 hO4 hA4 y2_3a y2_3b hn5
      refine zr_iload_n hB 2 dJ7_fill_53178_5 rfl ?_
      refine zr_iload_n hB 3 dJ7_fill_53178_6 rfl ?_
      refine zr_icmp_ge hB dJ7_fill_53178_7 (tgt := 20) rfl (fun c6 => ?_) (fun c6 => ?_)
      · exact zr_vret hG dJ7_fill_53178_20 ⟨hO4, hA4⟩
      refine zr_aload_n hB 0 dJ7_fill_53178_10 rfl ?_
      refine zr_iload_n hB 2 dJ7_fill_53178_11 rfl ?_
      refine zr_iload_n hB 1 dJ7_fill_53178_12 rfl ?_
      refine zr_iast hG 25 dJ7_fill_53178_13 rfl (by omega) (by omega)  ?_
      have hOw7 := zc_O.u hO4 25 y2_3.toInt.toNat (v := p1) (zn_lo _) (zn_hi _) (Or.inr (zn_lo _))
      have hAw7 := zc_Ag.u hA4 25 y2_3.toInt.toNat p1 rfl
      refine zr_iinc hB 2 dJ7_fill_53178_14 rfl (by decide) rfl (by omega) (by omega) (fun x8 ex8 lv' hlv => ?_)
      obtain rfl : [(2, .int x8), (0, .ref (zk K 25)), (1, .int p1), (3, .int c2)] = lv' := hlv
      refine zr_goto hB dJ7_fill_53178_17 (tgt := 5) rfl ?_
      exact zc_sub [1, 2, 0, 3] rfl (ih5 (zc_u σ4 25 y2_3.toInt.toNat p1) x8 hOw7 hAw7 (by omega) (by omega) (by omega))
  exact zc_sub [2, 3, 1, 0] rfl (L5_5 123 σ0 c1 hO0 hA0 (by omega) (by omega) (by omega))

def m_J7_fill_53178_26 : zc_ms := [(26, none)]
set_option maxHeartbeats 1000000 in
set_option maxRecDepth 100000 in
theorem c_J7_fill_53178_26 (K : zc_K) (hi : zc_inj shX K.2.2.2.1) (σ0 : zc_S) (p1 : Int32) (hO0 : zc_O okX σ0)  : zc_M shX K yJ7_fill_53178 cJ7_fill_53178 4 none (zrm 0 0) σ0 [.ref (zk K 26), .int p1] (zc_N (fun σ9 => zc_O okX σ9 ∧ zc_Ag m_J7_fill_53178_26 σ0 σ9)) := by
  refine zc_start RJ7 hi pfJ7_fill_53178 rfl (Nat.le_of_ble_eq_true rfl) ?_
  intro G hG
  have hB := hG.1
  have hA0 : zc_Ag m_J7_fill_53178_26 σ0 σ0 := zc_Ag.rf
  show zc_V 4 K G (zc_D shX K G σ0) [(0, .ref (zk K 26)), (1, .int p1)] 0 []
  refine zr_iconst hB dJ7_fill_53178_0 rfl (fun c1 ec1 => ?_)
  refine zr_istore_n hB dJ7_fill_53178_1 rfl (by decide) (lv' := [(2, .int c1), (0, .ref (zk K 26)), (1, .int p1)]) rfl ?_
  refine zr_aload_n hB 1 dJ7_fill_53178_2 rfl ?_
  refine zr_alen hG 26 dJ7_fill_53178_3 rfl rfl (m := 121) rfl (fun c2 ec2 => ?_)
  refine zr_istore_n hB dJ7_fill_53178_4 rfl (by decide) (lv' := [(3, .int c2), (2, .int c1), (0, .ref (zk K 26)), (1, .int p1)]) rfl ?_
  have L5_5 : ∀ (n5 : Nat) (σ4 : zc_S) (y2_3 : Int32), zc_O okX σ4 → zc_Ag m_J7_fill_53178_26 σ0 σ4 → 0 ≤ y2_3.toInt → y2_3.toInt ≤ 121 → 121 - y2_3.toInt < (n5 : Int) → zc_V 4 K G (zc_D shX K G σ4) [(0, .ref (zk K 26)), (1, .int p1), (2, .int y2_3), (3, .int c2)] 5 [] := by
    intro n5
    induction n5 with
    | zero => intro σ4 y2_3 hO4 hA4 y2_3a y2_3b hn5; exfalso; omega
    | succ n5 ih5 =>
      intro σ4 y2_3 hO4 hA4 y2_3a y2_3b hn5
      refine zr_iload_n hB 2 dJ7_fill_53178_5 rfl ?_
      refine zr_iload_n hB 3 dJ7_fill_53178_6 rfl ?_
      refine zr_icmp_ge hB dJ7_fill_53178_7 (tgt := 20) rfl (fun c6 => ?_) (fun c6 => ?_)
      · exact zr_vret hG dJ7_fill_53178_20 ⟨hO4, hA4⟩
      refine zr_aload_n hB 0 dJ7_fill_53178_10 rfl ?_
      refine zr_iload_n hB 2 dJ7_fill_53178_11 rfl ?_
      refine zr_iload_n hB 1 dJ7_fill_53178_12 rfl ?_
      refine zr_iast hG 26 dJ7_fill_53178_13 rfl (by omega) (by omega)  ?_
      have hOw7 := zc_O.u hO4 26 y2_3.toInt.toNat (v := p1) (zn_lo _) (zn_hi _) (Or.inr (zn_lo _))
      have hAw7 := zc_Ag.u hA4 26 y2_3.toInt.toNat p1 rfl
      refine zr_iinc hB 2 dJ7_fill_53178_14 rfl (by decide) rfl (by omega) (by omega) (fun x8 ex8 lv' hlv => ?_)
      obtain rfl : [(2, .int x8), (0, .ref (zk K 26)), (1, .int p1), (3, .int c2)] = lv' := hlv
      refine zr_goto hB dJ7_fill_53178_17 (tgt := 5) rfl ?_
      exact zc_sub [1, 2, 0, 3] rfl (ih5 (zc_u σ4 26 y2_3.toInt.toNat p1) x8 hOw7 hAw7 (by omega) (by omega) (by omega))
  exact zc_sub [2, 3, 1, 0] rfl (L5_5 123 σ0 c1 hO0 hA0 (by omega) (by omega) (by omega))

def m_J7_fill_53178_22 : zc_ms := [(22, none)]
set_option maxHeartbeats 1000000 in
set_option maxRecDepth 100000 in
theorem c_J7_fill_53178_22 (K : zc_K) (hi : zc_inj shX K.2.2.2.1) (σ0 : zc_S) (p1 : Int32) (hO0 : zc_O okX σ0) (h1a : (-1000000) ≤ p1.toInt) (h1b : p1.toInt ≤ 1003) : zc_M shX K yJ7_fill_53178 cJ7_fill_53178 4 none (zrm 0 0) σ0 [.ref (zk K 22), .int p1] (zc_N (fun σ9 => zc_O okX σ9 ∧ zc_Ag m_J7_fill_53178_22 σ0 σ9)) := by
  refine zc_start RJ7 hi pfJ7_fill_53178 rfl (Nat.le_of_ble_eq_true rfl) ?_
  intro G hG
  have hB := hG.1
  have hA0 : zc_Ag m_J7_fill_53178_22 σ0 σ0 := zc_Ag.rf
  show zc_V 4 K G (zc_D shX K G σ0) [(0, .ref (zk K 22)), (1, .int p1)] 0 []
  refine zr_iconst hB dJ7_fill_53178_0 rfl (fun c1 ec1 => ?_)
  refine zr_istore_n hB dJ7_fill_53178_1 rfl (by decide) (lv' := [(2, .int c1), (0, .ref (zk K 22)), (1, .int p1)]) rfl ?_
  refine zr_aload_n hB 1 dJ7_fill_53178_2 rfl ?_
  refine zr_alen hG 22 dJ7_fill_53178_3 rfl rfl (m := 64) rfl (fun c2 ec2 => ?_)
  refine zr_istore_n hB dJ7_fill_53178_4 rfl (by decide) (lv' := [(3, .int c2), (2, .int c1), (0, .ref (zk K 22)), (1, .int p1)]) rfl ?_
  have L5_5 : ∀ (n5 : Nat) (σ4 : zc_S) (y2_3 : Int32), zc_O okX σ4 → zc_Ag m_J7_fill_53178_22 σ0 σ4 → 0 ≤ y2_3.toInt → y2_3.toInt ≤ 64 → 64 - y2_3.toInt < (n5 : Int) → zc_V 4 K G (zc_D shX K G σ4) [(0, .ref (zk K 22)), (1, .int p1), (2, .int y2_3), (3, .int c2)] 5 [] := by
    intro n5
    induction n5 with
    | zero => intro σ4 y2_3 hO4 hA4 y2_3a y2_3b hn5; exfalso; omega
    | succ n5 ih5 =>
      intro σ4 y2_3 hO4 hA4 y2_3a y2_3b hn5
      refine zr_iload_n hB 2 dJ7_fill_53178_5 rfl ?_
      refine zr_iload_n hB 3 dJ7_fill_53178_6 rfl ?_
      refine zr_icmp_ge hB dJ7_fill_53178_7 (tgt := 20) rfl (fun c6 => ?_) (fun c6 => ?_)
      · exact zr_vret hG dJ7_fill_53178_20 ⟨hO4, hA4⟩
      refine zr_aload_n hB 0 dJ7_fill_53178_10 rfl ?_
      refine zr_iload_n hB 2 dJ7_fill_53178_11 rfl ?_
      refine zr_iload_n hB 1 dJ7_fill_53178_12 rfl ?_
      refine zr_iast hG 22 dJ7_fill_53178_13 rfl (by omega) (by omega)  ?_
      have hOw7 := zc_O.u hO4 22 y2_3.toInt.toNat (v := p1) (show (-1000000) ≤ p1.toInt by omega) (show p1.toInt ≤ 1003 by omega) (Or.inr (show (-1000000) ≤ p1.toInt by omega))
      have hAw7 := zc_Ag.u hA4 22 y2_3.toInt.toNat p1 rfl
      refine zr_iinc hB 2 dJ7_fill_53178_14 rfl (by decide) rfl (by omega) (by omega) (fun x8 ex8 lv' hlv => ?_)
      obtain rfl : [(2, .int x8), (0, .ref (zk K 22)), (1, .int p1), (3, .int c2)] = lv' := hlv
      refine zr_goto hB dJ7_fill_53178_17 (tgt := 5) rfl ?_
      exact zc_sub [1, 2, 0, 3] rfl (ih5 (zc_u σ4 22 y2_3.toInt.toNat p1) x8 hOw7 hAw7 (by omega) (by omega) (by omega))
  exact zc_sub [2, 3, 1, 0] rfl (L5_5 66 σ0 c1 hO0 hA0 (by omega) (by omega) (by omega))

def m_J7_fill_d0a16_28 : zc_ms := [(28, none)]
set_option maxHeartbeats 1000000 in
set_option maxRecDepth 100000 in
theorem c_J7_fill_d0a16_28 (K : zc_K) (hi : zc_inj shX K.2.2.2.1) (σ0 : zc_S) (p1 : Int64) (hO0 : zc_O okX σ0)  : zc_M shX K yJ7_fill_d0a16 cJ7_fill_d0a16 5 none (zrm 0 0) σ0 [.ref (zk K 28), .long p1] (zc_N (fun σ9 => zc_O okX σ9 ∧ zc_Ag m_J7_fill_d0a16_28 σ0 σ9)) := by
  refine zc_start RJ7 hi pfJ7_fill_d0a16 rfl (Nat.le_of_ble_eq_true rfl) ?_
  intro G hG
  have hB := hG.1
  have hA0 : zc_Ag m_J7_fill_d0a16_28 σ0 σ0 := zc_Ag.rf
  show zc_V 5 K G (zc_D shX K G σ0) [(0, .ref (zk K 28)), (1, .long p1)] 0 []
  refine zr_iconst hB dJ7_fill_d0a16_0 rfl (fun c1 ec1 => ?_)
  refine zr_istore_n hB dJ7_fill_d0a16_1 rfl (by decide) (lv' := [(3, .int c1), (0, .ref (zk K 28)), (1, .long p1)]) rfl ?_
  refine zr_aload_n hB 1 dJ7_fill_d0a16_2 rfl ?_
  refine zr_alen hG 28 dJ7_fill_d0a16_3 rfl rfl (m := 121) rfl (fun c2 ec2 => ?_)
  refine zr_istore hB dJ7_fill_d0a16_4 (by decide) (lv' := [(4, .int c2), (3, .int c1), (0, .ref (zk K 28)), (1, .long p1)]) rfl ?_
  have L6_5 : ∀ (n6 : Nat) (σ4 : zc_S) (y3_3 : Int32), zc_O okX σ4 → zc_Ag m_J7_fill_d0a16_28 σ0 σ4 → 0 ≤ y3_3.toInt → y3_3.toInt ≤ 121 → 121 - y3_3.toInt < (n6 : Int) → zc_V 5 K G (zc_D shX K G σ4) [(0, .ref (zk K 28)), (1, .long p1), (3, .int y3_3), (4, .int c2)] 6 [] := by
    intro n6
    induction n6 with
    | zero => intro σ4 y3_3 hO4 hA4 y3_3a y3_3b hn6; exfalso; omega
    | succ n6 ih6 =>
      intro σ4 y3_3 hO4 hA4 y3_3a y3_3b hn6
      refine zr_iload_n hB 2 dJ7_fill_d0a16_6 rfl ?_
      refine zr_iload hB 3 dJ7_fill_d0a16_7 rfl ?_
      refine zr_icmp_ge hB dJ7_fill_d0a16_9 (tgt := 22) rfl (fun c6 => ?_) (fun c6 => ?_)
      · exact zr_vret hG dJ7_fill_d0a16_22 ⟨hO4, hA4⟩
      refine zr_aload_n hB 0 dJ7_fill_d0a16_12 rfl ?_
      refine zr_iload_n hB 2 dJ7_fill_d0a16_13 rfl ?_
      refine zr_lload_n hB 1 dJ7_fill_d0a16_14 rfl ?_
      refine zr_last hG 28 dJ7_fill_d0a16_15 rfl (by omega) (by omega)  ?_
      have hOw7 := zc_O.ul hO4 28 y3_3.toInt.toNat p1
      have hAw7 := zc_Ag.ul hA4 28 y3_3.toInt.toNat p1 rfl
      refine zr_iinc hB 2 dJ7_fill_d0a16_16 rfl (by decide) rfl (by omega) (by omega) (fun x8 ex8 lv' hlv => ?_)
      obtain rfl : [(3, .int x8), (0, .ref (zk K 28)), (1, .long p1), (4, .int c2)] = lv' := hlv
      refine zr_goto hB dJ7_fill_d0a16_19 (tgt := 6) rfl ?_
      exact zc_sub [1, 2, 0, 3] rfl (ih6 (zc_ul σ4 28 y3_3.toInt.toNat p1) x8 hOw7 hAw7 (by omega) (by omega) (by omega))
  exact zc_sub [2, 3, 1, 0] rfl (L6_5 123 σ0 c1 hO0 hA0 (by omega) (by omega) (by omega))

def m_J7_fill_d0a16_29 : zc_ms := [(29, none)]
set_option maxHeartbeats 1000000 in
set_option maxRecDepth 100000 in
theorem c_J7_fill_d0a16_29 (K : zc_K) (hi : zc_inj shX K.2.2.2.1) (σ0 : zc_S) (p1 : Int64) (hO0 : zc_O okX σ0)  : zc_M shX K yJ7_fill_d0a16 cJ7_fill_d0a16 5 none (zrm 0 0) σ0 [.ref (zk K 29), .long p1] (zc_N (fun σ9 => zc_O okX σ9 ∧ zc_Ag m_J7_fill_d0a16_29 σ0 σ9)) := by
  refine zc_start RJ7 hi pfJ7_fill_d0a16 rfl (Nat.le_of_ble_eq_true rfl) ?_
  intro G hG
  have hB := hG.1
  have hA0 : zc_Ag m_J7_fill_d0a16_29 σ0 σ0 := zc_Ag.rf
  show zc_V 5 K G (zc_D shX K G σ0) [(0, .ref (zk K 29)), (1, .long p1)] 0 []
  refine zr_iconst hB dJ7_fill_d0a16_0 rfl (fun c1 ec1 => ?_)
  refine zr_istore_n hB dJ7_fill_d0a16_1 rfl (by decide) (lv' := [(3, .int c1), (0, .ref (zk K 29)), (1, .long p1)]) rfl ?_
  refine zr_aload_n hB 1 dJ7_fill_d0a16_2 rfl ?_
  refine zr_alen hG 29 dJ7_fill_d0a16_3 rfl rfl (m := 121) rfl (fun c2 ec2 => ?_)
  refine zr_istore hB dJ7_fill_d0a16_4 (by decide) (lv' := [(4, .int c2), (3, .int c1), (0, .ref (zk K 29)), (1, .long p1)]) rfl ?_
  have L6_5 : ∀ (n6 : Nat) (σ4 : zc_S) (y3_3 : Int32), zc_O okX σ4 → zc_Ag m_J7_fill_d0a16_29 σ0 σ4 → 0 ≤ y3_3.toInt → y3_3.toInt ≤ 121 → 121 - y3_3.toInt < (n6 : Int) → zc_V 5 K G (zc_D shX K G σ4) [(0, .ref (zk K 29)), (1, .long p1), (3, .int y3_3), (4, .int c2)] 6 [] := by
    intro n6
    induction n6 with
    | zero => intro σ4 y3_3 hO4 hA4 y3_3a y3_3b hn6; exfalso; omega
    | succ n6 ih6 =>
      intro σ4 y3_3 hO4 hA4 y3_3a y3_3b hn6
      refine zr_iload_n hB 2 dJ7_fill_d0a16_6 rfl ?_
      refine zr_iload hB 3 dJ7_fill_d0a16_7 rfl ?_
      refine zr_icmp_ge hB dJ7_fill_d0a16_9 (tgt := 22) rfl (fun c6 => ?_) (fun c6 => ?_)
      · exact zr_vret hG dJ7_fill_d0a16_22 ⟨hO4, hA4⟩
      refine zr_aload_n hB 0 dJ7_fill_d0a16_12 rfl ?_
      refine zr_iload_n hB 2 dJ7_fill_d0a16_13 rfl ?_
      refine zr_lload_n hB 1 dJ7_fill_d0a16_14 rfl ?_
      refine zr_last hG 29 dJ7_fill_d0a16_15 rfl (by omega) (by omega)  ?_
      have hOw7 := zc_O.ul hO4 29 y3_3.toInt.toNat p1
      have hAw7 := zc_Ag.ul hA4 29 y3_3.toInt.toNat p1 rfl
      refine zr_iinc hB 2 dJ7_fill_d0a16_16 rfl (by decide) rfl (by omega) (by omega) (fun x8 ex8 lv' hlv => ?_)
      obtain rfl : [(3, .int x8), (0, .ref (zk K 29)), (1, .long p1), (4, .int c2)] = lv' := hlv
      refine zr_goto hB dJ7_fill_d0a16_19 (tgt := 6) rfl ?_
      exact zc_sub [1, 2, 0, 3] rfl (ih6 (zc_ul σ4 29 y3_3.toInt.toNat p1) x8 hOw7 hAw7 (by omega) (by omega) (by omega))
  exact zc_sub [2, 3, 1, 0] rfl (L6_5 123 σ0 c1 hO0 hA0 (by omega) (by omega) (by omega))

set_option maxHeartbeats 1000000 in
set_option maxRecDepth 100000 in
theorem c_J3_checkIndex_u (K : zc_K) (hi : zc_inj shX K.2.2.2.1) (σ0 : zc_S) (p0 : Int32) (p1 : Int32) (hO0 : zc_O okX σ0) (hx0 : 0 ≤ p0.toInt) (hx1 : p0.toInt < p1.toInt) : zc_M shX K yJ3_checkIndex_8e157 cJ3_checkIndex_8e157 3 (some .int) (zrm 0 0) σ0 [.int p0, .int p1, .null] (zc_I (fun r9 σ9 => σ0 = σ9)) := by
  refine zc_start RJ3 hi pfJ3_checkIndex_8e157 rfl (Nat.le_of_ble_eq_true rfl) ?_
  intro G hG
  have hB := hG.1
  show zc_V 3 K G (zc_D shX K G σ0) [(0, .int p0), (1, .int p1), (2, .null)] 0 []
  refine zr_iload_n hB 0 dJ3_checkIndex_8e157_0 rfl ?_
  refine zr_if_lt hB dJ3_checkIndex_8e157_1 (tgt := 9) rfl (fun c1 => ?_) (fun c1 => ?_)
  · exfalso; omega
  refine zr_iload_n hB 0 dJ3_checkIndex_8e157_4 rfl ?_
  refine zr_iload_n hB 1 dJ3_checkIndex_8e157_5 rfl ?_
  refine zr_icmp_lt hB dJ3_checkIndex_8e157_6 (tgt := 16) rfl (fun c2 => ?_) (fun c2 => ?_)
  · refine zr_iload_n hB 0 dJ3_checkIndex_8e157_16 rfl ?_
    exact zr_iret hG dJ3_checkIndex_8e157_17 rfl
  exfalso; omega

set_option maxHeartbeats 1000000 in
set_option maxRecDepth 100000 in
theorem c_J3_checkIndex_q (K : zc_K) (hi : zc_inj shX K.2.2.2.1) (σ0 : zc_S) (p0 : Int32) (p1 : Int32) (p2 : Nat) (hO0 : zc_O okX σ0) (hx0 : 0 ≤ p0.toInt) (hx1 : p0.toInt < p1.toInt) : zc_M shX K yJ3_checkIndex_8e157 cJ3_checkIndex_8e157 3 (some .int) (zrm 0 0) σ0 [.int p0, .int p1, .ref p2] (zc_I (fun r9 σ9 => σ0 = σ9)) := by
  refine zc_start RJ3 hi pfJ3_checkIndex_8e157 rfl (Nat.le_of_ble_eq_true rfl) ?_
  intro G hG
  have hB := hG.1
  show zc_V 3 K G (zc_D shX K G σ0) [(0, .int p0), (1, .int p1), (2, .ref p2)] 0 []
  refine zr_iload_n hB 0 dJ3_checkIndex_8e157_0 rfl ?_
  refine zr_if_lt hB dJ3_checkIndex_8e157_1 (tgt := 9) rfl (fun c1 => ?_) (fun c1 => ?_)
  · exfalso; omega
  refine zr_iload_n hB 0 dJ3_checkIndex_8e157_4 rfl ?_
  refine zr_iload_n hB 1 dJ3_checkIndex_8e157_5 rfl ?_
  refine zr_icmp_lt hB dJ3_checkIndex_8e157_6 (tgt := 16) rfl (fun c2 => ?_) (fun c2 => ?_)
  · refine zr_iload_n hB 0 dJ3_checkIndex_8e157_16 rfl ?_
    exact zr_iret hG dJ3_checkIndex_8e157_17 rfl
  exfalso; omega

set_option maxHeartbeats 1000000 in
set_option maxRecDepth 100000 in
theorem c_J0_checkIndex_df160 (K : zc_K) (hi : zc_inj shX K.2.2.2.1) (σ0 : zc_S) (p0 : Int32) (p1 : Int32) (hO0 : zc_O okX σ0) (hx0 : 0 ≤ p0.toInt) (hx1 : p0.toInt < p1.toInt) : zc_M shX K yJ0_checkIndex_df160 cJ0_checkIndex_df160 2 none (zrm 1 22) σ0 [.int p0, .int p1] (zc_N (fun σ9 => σ0 = σ9)) := by
  refine zc_start RJ0 hi pfJ0_checkIndex_df160 rfl (Nat.le_of_ble_eq_true rfl) ?_
  intro G hG
  have hB := hG.1
  show zc_V 2 K G (zc_D shX K G σ0) [(0, .int p0), (1, .int p1)] 0 []
  refine zr_iload_n hB 0 dJ0_checkIndex_df160_0 rfl ?_
  refine zr_iload_n hB 1 dJ0_checkIndex_df160_1 rfl ?_
  refine zr_getsF hG dJ0_checkIndex_df160_2 ws_J0_1053 ?_ (fun t1 => ?_)
  · refine zr_callsi hG (rest := []) dJ0_checkIndex_df160_5 wm_J0_1059 (c_J3_checkIndex_u K hG.2.2.2.2.2.1 σ0 p0 p1 hO0 (by omega) (by omega)) rfl rfl (Nat.le_of_ble_eq_true rfl) ⟨Nat.le_of_ble_eq_true rfl, Nat.le_of_ble_eq_true rfl, rfl, rfl⟩ (fun r2 σ3 h4 => ?_)
    obtain rfl := h4
    refine zr_pop hB dJ0_checkIndex_df160_8 rfl ?_
    exact zr_vret hG dJ0_checkIndex_df160_9 rfl
  refine zr_callsi hG (rest := []) dJ0_checkIndex_df160_5 wm_J0_1059 (c_J3_checkIndex_q K hG.2.2.2.2.2.1 σ0 p0 p1 t1 hO0 (by omega) (by omega)) rfl rfl (Nat.le_of_ble_eq_true rfl) ⟨Nat.le_of_ble_eq_true rfl, Nat.le_of_ble_eq_true rfl, rfl, rfl⟩ (fun r5 σ6 h7 => ?_)
  obtain rfl := h7
  refine zr_pop hB dJ0_checkIndex_df160_8 rfl ?_
  exact zr_vret hG dJ0_checkIndex_df160_9 rfl

set_option maxHeartbeats 1000000 in
set_option maxRecDepth 100000 in
theorem c_J0_coder_7d493_2 (K : zc_K) (hi : zc_inj shX K.2.2.2.1) (σ0 : zc_S)  (hO0 : zc_O okX σ0)  : zc_M shX K yJ0_coder_7d493 cJ0_coder_7d493 1 (some .byte) (zrm 0 0) σ0 [.ref (zz K 2)] (zc_I (fun r9 σ9 => σ0 = σ9 ∧ 0 ≤ r9.toInt ∧ r9.toInt ≤ 0)) := by
  refine zc_start RJ0 hi pfJ0_coder_7d493 rfl (Nat.le_of_ble_eq_true rfl) ?_
  intro G hG
  have hB := hG.1
  show zc_V 1 K G (zc_D shX K G σ0) [(0, .ref (zz K 2))] 0 []
  refine zr_getsC hG dJ0_coder_7d493_0 ws_J0_38 (fun c1 ec1 => ?_)
  refine zr_if_eq hB dJ0_coder_7d493_3 (tgt := 13) rfl (fun c2 => ?_) (fun c2 => ?_)
  · exfalso; omega
  refine zr_aload_n hB 0 dJ0_coder_7d493_6 rfl ?_
  refine zr_scod hG 0 (by decide) dJ0_coder_7d493_7 ws_J0_15 (fun c3 ec3 => ?_)
  refine zr_goto hB dJ0_coder_7d493_10 (tgt := 14) rfl ?_
  exact zr_nret hG dJ0_coder_7d493_14 (zn_nb0 (by omega)) ⟨rfl, by omega, by omega⟩

set_option maxHeartbeats 1000000 in
set_option maxRecDepth 100000 in
theorem c_J0_isLatin1_aae02_2 (K : zc_K) (hi : zc_inj shX K.2.2.2.1) (σ0 : zc_S)  (hO0 : zc_O okX σ0)  : zc_M shX K yJ0_isLatin1_aae02 cJ0_isLatin1_aae02 1 (some .boolean) (zrm 0 0) σ0 [.ref (zz K 2)] (zc_I (fun r9 σ9 => σ0 = σ9 ∧ 1 ≤ r9.toInt ∧ r9.toInt ≤ 1)) := by
  refine zc_start RJ0 hi pfJ0_isLatin1_aae02 rfl (Nat.le_of_ble_eq_true rfl) ?_
  intro G hG
  have hB := hG.1
  show zc_V 1 K G (zc_D shX K G σ0) [(0, .ref (zz K 2))] 0 []
  refine zr_getsC hG dJ0_isLatin1_aae02_0 ws_J0_38 (fun c1 ec1 => ?_)
  refine zr_if_eq hB dJ0_isLatin1_aae02_3 (tgt := 17) rfl (fun c2 => ?_) (fun c2 => ?_)
  · exfalso; omega
  refine zr_aload_n hB 0 dJ0_isLatin1_aae02_6 rfl ?_
  refine zr_scod hG 0 (by decide) dJ0_isLatin1_aae02_7 ws_J0_15 (fun c3 ec3 => ?_)
  refine zr_if_ne hB dJ0_isLatin1_aae02_10 (tgt := 17) rfl (fun c4 => ?_) (fun c4 => ?_)
  · exfalso; omega
  refine zr_iconst hB dJ0_isLatin1_aae02_13 rfl (fun c5 ec5 => ?_)
  refine zr_goto hB dJ0_isLatin1_aae02_14 (tgt := 18) rfl ?_
  exact zr_zret hG dJ0_isLatin1_aae02_18 (by omega) (by omega) ⟨rfl, by omega, by omega⟩

set_option maxHeartbeats 1000000 in
set_option maxRecDepth 100000 in
theorem c_J0_length_8abf5_2 (K : zc_K) (hi : zc_inj shX K.2.2.2.1) (σ0 : zc_S)  (hO0 : zc_O okX σ0)  : zc_M shX K yJ0_length_8abf5 cJ0_length_8abf5 1 (some .int) (zrm 1 20) σ0 [.ref (zz K 2)] (zc_I (fun r9 σ9 => σ0 = σ9 ∧ 4 ≤ r9.toInt ∧ r9.toInt ≤ 4)) := by
  refine zc_start RJ0 hi pfJ0_length_8abf5 rfl (Nat.le_of_ble_eq_true rfl) ?_
  intro G hG
  have hB := hG.1
  show zc_V 1 K G (zc_D shX K G σ0) [(0, .ref (zz K 2))] 0 []
  refine zr_aload_n hB 0 dJ0_length_8abf5_0 rfl ?_
  refine zr_sval hG 0 (by decide) dJ0_length_8abf5_1 ws_J0_9 ?_
  refine zr_slen hG 0 (by decide) dJ0_length_8abf5_4 (m := 4) rfl (fun c1 ec1 => ?_)
  refine zr_aload_n hB 0 dJ0_length_8abf5_5 rfl ?_
  refine zr_callzi hG (rest := [.int c1]) 0 dJ0_length_8abf5_6 wm_J0_335 (by decide) rfl (c_J0_coder_7d493_2 K hG.2.2.2.2.2.1 σ0  hO0 ) rfl rfl (Nat.le_of_ble_eq_true rfl) ⟨Nat.le_of_ble_eq_true rfl, Nat.le_of_ble_eq_true rfl, rfl, rfl⟩ (fun r2 σ3 h4 => ?_)
  obtain ⟨rfl, r2a, r2b⟩ := h4
  refine zr_ishr hB dJ0_length_8abf5_9 (fun x5 ex5 => ?_)
  have bx5 := zn_shr0 ex5 (by omega)
  exact zr_iret hG dJ0_length_8abf5_10 ⟨rfl, by omega, by omega⟩

set_option maxHeartbeats 1000000 in
set_option maxRecDepth 100000 in
theorem c_J1_charAt_3b067_7 (K : zc_K) (hi : zc_inj shX K.2.2.2.1) (σ0 : zc_S) (p1 : Int32) (hO0 : zc_O okX σ0) (h1a : 0 ≤ p1.toInt) (h1b : p1.toInt ≤ 3) : zc_M shX K yJ1_charAt_3b067 cJ1_charAt_3b067 2 (some .char) (zrm 2 43) σ0 [.ref (zz K 7), .int p1] (zc_I (fun r9 σ9 => σ0 = σ9 ∧ r9 = (zc_byt.getD 0 []).getD p1.toInt.toNat 0)) := by
  refine zc_start RJ1 hi pfJ1_charAt_3b067 rfl (Nat.le_of_ble_eq_true rfl) ?_
  intro G hG
  have hB := hG.1
  show zc_V 2 K G (zc_D shX K G σ0) [(0, .ref (zz K 7)), (1, .int p1)] 0 []
  refine zr_iload_n hB 1 dJ1_charAt_3b067_0 rfl ?_
  refine zr_aload_n hB 0 dJ1_charAt_3b067_1 rfl ?_
  refine zr_slen hG 0 (by decide) dJ1_charAt_3b067_2 (m := 4) rfl (fun c1 ec1 => ?_)
  refine zr_callsn hG (rest := []) dJ1_charAt_3b067_3 wm_J1_9 (c_J0_checkIndex_df160 K hG.2.2.2.2.2.1 σ0 p1 c1 hO0 (by omega) (by omega)) rfl rfl (Nat.le_of_ble_eq_true rfl) ⟨Nat.le_of_ble_eq_true rfl, Nat.le_of_ble_eq_true rfl, rfl, rfl⟩ (fun σ3 h4 => ?_)
  obtain rfl := h4
  refine zr_aload_n hB 0 dJ1_charAt_3b067_6 rfl ?_
  refine zr_iload_n hB 1 dJ1_charAt_3b067_7 rfl ?_
  refine zr_sbald hG 0 (by decide) dJ1_charAt_3b067_8 (by omega) (show p1.toInt < (4 : Nat) by omega) (fun x5 ex5 => ?_)
  refine zr_sipush hB dJ1_charAt_3b067_9 rfl (fun c6 ec6 => ?_)
  refine zr_iand hB dJ1_charAt_3b067_12 (fun x7 ex7 => ?_)
  have bx7 := zn_and ex7 ec6 (k := 8) rfl (by decide)
  refine zr_i2c hB dJ1_charAt_3b067_13 (fun x8 ex8 => ?_)
  exact zr_nret hG dJ1_charAt_3b067_14 (show narrow .char (.int x8) = .int x8 by have hq : x8 = (zc_byt.getD 0 []).getD p1.toInt.toNat 0 := (by rw [ex8, ex7, (zn_eq c6 255).mpr ec6, ex5]; exact (zn_chr 0 (by decide) _ (show p1.toInt.toNat < 4 by omega)).1); rw [hq]; exact (zn_chr 0 (by decide) _ (show p1.toInt.toNat < 4 by omega)).2) ⟨rfl, by rw [ex8, ex7, (zn_eq c6 255).mpr ec6, ex5]; exact (zn_chr 0 (by decide) _ (show p1.toInt.toNat < 4 by omega)).1⟩

set_option maxHeartbeats 1000000 in
set_option maxRecDepth 100000 in
theorem c_J0_charAt_5068e_2 (K : zc_K) (hi : zc_inj shX K.2.2.2.1) (σ0 : zc_S) (p1 : Int32) (hO0 : zc_O okX σ0) (h1a : 0 ≤ p1.toInt) (h1b : p1.toInt ≤ 3) : zc_M shX K yJ0_charAt_5068e cJ0_charAt_5068e 2 (some .char) (zrm 3 64) σ0 [.ref (zz K 2), .int p1] (zc_I (fun r9 σ9 => σ0 = σ9 ∧ r9 = (zc_byt.getD 0 []).getD p1.toInt.toNat 0)) := by
  refine zc_start RJ0 hi pfJ0_charAt_5068e rfl (Nat.le_of_ble_eq_true rfl) ?_
  intro G hG
  have hB := hG.1
  show zc_V 2 K G (zc_D shX K G σ0) [(0, .ref (zz K 2)), (1, .int p1)] 0 []
  refine zr_aload_n hB 0 dJ0_charAt_5068e_0 rfl ?_
  refine zr_callzi hG (rest := []) 0 dJ0_charAt_5068e_1 wm_J0_492 (by decide) rfl (c_J0_isLatin1_aae02_2 K hG.2.2.2.2.2.1 σ0  hO0 ) rfl rfl (Nat.le_of_ble_eq_true rfl) ⟨Nat.le_of_ble_eq_true rfl, Nat.le_of_ble_eq_true rfl, rfl, rfl⟩ (fun r1 σ2 h3 => ?_)
  obtain ⟨rfl, r1a, r1b⟩ := h3
  refine zr_if_eq hB dJ0_charAt_5068e_4 (tgt := 16) rfl (fun c4 => ?_) (fun c4 => ?_)
  · exfalso; omega
  refine zr_aload_n hB 0 dJ0_charAt_5068e_7 rfl ?_
  refine zr_sval hG 0 (by decide) dJ0_charAt_5068e_8 ws_J0_9 ?_
  refine zr_iload_n hB 1 dJ0_charAt_5068e_11 rfl ?_
  refine zr_callsi hG (rest := []) dJ0_charAt_5068e_12 wm_J0_495 (c_J1_charAt_3b067_7 K hG.2.2.2.2.2.1 σ0 p1 hO0 (by omega) (by omega)) rfl rfl (Nat.le_of_ble_eq_true rfl) ⟨Nat.le_of_ble_eq_true rfl, Nat.le_of_ble_eq_true rfl, rfl, rfl⟩ (fun r5 σ6 h7 => ?_)
  obtain ⟨rfl, g8⟩ := h7
  exact zr_nret hG dJ0_charAt_5068e_15 (show narrow .char (.int r5) = .int r5 by have hq : r5 = (zc_byt.getD 0 []).getD p1.toInt.toNat 0 := (by assumption); rw [hq]; exact (zn_chr 0 (by decide) _ (show p1.toInt.toNat < 4 by omega)).2) ⟨rfl, by assumption⟩

set_option maxHeartbeats 1000000 in
set_option maxRecDepth 100000 in
theorem c_J0_coder_7d493_3 (K : zc_K) (hi : zc_inj shX K.2.2.2.1) (σ0 : zc_S)  (hO0 : zc_O okX σ0)  : zc_M shX K yJ0_coder_7d493 cJ0_coder_7d493 1 (some .byte) (zrm 0 0) σ0 [.ref (zz K 3)] (zc_I (fun r9 σ9 => σ0 = σ9 ∧ 0 ≤ r9.toInt ∧ r9.toInt ≤ 0)) := by
  refine zc_start RJ0 hi pfJ0_coder_7d493 rfl (Nat.le_of_ble_eq_true rfl) ?_
  intro G hG
  have hB := hG.1
  show zc_V 1 K G (zc_D shX K G σ0) [(0, .ref (zz K 3))] 0 []
  refine zr_getsC hG dJ0_coder_7d493_0 ws_J0_38 (fun c1 ec1 => ?_)
  refine zr_if_eq hB dJ0_coder_7d493_3 (tgt := 13) rfl (fun c2 => ?_) (fun c2 => ?_)
  · exfalso; omega
  refine zr_aload_n hB 0 dJ0_coder_7d493_6 rfl ?_
  refine zr_scod hG 1 (by decide) dJ0_coder_7d493_7 ws_J0_15 (fun c3 ec3 => ?_)
  refine zr_goto hB dJ0_coder_7d493_10 (tgt := 14) rfl ?_
  exact zr_nret hG dJ0_coder_7d493_14 (zn_nb0 (by omega)) ⟨rfl, by omega, by omega⟩

set_option maxHeartbeats 1000000 in
set_option maxRecDepth 100000 in
theorem c_J0_isLatin1_aae02_3 (K : zc_K) (hi : zc_inj shX K.2.2.2.1) (σ0 : zc_S)  (hO0 : zc_O okX σ0)  : zc_M shX K yJ0_isLatin1_aae02 cJ0_isLatin1_aae02 1 (some .boolean) (zrm 0 0) σ0 [.ref (zz K 3)] (zc_I (fun r9 σ9 => σ0 = σ9 ∧ 1 ≤ r9.toInt ∧ r9.toInt ≤ 1)) := by
  refine zc_start RJ0 hi pfJ0_isLatin1_aae02 rfl (Nat.le_of_ble_eq_true rfl) ?_
  intro G hG
  have hB := hG.1
  show zc_V 1 K G (zc_D shX K G σ0) [(0, .ref (zz K 3))] 0 []
  refine zr_getsC hG dJ0_isLatin1_aae02_0 ws_J0_38 (fun c1 ec1 => ?_)
  refine zr_if_eq hB dJ0_isLatin1_aae02_3 (tgt := 17) rfl (fun c2 => ?_) (fun c2 => ?_)
  · exfalso; omega
  refine zr_aload_n hB 0 dJ0_isLatin1_aae02_6 rfl ?_
  refine zr_scod hG 1 (by decide) dJ0_isLatin1_aae02_7 ws_J0_15 (fun c3 ec3 => ?_)
  refine zr_if_ne hB dJ0_isLatin1_aae02_10 (tgt := 17) rfl (fun c4 => ?_) (fun c4 => ?_)
  · exfalso; omega
  refine zr_iconst hB dJ0_isLatin1_aae02_13 rfl (fun c5 ec5 => ?_)
  refine zr_goto hB dJ0_isLatin1_aae02_14 (tgt := 18) rfl ?_
  exact zr_zret hG dJ0_isLatin1_aae02_18 (by omega) (by omega) ⟨rfl, by omega, by omega⟩

set_option maxHeartbeats 1000000 in
set_option maxRecDepth 100000 in
theorem c_J0_length_8abf5_3 (K : zc_K) (hi : zc_inj shX K.2.2.2.1) (σ0 : zc_S)  (hO0 : zc_O okX σ0)  : zc_M shX K yJ0_length_8abf5 cJ0_length_8abf5 1 (some .int) (zrm 1 20) σ0 [.ref (zz K 3)] (zc_I (fun r9 σ9 => σ0 = σ9 ∧ 4 ≤ r9.toInt ∧ r9.toInt ≤ 4)) := by
  refine zc_start RJ0 hi pfJ0_length_8abf5 rfl (Nat.le_of_ble_eq_true rfl) ?_
  intro G hG
  have hB := hG.1
  show zc_V 1 K G (zc_D shX K G σ0) [(0, .ref (zz K 3))] 0 []
  refine zr_aload_n hB 0 dJ0_length_8abf5_0 rfl ?_
  refine zr_sval hG 1 (by decide) dJ0_length_8abf5_1 ws_J0_9 ?_
  refine zr_slen hG 1 (by decide) dJ0_length_8abf5_4 (m := 4) rfl (fun c1 ec1 => ?_)
  refine zr_aload_n hB 0 dJ0_length_8abf5_5 rfl ?_
  refine zr_callzi hG (rest := [.int c1]) 1 dJ0_length_8abf5_6 wm_J0_335 (by decide) rfl (c_J0_coder_7d493_3 K hG.2.2.2.2.2.1 σ0  hO0 ) rfl rfl (Nat.le_of_ble_eq_true rfl) ⟨Nat.le_of_ble_eq_true rfl, Nat.le_of_ble_eq_true rfl, rfl, rfl⟩ (fun r2 σ3 h4 => ?_)
  obtain ⟨rfl, r2a, r2b⟩ := h4
  refine zr_ishr hB dJ0_length_8abf5_9 (fun x5 ex5 => ?_)
  have bx5 := zn_shr0 ex5 (by omega)
  exact zr_iret hG dJ0_length_8abf5_10 ⟨rfl, by omega, by omega⟩

set_option maxHeartbeats 1000000 in
set_option maxRecDepth 100000 in
theorem c_J1_charAt_3b067_8 (K : zc_K) (hi : zc_inj shX K.2.2.2.1) (σ0 : zc_S) (p1 : Int32) (hO0 : zc_O okX σ0) (h1a : 0 ≤ p1.toInt) (h1b : p1.toInt ≤ 3) : zc_M shX K yJ1_charAt_3b067 cJ1_charAt_3b067 2 (some .char) (zrm 2 43) σ0 [.ref (zz K 8), .int p1] (zc_I (fun r9 σ9 => σ0 = σ9 ∧ r9 = (zc_byt.getD 1 []).getD p1.toInt.toNat 0)) := by
  refine zc_start RJ1 hi pfJ1_charAt_3b067 rfl (Nat.le_of_ble_eq_true rfl) ?_
  intro G hG
  have hB := hG.1
  show zc_V 2 K G (zc_D shX K G σ0) [(0, .ref (zz K 8)), (1, .int p1)] 0 []
  refine zr_iload_n hB 1 dJ1_charAt_3b067_0 rfl ?_
  refine zr_aload_n hB 0 dJ1_charAt_3b067_1 rfl ?_
  refine zr_slen hG 1 (by decide) dJ1_charAt_3b067_2 (m := 4) rfl (fun c1 ec1 => ?_)
  refine zr_callsn hG (rest := []) dJ1_charAt_3b067_3 wm_J1_9 (c_J0_checkIndex_df160 K hG.2.2.2.2.2.1 σ0 p1 c1 hO0 (by omega) (by omega)) rfl rfl (Nat.le_of_ble_eq_true rfl) ⟨Nat.le_of_ble_eq_true rfl, Nat.le_of_ble_eq_true rfl, rfl, rfl⟩ (fun σ3 h4 => ?_)
  obtain rfl := h4
  refine zr_aload_n hB 0 dJ1_charAt_3b067_6 rfl ?_
  refine zr_iload_n hB 1 dJ1_charAt_3b067_7 rfl ?_
  refine zr_sbald hG 1 (by decide) dJ1_charAt_3b067_8 (by omega) (show p1.toInt < (4 : Nat) by omega) (fun x5 ex5 => ?_)
  refine zr_sipush hB dJ1_charAt_3b067_9 rfl (fun c6 ec6 => ?_)
  refine zr_iand hB dJ1_charAt_3b067_12 (fun x7 ex7 => ?_)
  have bx7 := zn_and ex7 ec6 (k := 8) rfl (by decide)
  refine zr_i2c hB dJ1_charAt_3b067_13 (fun x8 ex8 => ?_)
  exact zr_nret hG dJ1_charAt_3b067_14 (show narrow .char (.int x8) = .int x8 by have hq : x8 = (zc_byt.getD 1 []).getD p1.toInt.toNat 0 := (by rw [ex8, ex7, (zn_eq c6 255).mpr ec6, ex5]; exact (zn_chr 1 (by decide) _ (show p1.toInt.toNat < 4 by omega)).1); rw [hq]; exact (zn_chr 1 (by decide) _ (show p1.toInt.toNat < 4 by omega)).2) ⟨rfl, by rw [ex8, ex7, (zn_eq c6 255).mpr ec6, ex5]; exact (zn_chr 1 (by decide) _ (show p1.toInt.toNat < 4 by omega)).1⟩

set_option maxHeartbeats 1000000 in
set_option maxRecDepth 100000 in
theorem c_J0_charAt_5068e_3 (K : zc_K) (hi : zc_inj shX K.2.2.2.1) (σ0 : zc_S) (p1 : Int32) (hO0 : zc_O okX σ0) (h1a : 0 ≤ p1.toInt) (h1b : p1.toInt ≤ 3) : zc_M shX K yJ0_charAt_5068e cJ0_charAt_5068e 2 (some .char) (zrm 3 64) σ0 [.ref (zz K 3), .int p1] (zc_I (fun r9 σ9 => σ0 = σ9 ∧ r9 = (zc_byt.getD 1 []).getD p1.toInt.toNat 0)) := by
  refine zc_start RJ0 hi pfJ0_charAt_5068e rfl (Nat.le_of_ble_eq_true rfl) ?_
  intro G hG
  have hB := hG.1
  show zc_V 2 K G (zc_D shX K G σ0) [(0, .ref (zz K 3)), (1, .int p1)] 0 []
  refine zr_aload_n hB 0 dJ0_charAt_5068e_0 rfl ?_
  refine zr_callzi hG (rest := []) 1 dJ0_charAt_5068e_1 wm_J0_492 (by decide) rfl (c_J0_isLatin1_aae02_3 K hG.2.2.2.2.2.1 σ0  hO0 ) rfl rfl (Nat.le_of_ble_eq_true rfl) ⟨Nat.le_of_ble_eq_true rfl, Nat.le_of_ble_eq_true rfl, rfl, rfl⟩ (fun r1 σ2 h3 => ?_)
  obtain ⟨rfl, r1a, r1b⟩ := h3
  refine zr_if_eq hB dJ0_charAt_5068e_4 (tgt := 16) rfl (fun c4 => ?_) (fun c4 => ?_)
  · exfalso; omega
  refine zr_aload_n hB 0 dJ0_charAt_5068e_7 rfl ?_
  refine zr_sval hG 1 (by decide) dJ0_charAt_5068e_8 ws_J0_9 ?_
  refine zr_iload_n hB 1 dJ0_charAt_5068e_11 rfl ?_
  refine zr_callsi hG (rest := []) dJ0_charAt_5068e_12 wm_J0_495 (c_J1_charAt_3b067_8 K hG.2.2.2.2.2.1 σ0 p1 hO0 (by omega) (by omega)) rfl rfl (Nat.le_of_ble_eq_true rfl) ⟨Nat.le_of_ble_eq_true rfl, Nat.le_of_ble_eq_true rfl, rfl, rfl⟩ (fun r5 σ6 h7 => ?_)
  obtain ⟨rfl, g8⟩ := h7
  exact zr_nret hG dJ0_charAt_5068e_15 (show narrow .char (.int r5) = .int r5 by have hq : r5 = (zc_byt.getD 1 []).getD p1.toInt.toNat 0 := (by assumption); rw [hq]; exact (zn_chr 1 (by decide) _ (show p1.toInt.toNat < 4 by omega)).2) ⟨rfl, by assumption⟩

set_option maxHeartbeats 1000000 in
set_option maxRecDepth 100000 in
theorem c_J0_coder_7d493_4 (K : zc_K) (hi : zc_inj shX K.2.2.2.1) (σ0 : zc_S)  (hO0 : zc_O okX σ0)  : zc_M shX K yJ0_coder_7d493 cJ0_coder_7d493 1 (some .byte) (zrm 0 0) σ0 [.ref (zz K 4)] (zc_I (fun r9 σ9 => σ0 = σ9 ∧ 0 ≤ r9.toInt ∧ r9.toInt ≤ 0)) := by
  refine zc_start RJ0 hi pfJ0_coder_7d493 rfl (Nat.le_of_ble_eq_true rfl) ?_
  intro G hG
  have hB := hG.1
  show zc_V 1 K G (zc_D shX K G σ0) [(0, .ref (zz K 4))] 0 []
  refine zr_getsC hG dJ0_coder_7d493_0 ws_J0_38 (fun c1 ec1 => ?_)
  refine zr_if_eq hB dJ0_coder_7d493_3 (tgt := 13) rfl (fun c2 => ?_) (fun c2 => ?_)
  · exfalso; omega
  refine zr_aload_n hB 0 dJ0_coder_7d493_6 rfl ?_
  refine zr_scod hG 2 (by decide) dJ0_coder_7d493_7 ws_J0_15 (fun c3 ec3 => ?_)
  refine zr_goto hB dJ0_coder_7d493_10 (tgt := 14) rfl ?_
  exact zr_nret hG dJ0_coder_7d493_14 (zn_nb0 (by omega)) ⟨rfl, by omega, by omega⟩

set_option maxHeartbeats 1000000 in
set_option maxRecDepth 100000 in
theorem c_J0_isLatin1_aae02_4 (K : zc_K) (hi : zc_inj shX K.2.2.2.1) (σ0 : zc_S)  (hO0 : zc_O okX σ0)  : zc_M shX K yJ0_isLatin1_aae02 cJ0_isLatin1_aae02 1 (some .boolean) (zrm 0 0) σ0 [.ref (zz K 4)] (zc_I (fun r9 σ9 => σ0 = σ9 ∧ 1 ≤ r9.toInt ∧ r9.toInt ≤ 1)) := by
  refine zc_start RJ0 hi pfJ0_isLatin1_aae02 rfl (Nat.le_of_ble_eq_true rfl) ?_
  intro G hG
  have hB := hG.1
  show zc_V 1 K G (zc_D shX K G σ0) [(0, .ref (zz K 4))] 0 []
  refine zr_getsC hG dJ0_isLatin1_aae02_0 ws_J0_38 (fun c1 ec1 => ?_)
  refine zr_if_eq hB dJ0_isLatin1_aae02_3 (tgt := 17) rfl (fun c2 => ?_) (fun c2 => ?_)
  · exfalso; omega
  refine zr_aload_n hB 0 dJ0_isLatin1_aae02_6 rfl ?_
  refine zr_scod hG 2 (by decide) dJ0_isLatin1_aae02_7 ws_J0_15 (fun c3 ec3 => ?_)
  refine zr_if_ne hB dJ0_isLatin1_aae02_10 (tgt := 17) rfl (fun c4 => ?_) (fun c4 => ?_)
  · exfalso; omega
  refine zr_iconst hB dJ0_isLatin1_aae02_13 rfl (fun c5 ec5 => ?_)
  refine zr_goto hB dJ0_isLatin1_aae02_14 (tgt := 18) rfl ?_
  exact zr_zret hG dJ0_isLatin1_aae02_18 (by omega) (by omega) ⟨rfl, by omega, by omega⟩

set_option maxHeartbeats 1000000 in
set_option maxRecDepth 100000 in
theorem c_J0_length_8abf5_4 (K : zc_K) (hi : zc_inj shX K.2.2.2.1) (σ0 : zc_S)  (hO0 : zc_O okX σ0)  : zc_M shX K yJ0_length_8abf5 cJ0_length_8abf5 1 (some .int) (zrm 1 20) σ0 [.ref (zz K 4)] (zc_I (fun r9 σ9 => σ0 = σ9 ∧ 4 ≤ r9.toInt ∧ r9.toInt ≤ 4)) := by
  refine zc_start RJ0 hi pfJ0_length_8abf5 rfl (Nat.le_of_ble_eq_true rfl) ?_
  intro G hG
  have hB := hG.1
  show zc_V 1 K G (zc_D shX K G σ0) [(0, .ref (zz K 4))] 0 []
  refine zr_aload_n hB 0 dJ0_length_8abf5_0 rfl ?_
  refine zr_sval hG 2 (by decide) dJ0_length_8abf5_1 ws_J0_9 ?_
  refine zr_slen hG 2 (by decide) dJ0_length_8abf5_4 (m := 4) rfl (fun c1 ec1 => ?_)
  refine zr_aload_n hB 0 dJ0_length_8abf5_5 rfl ?_
  refine zr_callzi hG (rest := [.int c1]) 2 dJ0_length_8abf5_6 wm_J0_335 (by decide) rfl (c_J0_coder_7d493_4 K hG.2.2.2.2.2.1 σ0  hO0 ) rfl rfl (Nat.le_of_ble_eq_true rfl) ⟨Nat.le_of_ble_eq_true rfl, Nat.le_of_ble_eq_true rfl, rfl, rfl⟩ (fun r2 σ3 h4 => ?_)
  obtain ⟨rfl, r2a, r2b⟩ := h4
  refine zr_ishr hB dJ0_length_8abf5_9 (fun x5 ex5 => ?_)
  have bx5 := zn_shr0 ex5 (by omega)
  exact zr_iret hG dJ0_length_8abf5_10 ⟨rfl, by omega, by omega⟩

set_option maxHeartbeats 1000000 in
set_option maxRecDepth 100000 in
theorem c_J1_charAt_3b067_9 (K : zc_K) (hi : zc_inj shX K.2.2.2.1) (σ0 : zc_S) (p1 : Int32) (hO0 : zc_O okX σ0) (h1a : 0 ≤ p1.toInt) (h1b : p1.toInt ≤ 3) : zc_M shX K yJ1_charAt_3b067 cJ1_charAt_3b067 2 (some .char) (zrm 2 43) σ0 [.ref (zz K 9), .int p1] (zc_I (fun r9 σ9 => σ0 = σ9 ∧ r9 = (zc_byt.getD 2 []).getD p1.toInt.toNat 0)) := by
  refine zc_start RJ1 hi pfJ1_charAt_3b067 rfl (Nat.le_of_ble_eq_true rfl) ?_
  intro G hG
  have hB := hG.1
  show zc_V 2 K G (zc_D shX K G σ0) [(0, .ref (zz K 9)), (1, .int p1)] 0 []
  refine zr_iload_n hB 1 dJ1_charAt_3b067_0 rfl ?_
  refine zr_aload_n hB 0 dJ1_charAt_3b067_1 rfl ?_
  refine zr_slen hG 2 (by decide) dJ1_charAt_3b067_2 (m := 4) rfl (fun c1 ec1 => ?_)
  refine zr_callsn hG (rest := []) dJ1_charAt_3b067_3 wm_J1_9 (c_J0_checkIndex_df160 K hG.2.2.2.2.2.1 σ0 p1 c1 hO0 (by omega) (by omega)) rfl rfl (Nat.le_of_ble_eq_true rfl) ⟨Nat.le_of_ble_eq_true rfl, Nat.le_of_ble_eq_true rfl, rfl, rfl⟩ (fun σ3 h4 => ?_)
  obtain rfl := h4
  refine zr_aload_n hB 0 dJ1_charAt_3b067_6 rfl ?_
  refine zr_iload_n hB 1 dJ1_charAt_3b067_7 rfl ?_
  refine zr_sbald hG 2 (by decide) dJ1_charAt_3b067_8 (by omega) (show p1.toInt < (4 : Nat) by omega) (fun x5 ex5 => ?_)
  refine zr_sipush hB dJ1_charAt_3b067_9 rfl (fun c6 ec6 => ?_)
  refine zr_iand hB dJ1_charAt_3b067_12 (fun x7 ex7 => ?_)
  have bx7 := zn_and ex7 ec6 (k := 8) rfl (by decide)
  refine zr_i2c hB dJ1_charAt_3b067_13 (fun x8 ex8 => ?_)
  exact zr_nret hG dJ1_charAt_3b067_14 (show narrow .char (.int x8) = .int x8 by have hq : x8 = (zc_byt.getD 2 []).getD p1.toInt.toNat 0 := (by rw [ex8, ex7, (zn_eq c6 255).mpr ec6, ex5]; exact (zn_chr 2 (by decide) _ (show p1.toInt.toNat < 4 by omega)).1); rw [hq]; exact (zn_chr 2 (by decide) _ (show p1.toInt.toNat < 4 by omega)).2) ⟨rfl, by rw [ex8, ex7, (zn_eq c6 255).mpr ec6, ex5]; exact (zn_chr 2 (by decide) _ (show p1.toInt.toNat < 4 by omega)).1⟩

set_option maxHeartbeats 1000000 in
set_option maxRecDepth 100000 in
theorem c_J0_charAt_5068e_4 (K : zc_K) (hi : zc_inj shX K.2.2.2.1) (σ0 : zc_S) (p1 : Int32) (hO0 : zc_O okX σ0) (h1a : 0 ≤ p1.toInt) (h1b : p1.toInt ≤ 3) : zc_M shX K yJ0_charAt_5068e cJ0_charAt_5068e 2 (some .char) (zrm 3 64) σ0 [.ref (zz K 4), .int p1] (zc_I (fun r9 σ9 => σ0 = σ9 ∧ r9 = (zc_byt.getD 2 []).getD p1.toInt.toNat 0)) := by
  refine zc_start RJ0 hi pfJ0_charAt_5068e rfl (Nat.le_of_ble_eq_true rfl) ?_
  intro G hG
  have hB := hG.1
  show zc_V 2 K G (zc_D shX K G σ0) [(0, .ref (zz K 4)), (1, .int p1)] 0 []
  refine zr_aload_n hB 0 dJ0_charAt_5068e_0 rfl ?_
  refine zr_callzi hG (rest := []) 2 dJ0_charAt_5068e_1 wm_J0_492 (by decide) rfl (c_J0_isLatin1_aae02_4 K hG.2.2.2.2.2.1 σ0  hO0 ) rfl rfl (Nat.le_of_ble_eq_true rfl) ⟨Nat.le_of_ble_eq_true rfl, Nat.le_of_ble_eq_true rfl, rfl, rfl⟩ (fun r1 σ2 h3 => ?_)
  obtain ⟨rfl, r1a, r1b⟩ := h3
  refine zr_if_eq hB dJ0_charAt_5068e_4 (tgt := 16) rfl (fun c4 => ?_) (fun c4 => ?_)
  · exfalso; omega
  refine zr_aload_n hB 0 dJ0_charAt_5068e_7 rfl ?_
  refine zr_sval hG 2 (by decide) dJ0_charAt_5068e_8 ws_J0_9 ?_
  refine zr_iload_n hB 1 dJ0_charAt_5068e_11 rfl ?_
  refine zr_callsi hG (rest := []) dJ0_charAt_5068e_12 wm_J0_495 (c_J1_charAt_3b067_9 K hG.2.2.2.2.2.1 σ0 p1 hO0 (by omega) (by omega)) rfl rfl (Nat.le_of_ble_eq_true rfl) ⟨Nat.le_of_ble_eq_true rfl, Nat.le_of_ble_eq_true rfl, rfl, rfl⟩ (fun r5 σ6 h7 => ?_)
  obtain ⟨rfl, g8⟩ := h7
  exact zr_nret hG dJ0_charAt_5068e_15 (show narrow .char (.int r5) = .int r5 by have hq : r5 = (zc_byt.getD 2 []).getD p1.toInt.toNat 0 := (by assumption); rw [hq]; exact (zn_chr 2 (by decide) _ (show p1.toInt.toNat < 4 by omega)).2) ⟨rfl, by assumption⟩

set_option maxHeartbeats 1000000 in
set_option maxRecDepth 100000 in
theorem c_J0_coder_7d493_5 (K : zc_K) (hi : zc_inj shX K.2.2.2.1) (σ0 : zc_S)  (hO0 : zc_O okX σ0)  : zc_M shX K yJ0_coder_7d493 cJ0_coder_7d493 1 (some .byte) (zrm 0 0) σ0 [.ref (zz K 5)] (zc_I (fun r9 σ9 => σ0 = σ9 ∧ 0 ≤ r9.toInt ∧ r9.toInt ≤ 0)) := by
  refine zc_start RJ0 hi pfJ0_coder_7d493 rfl (Nat.le_of_ble_eq_true rfl) ?_
  intro G hG
  have hB := hG.1
  show zc_V 1 K G (zc_D shX K G σ0) [(0, .ref (zz K 5))] 0 []
  refine zr_getsC hG dJ0_coder_7d493_0 ws_J0_38 (fun c1 ec1 => ?_)
  refine zr_if_eq hB dJ0_coder_7d493_3 (tgt := 13) rfl (fun c2 => ?_) (fun c2 => ?_)
  · exfalso; omega
  refine zr_aload_n hB 0 dJ0_coder_7d493_6 rfl ?_
  refine zr_scod hG 3 (by decide) dJ0_coder_7d493_7 ws_J0_15 (fun c3 ec3 => ?_)
  refine zr_goto hB dJ0_coder_7d493_10 (tgt := 14) rfl ?_
  exact zr_nret hG dJ0_coder_7d493_14 (zn_nb0 (by omega)) ⟨rfl, by omega, by omega⟩

set_option maxHeartbeats 1000000 in
set_option maxRecDepth 100000 in
theorem c_J0_isLatin1_aae02_5 (K : zc_K) (hi : zc_inj shX K.2.2.2.1) (σ0 : zc_S)  (hO0 : zc_O okX σ0)  : zc_M shX K yJ0_isLatin1_aae02 cJ0_isLatin1_aae02 1 (some .boolean) (zrm 0 0) σ0 [.ref (zz K 5)] (zc_I (fun r9 σ9 => σ0 = σ9 ∧ 1 ≤ r9.toInt ∧ r9.toInt ≤ 1)) := by
  refine zc_start RJ0 hi pfJ0_isLatin1_aae02 rfl (Nat.le_of_ble_eq_true rfl) ?_
  intro G hG
  have hB := hG.1
  show zc_V 1 K G (zc_D shX K G σ0) [(0, .ref (zz K 5))] 0 []
  refine zr_getsC hG dJ0_isLatin1_aae02_0 ws_J0_38 (fun c1 ec1 => ?_)
  refine zr_if_eq hB dJ0_isLatin1_aae02_3 (tgt := 17) rfl (fun c2 => ?_) (fun c2 => ?_)
  · exfalso; omega
  refine zr_aload_n hB 0 dJ0_isLatin1_aae02_6 rfl ?_
  refine zr_scod hG 3 (by decide) dJ0_isLatin1_aae02_7 ws_J0_15 (fun c3 ec3 => ?_)
  refine zr_if_ne hB dJ0_isLatin1_aae02_10 (tgt := 17) rfl (fun c4 => ?_) (fun c4 => ?_)
  · exfalso; omega
  refine zr_iconst hB dJ0_isLatin1_aae02_13 rfl (fun c5 ec5 => ?_)
  refine zr_goto hB dJ0_isLatin1_aae02_14 (tgt := 18) rfl ?_
  exact zr_zret hG dJ0_isLatin1_aae02_18 (by omega) (by omega) ⟨rfl, by omega, by omega⟩

set_option maxHeartbeats 1000000 in
set_option maxRecDepth 100000 in
theorem c_J0_length_8abf5_5 (K : zc_K) (hi : zc_inj shX K.2.2.2.1) (σ0 : zc_S)  (hO0 : zc_O okX σ0)  : zc_M shX K yJ0_length_8abf5 cJ0_length_8abf5 1 (some .int) (zrm 1 20) σ0 [.ref (zz K 5)] (zc_I (fun r9 σ9 => σ0 = σ9 ∧ 4 ≤ r9.toInt ∧ r9.toInt ≤ 4)) := by
  refine zc_start RJ0 hi pfJ0_length_8abf5 rfl (Nat.le_of_ble_eq_true rfl) ?_
  intro G hG
  have hB := hG.1
  show zc_V 1 K G (zc_D shX K G σ0) [(0, .ref (zz K 5))] 0 []
  refine zr_aload_n hB 0 dJ0_length_8abf5_0 rfl ?_
  refine zr_sval hG 3 (by decide) dJ0_length_8abf5_1 ws_J0_9 ?_
  refine zr_slen hG 3 (by decide) dJ0_length_8abf5_4 (m := 4) rfl (fun c1 ec1 => ?_)
  refine zr_aload_n hB 0 dJ0_length_8abf5_5 rfl ?_
  refine zr_callzi hG (rest := [.int c1]) 3 dJ0_length_8abf5_6 wm_J0_335 (by decide) rfl (c_J0_coder_7d493_5 K hG.2.2.2.2.2.1 σ0  hO0 ) rfl rfl (Nat.le_of_ble_eq_true rfl) ⟨Nat.le_of_ble_eq_true rfl, Nat.le_of_ble_eq_true rfl, rfl, rfl⟩ (fun r2 σ3 h4 => ?_)
  obtain ⟨rfl, r2a, r2b⟩ := h4
  refine zr_ishr hB dJ0_length_8abf5_9 (fun x5 ex5 => ?_)
  have bx5 := zn_shr0 ex5 (by omega)
  exact zr_iret hG dJ0_length_8abf5_10 ⟨rfl, by omega, by omega⟩

set_option maxHeartbeats 1000000 in
set_option maxRecDepth 100000 in
theorem c_J1_charAt_3b067_10 (K : zc_K) (hi : zc_inj shX K.2.2.2.1) (σ0 : zc_S) (p1 : Int32) (hO0 : zc_O okX σ0) (h1a : 0 ≤ p1.toInt) (h1b : p1.toInt ≤ 3) : zc_M shX K yJ1_charAt_3b067 cJ1_charAt_3b067 2 (some .char) (zrm 2 43) σ0 [.ref (zz K 10), .int p1] (zc_I (fun r9 σ9 => σ0 = σ9 ∧ r9 = (zc_byt.getD 3 []).getD p1.toInt.toNat 0)) := by
  refine zc_start RJ1 hi pfJ1_charAt_3b067 rfl (Nat.le_of_ble_eq_true rfl) ?_
  intro G hG
  have hB := hG.1
  show zc_V 2 K G (zc_D shX K G σ0) [(0, .ref (zz K 10)), (1, .int p1)] 0 []
  refine zr_iload_n hB 1 dJ1_charAt_3b067_0 rfl ?_
  refine zr_aload_n hB 0 dJ1_charAt_3b067_1 rfl ?_
  refine zr_slen hG 3 (by decide) dJ1_charAt_3b067_2 (m := 4) rfl (fun c1 ec1 => ?_)
  refine zr_callsn hG (rest := []) dJ1_charAt_3b067_3 wm_J1_9 (c_J0_checkIndex_df160 K hG.2.2.2.2.2.1 σ0 p1 c1 hO0 (by omega) (by omega)) rfl rfl (Nat.le_of_ble_eq_true rfl) ⟨Nat.le_of_ble_eq_true rfl, Nat.le_of_ble_eq_true rfl, rfl, rfl⟩ (fun σ3 h4 => ?_)
  obtain rfl := h4
  refine zr_aload_n hB 0 dJ1_charAt_3b067_6 rfl ?_
  refine zr_iload_n hB 1 dJ1_charAt_3b067_7 rfl ?_
  refine zr_sbald hG 3 (by decide) dJ1_charAt_3b067_8 (by omega) (show p1.toInt < (4 : Nat) by omega) (fun x5 ex5 => ?_)
  refine zr_sipush hB dJ1_charAt_3b067_9 rfl (fun c6 ec6 => ?_)
  refine zr_iand hB dJ1_charAt_3b067_12 (fun x7 ex7 => ?_)
  have bx7 := zn_and ex7 ec6 (k := 8) rfl (by decide)
  refine zr_i2c hB dJ1_charAt_3b067_13 (fun x8 ex8 => ?_)
  exact zr_nret hG dJ1_charAt_3b067_14 (show narrow .char (.int x8) = .int x8 by have hq : x8 = (zc_byt.getD 3 []).getD p1.toInt.toNat 0 := (by rw [ex8, ex7, (zn_eq c6 255).mpr ec6, ex5]; exact (zn_chr 3 (by decide) _ (show p1.toInt.toNat < 4 by omega)).1); rw [hq]; exact (zn_chr 3 (by decide) _ (show p1.toInt.toNat < 4 by omega)).2) ⟨rfl, by rw [ex8, ex7, (zn_eq c6 255).mpr ec6, ex5]; exact (zn_chr 3 (by decide) _ (show p1.toInt.toNat < 4 by omega)).1⟩

set_option maxHeartbeats 1000000 in
set_option maxRecDepth 100000 in
theorem c_J0_charAt_5068e_5 (K : zc_K) (hi : zc_inj shX K.2.2.2.1) (σ0 : zc_S) (p1 : Int32) (hO0 : zc_O okX σ0) (h1a : 0 ≤ p1.toInt) (h1b : p1.toInt ≤ 3) : zc_M shX K yJ0_charAt_5068e cJ0_charAt_5068e 2 (some .char) (zrm 3 64) σ0 [.ref (zz K 5), .int p1] (zc_I (fun r9 σ9 => σ0 = σ9 ∧ r9 = (zc_byt.getD 3 []).getD p1.toInt.toNat 0)) := by
  refine zc_start RJ0 hi pfJ0_charAt_5068e rfl (Nat.le_of_ble_eq_true rfl) ?_
  intro G hG
  have hB := hG.1
  show zc_V 2 K G (zc_D shX K G σ0) [(0, .ref (zz K 5)), (1, .int p1)] 0 []
  refine zr_aload_n hB 0 dJ0_charAt_5068e_0 rfl ?_
  refine zr_callzi hG (rest := []) 3 dJ0_charAt_5068e_1 wm_J0_492 (by decide) rfl (c_J0_isLatin1_aae02_5 K hG.2.2.2.2.2.1 σ0  hO0 ) rfl rfl (Nat.le_of_ble_eq_true rfl) ⟨Nat.le_of_ble_eq_true rfl, Nat.le_of_ble_eq_true rfl, rfl, rfl⟩ (fun r1 σ2 h3 => ?_)
  obtain ⟨rfl, r1a, r1b⟩ := h3
  refine zr_if_eq hB dJ0_charAt_5068e_4 (tgt := 16) rfl (fun c4 => ?_) (fun c4 => ?_)
  · exfalso; omega
  refine zr_aload_n hB 0 dJ0_charAt_5068e_7 rfl ?_
  refine zr_sval hG 3 (by decide) dJ0_charAt_5068e_8 ws_J0_9 ?_
  refine zr_iload_n hB 1 dJ0_charAt_5068e_11 rfl ?_
  refine zr_callsi hG (rest := []) dJ0_charAt_5068e_12 wm_J0_495 (c_J1_charAt_3b067_10 K hG.2.2.2.2.2.1 σ0 p1 hO0 (by omega) (by omega)) rfl rfl (Nat.le_of_ble_eq_true rfl) ⟨Nat.le_of_ble_eq_true rfl, Nat.le_of_ble_eq_true rfl, rfl, rfl⟩ (fun r5 σ6 h7 => ?_)
  obtain ⟨rfl, g8⟩ := h7
  exact zr_nret hG dJ0_charAt_5068e_15 (show narrow .char (.int r5) = .int r5 by have hq : r5 = (zc_byt.getD 3 []).getD p1.toInt.toNat 0 := (by assumption); rw [hq]; exact (zn_chr 3 (by decide) _ (show p1.toInt.toNat < 4 by omega)).2) ⟨rfl, by assumption⟩

set_option maxHeartbeats 1000000 in
set_option maxRecDepth 100000 in
theorem c_J0_coder_7d493_6 (K : zc_K) (hi : zc_inj shX K.2.2.2.1) (σ0 : zc_S)  (hO0 : zc_O okX σ0)  : zc_M shX K yJ0_coder_7d493 cJ0_coder_7d493 1 (some .byte) (zrm 0 0) σ0 [.ref (zz K 6)] (zc_I (fun r9 σ9 => σ0 = σ9 ∧ 0 ≤ r9.toInt ∧ r9.toInt ≤ 0)) := by
  refine zc_start RJ0 hi pfJ0_coder_7d493 rfl (Nat.le_of_ble_eq_true rfl) ?_
  intro G hG
  have hB := hG.1
  show zc_V 1 K G (zc_D shX K G σ0) [(0, .ref (zz K 6))] 0 []
  refine zr_getsC hG dJ0_coder_7d493_0 ws_J0_38 (fun c1 ec1 => ?_)
  refine zr_if_eq hB dJ0_coder_7d493_3 (tgt := 13) rfl (fun c2 => ?_) (fun c2 => ?_)
  · exfalso; omega
  refine zr_aload_n hB 0 dJ0_coder_7d493_6 rfl ?_
  refine zr_scod hG 4 (by decide) dJ0_coder_7d493_7 ws_J0_15 (fun c3 ec3 => ?_)
  refine zr_goto hB dJ0_coder_7d493_10 (tgt := 14) rfl ?_
  exact zr_nret hG dJ0_coder_7d493_14 (zn_nb0 (by omega)) ⟨rfl, by omega, by omega⟩

set_option maxHeartbeats 1000000 in
set_option maxRecDepth 100000 in
theorem c_J0_isLatin1_aae02_6 (K : zc_K) (hi : zc_inj shX K.2.2.2.1) (σ0 : zc_S)  (hO0 : zc_O okX σ0)  : zc_M shX K yJ0_isLatin1_aae02 cJ0_isLatin1_aae02 1 (some .boolean) (zrm 0 0) σ0 [.ref (zz K 6)] (zc_I (fun r9 σ9 => σ0 = σ9 ∧ 1 ≤ r9.toInt ∧ r9.toInt ≤ 1)) := by
  refine zc_start RJ0 hi pfJ0_isLatin1_aae02 rfl (Nat.le_of_ble_eq_true rfl) ?_
  intro G hG
  have hB := hG.1
  show zc_V 1 K G (zc_D shX K G σ0) [(0, .ref (zz K 6))] 0 []
  refine zr_getsC hG dJ0_isLatin1_aae02_0 ws_J0_38 (fun c1 ec1 => ?_)
  refine zr_if_eq hB dJ0_isLatin1_aae02_3 (tgt := 17) rfl (fun c2 => ?_) (fun c2 => ?_)
  · exfalso; omega
  refine zr_aload_n hB 0 dJ0_isLatin1_aae02_6 rfl ?_
  refine zr_scod hG 4 (by decide) dJ0_isLatin1_aae02_7 ws_J0_15 (fun c3 ec3 => ?_)
  refine zr_if_ne hB dJ0_isLatin1_aae02_10 (tgt := 17) rfl (fun c4 => ?_) (fun c4 => ?_)
  · exfalso; omega
  refine zr_iconst hB dJ0_isLatin1_aae02_13 rfl (fun c5 ec5 => ?_)
  refine zr_goto hB dJ0_isLatin1_aae02_14 (tgt := 18) rfl ?_
  exact zr_zret hG dJ0_isLatin1_aae02_18 (by omega) (by omega) ⟨rfl, by omega, by omega⟩

set_option maxHeartbeats 1000000 in
set_option maxRecDepth 100000 in
theorem c_J0_length_8abf5_6 (K : zc_K) (hi : zc_inj shX K.2.2.2.1) (σ0 : zc_S)  (hO0 : zc_O okX σ0)  : zc_M shX K yJ0_length_8abf5 cJ0_length_8abf5 1 (some .int) (zrm 1 20) σ0 [.ref (zz K 6)] (zc_I (fun r9 σ9 => σ0 = σ9 ∧ 6 ≤ r9.toInt ∧ r9.toInt ≤ 6)) := by
  refine zc_start RJ0 hi pfJ0_length_8abf5 rfl (Nat.le_of_ble_eq_true rfl) ?_
  intro G hG
  have hB := hG.1
  show zc_V 1 K G (zc_D shX K G σ0) [(0, .ref (zz K 6))] 0 []
  refine zr_aload_n hB 0 dJ0_length_8abf5_0 rfl ?_
  refine zr_sval hG 4 (by decide) dJ0_length_8abf5_1 ws_J0_9 ?_
  refine zr_slen hG 4 (by decide) dJ0_length_8abf5_4 (m := 6) rfl (fun c1 ec1 => ?_)
  refine zr_aload_n hB 0 dJ0_length_8abf5_5 rfl ?_
  refine zr_callzi hG (rest := [.int c1]) 4 dJ0_length_8abf5_6 wm_J0_335 (by decide) rfl (c_J0_coder_7d493_6 K hG.2.2.2.2.2.1 σ0  hO0 ) rfl rfl (Nat.le_of_ble_eq_true rfl) ⟨Nat.le_of_ble_eq_true rfl, Nat.le_of_ble_eq_true rfl, rfl, rfl⟩ (fun r2 σ3 h4 => ?_)
  obtain ⟨rfl, r2a, r2b⟩ := h4
  refine zr_ishr hB dJ0_length_8abf5_9 (fun x5 ex5 => ?_)
  have bx5 := zn_shr0 ex5 (by omega)
  exact zr_iret hG dJ0_length_8abf5_10 ⟨rfl, by omega, by omega⟩

set_option maxHeartbeats 1000000 in
set_option maxRecDepth 100000 in
theorem c_J1_charAt_3b067_11 (K : zc_K) (hi : zc_inj shX K.2.2.2.1) (σ0 : zc_S) (p1 : Int32) (hO0 : zc_O okX σ0) (h1a : 0 ≤ p1.toInt) (h1b : p1.toInt ≤ 5) : zc_M shX K yJ1_charAt_3b067 cJ1_charAt_3b067 2 (some .char) (zrm 2 43) σ0 [.ref (zz K 11), .int p1] (zc_I (fun r9 σ9 => σ0 = σ9 ∧ r9 = (zc_byt.getD 4 []).getD p1.toInt.toNat 0)) := by
  refine zc_start RJ1 hi pfJ1_charAt_3b067 rfl (Nat.le_of_ble_eq_true rfl) ?_
  intro G hG
  have hB := hG.1
  show zc_V 2 K G (zc_D shX K G σ0) [(0, .ref (zz K 11)), (1, .int p1)] 0 []
  refine zr_iload_n hB 1 dJ1_charAt_3b067_0 rfl ?_
  refine zr_aload_n hB 0 dJ1_charAt_3b067_1 rfl ?_
  refine zr_slen hG 4 (by decide) dJ1_charAt_3b067_2 (m := 6) rfl (fun c1 ec1 => ?_)
  refine zr_callsn hG (rest := []) dJ1_charAt_3b067_3 wm_J1_9 (c_J0_checkIndex_df160 K hG.2.2.2.2.2.1 σ0 p1 c1 hO0 (by omega) (by omega)) rfl rfl (Nat.le_of_ble_eq_true rfl) ⟨Nat.le_of_ble_eq_true rfl, Nat.le_of_ble_eq_true rfl, rfl, rfl⟩ (fun σ3 h4 => ?_)
  obtain rfl := h4
  refine zr_aload_n hB 0 dJ1_charAt_3b067_6 rfl ?_
  refine zr_iload_n hB 1 dJ1_charAt_3b067_7 rfl ?_
  refine zr_sbald hG 4 (by decide) dJ1_charAt_3b067_8 (by omega) (show p1.toInt < (6 : Nat) by omega) (fun x5 ex5 => ?_)
  refine zr_sipush hB dJ1_charAt_3b067_9 rfl (fun c6 ec6 => ?_)
  refine zr_iand hB dJ1_charAt_3b067_12 (fun x7 ex7 => ?_)
  have bx7 := zn_and ex7 ec6 (k := 8) rfl (by decide)
  refine zr_i2c hB dJ1_charAt_3b067_13 (fun x8 ex8 => ?_)
  exact zr_nret hG dJ1_charAt_3b067_14 (show narrow .char (.int x8) = .int x8 by have hq : x8 = (zc_byt.getD 4 []).getD p1.toInt.toNat 0 := (by rw [ex8, ex7, (zn_eq c6 255).mpr ec6, ex5]; exact (zn_chr 4 (by decide) _ (show p1.toInt.toNat < 6 by omega)).1); rw [hq]; exact (zn_chr 4 (by decide) _ (show p1.toInt.toNat < 6 by omega)).2) ⟨rfl, by rw [ex8, ex7, (zn_eq c6 255).mpr ec6, ex5]; exact (zn_chr 4 (by decide) _ (show p1.toInt.toNat < 6 by omega)).1⟩

set_option maxHeartbeats 1000000 in
set_option maxRecDepth 100000 in
theorem c_J0_charAt_5068e_6 (K : zc_K) (hi : zc_inj shX K.2.2.2.1) (σ0 : zc_S) (p1 : Int32) (hO0 : zc_O okX σ0) (h1a : 0 ≤ p1.toInt) (h1b : p1.toInt ≤ 5) : zc_M shX K yJ0_charAt_5068e cJ0_charAt_5068e 2 (some .char) (zrm 3 64) σ0 [.ref (zz K 6), .int p1] (zc_I (fun r9 σ9 => σ0 = σ9 ∧ r9 = (zc_byt.getD 4 []).getD p1.toInt.toNat 0)) := by
  refine zc_start RJ0 hi pfJ0_charAt_5068e rfl (Nat.le_of_ble_eq_true rfl) ?_
  intro G hG
  have hB := hG.1
  show zc_V 2 K G (zc_D shX K G σ0) [(0, .ref (zz K 6)), (1, .int p1)] 0 []
  refine zr_aload_n hB 0 dJ0_charAt_5068e_0 rfl ?_
  refine zr_callzi hG (rest := []) 4 dJ0_charAt_5068e_1 wm_J0_492 (by decide) rfl (c_J0_isLatin1_aae02_6 K hG.2.2.2.2.2.1 σ0  hO0 ) rfl rfl (Nat.le_of_ble_eq_true rfl) ⟨Nat.le_of_ble_eq_true rfl, Nat.le_of_ble_eq_true rfl, rfl, rfl⟩ (fun r1 σ2 h3 => ?_)
  obtain ⟨rfl, r1a, r1b⟩ := h3
  refine zr_if_eq hB dJ0_charAt_5068e_4 (tgt := 16) rfl (fun c4 => ?_) (fun c4 => ?_)
  · exfalso; omega
  refine zr_aload_n hB 0 dJ0_charAt_5068e_7 rfl ?_
  refine zr_sval hG 4 (by decide) dJ0_charAt_5068e_8 ws_J0_9 ?_
  refine zr_iload_n hB 1 dJ0_charAt_5068e_11 rfl ?_
  refine zr_callsi hG (rest := []) dJ0_charAt_5068e_12 wm_J0_495 (c_J1_charAt_3b067_11 K hG.2.2.2.2.2.1 σ0 p1 hO0 (by omega) (by omega)) rfl rfl (Nat.le_of_ble_eq_true rfl) ⟨Nat.le_of_ble_eq_true rfl, Nat.le_of_ble_eq_true rfl, rfl, rfl⟩ (fun r5 σ6 h7 => ?_)
  obtain ⟨rfl, g8⟩ := h7
  exact zr_nret hG dJ0_charAt_5068e_15 (show narrow .char (.int r5) = .int r5 by have hq : r5 = (zc_byt.getD 4 []).getD p1.toInt.toNat 0 := (by assumption); rw [hq]; exact (zn_chr 4 (by decide) _ (show p1.toInt.toNat < 6 by omega)).2) ⟨rfl, by assumption⟩

set_option maxHeartbeats 1000000 in
set_option maxRecDepth 100000 in
theorem c_X8_isShop (K : zc_K) (hi : zc_inj shX K.2.2.2.1) (σ0 : zc_S) (p0 : Int32) (hO0 : zc_O okX σ0)  : zc_M shX K yX8_isShop cX8_isShop 1 (some .boolean) (zrm 0 0) σ0 [.int p0] (zc_I (fun r9 σ9 => σ0 = σ9 ∧ zc_if r9 (0 ≤ p0.toInt ∧ p0.toInt ≤ 3))) := by
  refine zc_start RX8 hi pfX8_isShop rfl (Nat.le_of_ble_eq_true rfl) ?_
  intro G hG
  have hB := hG.1
  show zc_V 1 K G (zc_D shX K G σ0) [(0, .int p0)] 0 []
  refine zr_iload_n hB 0 dX8_isShop_0 rfl ?_
  refine zr_if_lt hB dX8_isShop_1 (tgt := 13) rfl (fun c1 => ?_) (fun c1 => ?_)
  · refine zr_iconst hB dX8_isShop_13 rfl (fun c2 ec2 => ?_)
    exact zr_zret hG dX8_isShop_14 (by omega) (by omega) ⟨rfl, zc_if.mf (by omega) (by omega)⟩
  refine zr_iload_n hB 0 dX8_isShop_4 rfl ?_
  refine zr_iconst hB dX8_isShop_5 rfl (fun c3 ec3 => ?_)
  refine zr_icmp_ge hB dX8_isShop_6 (tgt := 13) rfl (fun c4 => ?_) (fun c4 => ?_)
  · refine zr_iconst hB dX8_isShop_13 rfl (fun c5 ec5 => ?_)
    exact zr_zret hG dX8_isShop_14 (by omega) (by omega) ⟨rfl, zc_if.mf (by omega) (by omega)⟩
  refine zr_iconst hB dX8_isShop_9 rfl (fun c6 ec6 => ?_)
  refine zr_goto hB dX8_isShop_10 (tgt := 14) rfl ?_
  exact zr_zret hG dX8_isShop_14 (by omega) (by omega) ⟨rfl, zc_if.mt (by omega) (by omega)⟩

set_option maxHeartbeats 1000000 in
set_option maxRecDepth 100000 in
theorem c_X8_isDay (K : zc_K) (hi : zc_inj shX K.2.2.2.1) (σ0 : zc_S) (p0 : Int32) (hO0 : zc_O okX σ0)  : zc_M shX K yX8_isDay cX8_isDay 1 (some .boolean) (zrm 0 0) σ0 [.int p0] (zc_I (fun r9 σ9 => σ0 = σ9 ∧ zc_if r9 (0 ≤ p0.toInt ∧ p0.toInt ≤ 63))) := by
  refine zc_start RX8 hi pfX8_isDay rfl (Nat.le_of_ble_eq_true rfl) ?_
  intro G hG
  have hB := hG.1
  show zc_V 1 K G (zc_D shX K G σ0) [(0, .int p0)] 0 []
  refine zr_iload_n hB 0 dX8_isDay_0 rfl ?_
  refine zr_if_lt hB dX8_isDay_1 (tgt := 14) rfl (fun c1 => ?_) (fun c1 => ?_)
  · refine zr_iconst hB dX8_isDay_14 rfl (fun c2 ec2 => ?_)
    exact zr_zret hG dX8_isDay_15 (by omega) (by omega) ⟨rfl, zc_if.mf (by omega) (by omega)⟩
  refine zr_iload_n hB 0 dX8_isDay_4 rfl ?_
  refine zr_bipush hB dX8_isDay_5 rfl (fun c3 ec3 => ?_)
  refine zr_icmp_ge hB dX8_isDay_7 (tgt := 14) rfl (fun c4 => ?_) (fun c4 => ?_)
  · refine zr_iconst hB dX8_isDay_14 rfl (fun c5 ec5 => ?_)
    exact zr_zret hG dX8_isDay_15 (by omega) (by omega) ⟨rfl, zc_if.mf (by omega) (by omega)⟩
  refine zr_iconst hB dX8_isDay_10 rfl (fun c6 ec6 => ?_)
  refine zr_goto hB dX8_isDay_11 (tgt := 15) rfl ?_
  exact zr_zret hG dX8_isDay_15 (by omega) (by omega) ⟨rfl, zc_if.mt (by omega) (by omega)⟩

set_option maxHeartbeats 1000000 in
set_option maxRecDepth 100000 in
theorem c_X8_isAhead (K : zc_K) (hi : zc_inj shX K.2.2.2.1) (σ0 : zc_S) (p0 : Int32) (hO0 : zc_O okX σ0)  : zc_M shX K yX8_isAhead cX8_isAhead 1 (some .boolean) (zrm 0 0) σ0 [.int p0] (zc_I (fun r9 σ9 => σ0 = σ9 ∧ zc_if r9 (1 ≤ p0.toInt ∧ p0.toInt ≤ 14))) := by
  refine zc_start RX8 hi pfX8_isAhead rfl (Nat.le_of_ble_eq_true rfl) ?_
  intro G hG
  have hB := hG.1
  show zc_V 1 K G (zc_D shX K G σ0) [(0, .int p0)] 0 []
  refine zr_iload_n hB 0 dX8_isAhead_0 rfl ?_
  refine zr_iconst hB dX8_isAhead_1 rfl (fun c1 ec1 => ?_)
  refine zr_icmp_lt hB dX8_isAhead_2 (tgt := 15) rfl (fun c2 => ?_) (fun c2 => ?_)
  · refine zr_iconst hB dX8_isAhead_15 rfl (fun c3 ec3 => ?_)
    exact zr_zret hG dX8_isAhead_16 (by omega) (by omega) ⟨rfl, zc_if.mf (by omega) (by omega)⟩
  refine zr_iload_n hB 0 dX8_isAhead_5 rfl ?_
  refine zr_bipush hB dX8_isAhead_6 rfl (fun c4 ec4 => ?_)
  refine zr_icmp_gt hB dX8_isAhead_8 (tgt := 15) rfl (fun c5 => ?_) (fun c5 => ?_)
  · refine zr_iconst hB dX8_isAhead_15 rfl (fun c6 ec6 => ?_)
    exact zr_zret hG dX8_isAhead_16 (by omega) (by omega) ⟨rfl, zc_if.mf (by omega) (by omega)⟩
  refine zr_iconst hB dX8_isAhead_11 rfl (fun c7 ec7 => ?_)
  refine zr_goto hB dX8_isAhead_12 (tgt := 16) rfl ?_
  exact zr_zret hG dX8_isAhead_16 (by omega) (by omega) ⟨rfl, zc_if.mt (by omega) (by omega)⟩

set_option maxHeartbeats 1000000 in
set_option maxRecDepth 100000 in
theorem c_X8_isPercent (K : zc_K) (hi : zc_inj shX K.2.2.2.1) (σ0 : zc_S) (p0 : Int32) (hO0 : zc_O okX σ0)  : zc_M shX K yX8_isPercent cX8_isPercent 1 (some .boolean) (zrm 0 0) σ0 [.int p0] (zc_I (fun r9 σ9 => σ0 = σ9 ∧ zc_if r9 (1 ≤ p0.toInt ∧ p0.toInt ≤ 100))) := by
  refine zc_start RX8 hi pfX8_isPercent rfl (Nat.le_of_ble_eq_true rfl) ?_
  intro G hG
  have hB := hG.1
  show zc_V 1 K G (zc_D shX K G σ0) [(0, .int p0)] 0 []
  refine zr_iload_n hB 0 dX8_isPercent_0 rfl ?_
  refine zr_iconst hB dX8_isPercent_1 rfl (fun c1 ec1 => ?_)
  refine zr_icmp_lt hB dX8_isPercent_2 (tgt := 15) rfl (fun c2 => ?_) (fun c2 => ?_)
  · refine zr_iconst hB dX8_isPercent_15 rfl (fun c3 ec3 => ?_)
    exact zr_zret hG dX8_isPercent_16 (by omega) (by omega) ⟨rfl, zc_if.mf (by omega) (by omega)⟩
  refine zr_iload_n hB 0 dX8_isPercent_5 rfl ?_
  refine zr_bipush hB dX8_isPercent_6 rfl (fun c4 ec4 => ?_)
  refine zr_icmp_gt hB dX8_isPercent_8 (tgt := 15) rfl (fun c5 => ?_) (fun c5 => ?_)
  · refine zr_iconst hB dX8_isPercent_15 rfl (fun c6 ec6 => ?_)
    exact zr_zret hG dX8_isPercent_16 (by omega) (by omega) ⟨rfl, zc_if.mf (by omega) (by omega)⟩
  refine zr_iconst hB dX8_isPercent_11 rfl (fun c7 ec7 => ?_)
  refine zr_goto hB dX8_isPercent_12 (tgt := 16) rfl ?_
  exact zr_zret hG dX8_isPercent_16 (by omega) (by omega) ⟨rfl, zc_if.mt (by omega) (by omega)⟩

set_option maxHeartbeats 1000000 in
set_option maxRecDepth 100000 in
theorem c_X8_isCost (K : zc_K) (hi : zc_inj shX K.2.2.2.1) (σ0 : zc_S) (p0 : Int32) (hO0 : zc_O okX σ0)  : zc_M shX K yX8_isCost cX8_isCost 1 (some .boolean) (zrm 0 0) σ0 [.int p0] (zc_I (fun r9 σ9 => σ0 = σ9 ∧ zc_if r9 (1 ≤ p0.toInt ∧ p0.toInt ≤ 99))) := by
  refine zc_start RX8 hi pfX8_isCost rfl (Nat.le_of_ble_eq_true rfl) ?_
  intro G hG
  have hB := hG.1
  show zc_V 1 K G (zc_D shX K G σ0) [(0, .int p0)] 0 []
  refine zr_iload_n hB 0 dX8_isCost_0 rfl ?_
  refine zr_iconst hB dX8_isCost_1 rfl (fun c1 ec1 => ?_)
  refine zr_icmp_lt hB dX8_isCost_2 (tgt := 15) rfl (fun c2 => ?_) (fun c2 => ?_)
  · refine zr_iconst hB dX8_isCost_15 rfl (fun c3 ec3 => ?_)
    exact zr_zret hG dX8_isCost_16 (by omega) (by omega) ⟨rfl, zc_if.mf (by omega) (by omega)⟩
  refine zr_iload_n hB 0 dX8_isCost_5 rfl ?_
  refine zr_bipush hB dX8_isCost_6 rfl (fun c4 ec4 => ?_)
  refine zr_icmp_gt hB dX8_isCost_8 (tgt := 15) rfl (fun c5 => ?_) (fun c5 => ?_)
  · refine zr_iconst hB dX8_isCost_15 rfl (fun c6 ec6 => ?_)
    exact zr_zret hG dX8_isCost_16 (by omega) (by omega) ⟨rfl, zc_if.mf (by omega) (by omega)⟩
  refine zr_iconst hB dX8_isCost_11 rfl (fun c7 ec7 => ?_)
  refine zr_goto hB dX8_isCost_12 (tgt := 16) rfl ?_
  exact zr_zret hG dX8_isCost_16 (by omega) (by omega) ⟨rfl, zc_if.mt (by omega) (by omega)⟩

set_option maxHeartbeats 1000000 in
set_option maxRecDepth 100000 in
theorem c_X8_isSheet (K : zc_K) (hi : zc_inj shX K.2.2.2.1) (σ0 : zc_S) (p0 : Int32) (hO0 : zc_O okX σ0)  : zc_M shX K yX8_isSheet cX8_isSheet 1 (some .boolean) (zrm 0 0) σ0 [.int p0] (zc_I (fun r9 σ9 => σ0 = σ9 ∧ zc_if r9 (0 ≤ p0.toInt ∧ p0.toInt ≤ 3))) := by
  refine zc_start RX8 hi pfX8_isSheet rfl (Nat.le_of_ble_eq_true rfl) ?_
  intro G hG
  have hB := hG.1
  show zc_V 1 K G (zc_D shX K G σ0) [(0, .int p0)] 0 []
  refine zr_iload_n hB 0 dX8_isSheet_0 rfl ?_
  refine zr_if_lt hB dX8_isSheet_1 (tgt := 13) rfl (fun c1 => ?_) (fun c1 => ?_)
  · refine zr_iconst hB dX8_isSheet_13 rfl (fun c2 ec2 => ?_)
    exact zr_zret hG dX8_isSheet_14 (by omega) (by omega) ⟨rfl, zc_if.mf (by omega) (by omega)⟩
  refine zr_iload_n hB 0 dX8_isSheet_4 rfl ?_
  refine zr_iconst hB dX8_isSheet_5 rfl (fun c3 ec3 => ?_)
  refine zr_icmp_ge hB dX8_isSheet_6 (tgt := 13) rfl (fun c4 => ?_) (fun c4 => ?_)
  · refine zr_iconst hB dX8_isSheet_13 rfl (fun c5 ec5 => ?_)
    exact zr_zret hG dX8_isSheet_14 (by omega) (by omega) ⟨rfl, zc_if.mf (by omega) (by omega)⟩
  refine zr_iconst hB dX8_isSheet_9 rfl (fun c6 ec6 => ?_)
  refine zr_goto hB dX8_isSheet_10 (tgt := 14) rfl ?_
  exact zr_zret hG dX8_isSheet_14 (by omega) (by omega) ⟨rfl, zc_if.mt (by omega) (by omega)⟩

set_option maxHeartbeats 1000000 in
set_option maxRecDepth 100000 in
theorem c_X8_isLane (K : zc_K) (hi : zc_inj shX K.2.2.2.1) (σ0 : zc_S) (p0 : Int32) (hO0 : zc_O okX σ0)  : zc_M shX K yX8_isLane cX8_isLane 1 (some .boolean) (zrm 0 0) σ0 [.int p0] (zc_I (fun r9 σ9 => σ0 = σ9 ∧ zc_if r9 (0 ≤ p0.toInt ∧ p0.toInt ≤ 2))) := by
  refine zc_start RX8 hi pfX8_isLane rfl (Nat.le_of_ble_eq_true rfl) ?_
  intro G hG
  have hB := hG.1
  show zc_V 1 K G (zc_D shX K G σ0) [(0, .int p0)] 0 []
  refine zr_iload_n hB 0 dX8_isLane_0 rfl ?_
  refine zr_if_lt hB dX8_isLane_1 (tgt := 13) rfl (fun c1 => ?_) (fun c1 => ?_)
  · refine zr_iconst hB dX8_isLane_13 rfl (fun c2 ec2 => ?_)
    exact zr_zret hG dX8_isLane_14 (by omega) (by omega) ⟨rfl, zc_if.mf (by omega) (by omega)⟩
  refine zr_iload_n hB 0 dX8_isLane_4 rfl ?_
  refine zr_iconst hB dX8_isLane_5 rfl (fun c3 ec3 => ?_)
  refine zr_icmp_ge hB dX8_isLane_6 (tgt := 13) rfl (fun c4 => ?_) (fun c4 => ?_)
  · refine zr_iconst hB dX8_isLane_13 rfl (fun c5 ec5 => ?_)
    exact zr_zret hG dX8_isLane_14 (by omega) (by omega) ⟨rfl, zc_if.mf (by omega) (by omega)⟩
  refine zr_iconst hB dX8_isLane_9 rfl (fun c6 ec6 => ?_)
  refine zr_goto hB dX8_isLane_10 (tgt := 14) rfl ?_
  exact zr_zret hG dX8_isLane_14 (by omega) (by omega) ⟨rfl, zc_if.mt (by omega) (by omega)⟩

set_option maxHeartbeats 1000000 in
set_option maxRecDepth 100000 in
theorem c_X8_areDays (K : zc_K) (hi : zc_inj shX K.2.2.2.1) (σ0 : zc_S) (p0 : Int32) (p1 : Int32) (hO0 : zc_O okX σ0)  : zc_M shX K yX8_areDays cX8_areDays 2 (some .boolean) (zrm 1 20) σ0 [.int p0, .int p1] (zc_I (fun r9 σ9 => σ0 = σ9 ∧ zc_if r9 (0 ≤ p0.toInt ∧ p0.toInt ≤ p1.toInt ∧ p1.toInt ≤ 63 ∧ p0.toInt ≤ 63 ∧ 0 ≤ p1.toInt))) := by
  refine zc_start RX8 hi pfX8_areDays rfl (Nat.le_of_ble_eq_true rfl) ?_
  intro G hG
  have hB := hG.1
  show zc_V 2 K G (zc_D shX K G σ0) [(0, .int p0), (1, .int p1)] 0 []
  refine zr_iload_n hB 0 dX8_areDays_0 rfl ?_
  refine zr_callsi hG (rest := []) dX8_areDays_1 wm_X8_62 (c_X8_isDay K hG.2.2.2.2.2.1 σ0 p0 hO0 ) rfl rfl (Nat.le_of_ble_eq_true rfl) ⟨Nat.le_of_ble_eq_true rfl, Nat.le_of_ble_eq_true rfl, rfl, rfl⟩ (fun r1 σ2 h3 => ?_)
  obtain ⟨rfl, r1q⟩ := h3
  have r1z := r1q.b
  refine zr_if_eq hB dX8_areDays_4 (tgt := 23) rfl (fun c4 => ?_) (fun c4 => ?_)
  · have q5 := r1q.f c4
    refine zr_iconst hB dX8_areDays_23 rfl (fun c6 ec6 => ?_)
    exact zr_zret hG dX8_areDays_24 (by omega) (by omega) ⟨rfl, zc_if.mf (by omega) (by omega)⟩
  have q7 := r1q.t c4
  refine zr_iload_n hB 1 dX8_areDays_7 rfl ?_
  refine zr_callsi hG (rest := []) dX8_areDays_8 wm_X8_62 (c_X8_isDay K hG.2.2.2.2.2.1 σ0 p1 hO0 ) rfl rfl (Nat.le_of_ble_eq_true rfl) ⟨Nat.le_of_ble_eq_true rfl, Nat.le_of_ble_eq_true rfl, rfl, rfl⟩ (fun r8 σ9 h10 => ?_)
  obtain ⟨rfl, r8q⟩ := h10
  have r8z := r8q.b
  refine zr_if_eq hB dX8_areDays_11 (tgt := 23) rfl (fun c11 => ?_) (fun c11 => ?_)
  · have q12 := r8q.f c11
    refine zr_iconst hB dX8_areDays_23 rfl (fun c13 ec13 => ?_)
    exact zr_zret hG dX8_areDays_24 (by omega) (by omega) ⟨rfl, zc_if.mf (by omega) (by omega)⟩
  have q14 := r8q.t c11
  refine zr_iload_n hB 0 dX8_areDays_14 rfl ?_
  refine zr_iload_n hB 1 dX8_areDays_15 rfl ?_
  refine zr_icmp_gt hB dX8_areDays_16 (tgt := 23) rfl (fun c15 => ?_) (fun c15 => ?_)
  · refine zr_iconst hB dX8_areDays_23 rfl (fun c16 ec16 => ?_)
    exact zr_zret hG dX8_areDays_24 (by omega) (by omega) ⟨rfl, zc_if.mf (by omega) (by omega)⟩
  refine zr_iconst hB dX8_areDays_19 rfl (fun c17 ec17 => ?_)
  refine zr_goto hB dX8_areDays_20 (tgt := 24) rfl ?_
  exact zr_zret hG dX8_areDays_24 (by omega) (by omega) ⟨rfl, zc_if.mt (by omega) (by omega)⟩

set_option maxHeartbeats 1000000 in
set_option maxRecDepth 100000 in
theorem c_X8_isTeller_0 (K : zc_K) (hi : zc_inj shX K.2.2.2.1) (σ0 : zc_S) (p1 : Int32) (hO0 : zc_O okX σ0)  : zc_M shX K yX8_isTeller cX8_isTeller 2 (some .boolean) (zrm 0 0) σ0 [.ref (zk K 0), .int p1] (zc_I (fun r9 σ9 => σ0 = σ9 ∧ zc_if r9 (0 ≤ p1.toInt ∧ p1.toInt < (σ0.1 3 0).toInt ∧ p1.toInt ≤ 5))) := by
  refine zc_start RX8 hi pfX8_isTeller rfl (Nat.le_of_ble_eq_true rfl) ?_
  intro G hG
  have hB := hG.1
  show zc_V 2 K G (zc_D shX K G σ0) [(0, .ref (zk K 0)), (1, .int p1)] 0 []
  refine zr_iload_n hB 1 dX8_isTeller_0 rfl ?_
  refine zr_if_lt hB dX8_isTeller_1 (tgt := 19) rfl (fun c1 => ?_) (fun c1 => ?_)
  · refine zr_iconst hB dX8_isTeller_19 rfl (fun c2 ec2 => ?_)
    exact zr_zret hG dX8_isTeller_20 (by omega) (by omega) ⟨rfl, zc_if.mf (by omega) (by omega)⟩
  refine zr_iload_n hB 1 dX8_isTeller_4 rfl ?_
  refine zr_aload_n hB 0 dX8_isTeller_5 rfl ?_
  refine zr_getr hG 0 2 dX8_isTeller_6 rfl wf_X8_26 rfl ?_
  refine zr_geti' hG 3 0 (σ0.1 3 0) dX8_isTeller_9 rfl wf_X8_114 rfl rfl ?_
  have b3 : 0 ≤ (σ0.1 3 0).toInt ∧ (σ0.1 3 0).toInt ≤ 6 := ⟨(hO0 3 0).1, (hO0 3 0).2.1⟩
  refine zr_icmp_ge hB dX8_isTeller_12 (tgt := 19) rfl (fun c4 => ?_) (fun c4 => ?_)
  · refine zr_iconst hB dX8_isTeller_19 rfl (fun c5 ec5 => ?_)
    exact zr_zret hG dX8_isTeller_20 (by omega) (by omega) ⟨rfl, zc_if.mf (by omega) (by omega)⟩
  refine zr_iconst hB dX8_isTeller_15 rfl (fun c6 ec6 => ?_)
  refine zr_goto hB dX8_isTeller_16 (tgt := 20) rfl ?_
  exact zr_zret hG dX8_isTeller_20 (by omega) (by omega) ⟨rfl, zc_if.mt (by omega) (by omega)⟩

set_option maxHeartbeats 1000000 in
set_option maxRecDepth 100000 in
theorem c_X8_isAsked_0 (K : zc_K) (hi : zc_inj shX K.2.2.2.1) (σ0 : zc_S) (p1 : Int32) (p2 : Int32) (p3 : Int32) (hO0 : zc_O okX σ0)  : zc_M shX K yX8_isAsked cX8_isAsked 4 (some .boolean) (zrm 1 21) σ0 [.ref (zk K 0), .int p1, .int p2, .int p3] (zc_I (fun r9 σ9 => σ0 = σ9 ∧ zc_if r9 (0 ≤ p1.toInt ∧ p1.toInt ≤ 3 ∧ 0 ≤ p2.toInt ∧ p2.toInt < (σ0.1 3 0).toInt ∧ p2.toInt ≤ 5 ∧ 1 ≤ p3.toInt ∧ p3.toInt ≤ 14))) := by
  refine zc_start RX8 hi pfX8_isAsked rfl (Nat.le_of_ble_eq_true rfl) ?_
  intro G hG
  have hB := hG.1
  show zc_V 4 K G (zc_D shX K G σ0) [(0, .ref (zk K 0)), (1, .int p1), (2, .int p2), (3, .int p3)] 0 []
  refine zr_iload_n hB 1 dX8_isAsked_0 rfl ?_
  refine zr_callsi hG (rest := []) dX8_isAsked_1 wm_X8_70 (c_X8_isShop K hG.2.2.2.2.2.1 σ0 p1 hO0 ) rfl rfl (Nat.le_of_ble_eq_true rfl) ⟨Nat.le_of_ble_eq_true rfl, Nat.le_of_ble_eq_true rfl, rfl, rfl⟩ (fun r1 σ2 h3 => ?_)
  obtain ⟨rfl, r1q⟩ := h3
  have r1z := r1q.b
  refine zr_if_eq hB dX8_isAsked_4 (tgt := 26) rfl (fun c4 => ?_) (fun c4 => ?_)
  · have q5 := r1q.f c4
    refine zr_iconst hB dX8_isAsked_26 rfl (fun c6 ec6 => ?_)
    exact zr_zret hG dX8_isAsked_27 (by omega) (by omega) ⟨rfl, zc_if.mf (by omega) (by omega)⟩
  have q7 := r1q.t c4
  refine zr_aload_n hB 0 dX8_isAsked_7 rfl ?_
  refine zr_iload_n hB 2 dX8_isAsked_8 rfl ?_
  refine zr_callvi hG (rest := []) 0 dX8_isAsked_9 wm_X8_117 rfl rfl (c_X8_isTeller_0 K hG.2.2.2.2.2.1 σ0 p2 hO0 ) rfl rfl (Nat.le_of_ble_eq_true rfl) ⟨Nat.le_of_ble_eq_true rfl, Nat.le_of_ble_eq_true rfl, rfl, rfl⟩ (fun r8 σ9 h10 => ?_)
  obtain ⟨rfl, r8q⟩ := h10
  have r8z := r8q.b
  refine zr_if_eq hB dX8_isAsked_12 (tgt := 26) rfl (fun c11 => ?_) (fun c11 => ?_)
  · have q12 := r8q.f c11
    refine zr_iconst hB dX8_isAsked_26 rfl (fun c13 ec13 => ?_)
    exact zr_zret hG dX8_isAsked_27 (by omega) (by omega) ⟨rfl, zc_if.mf (by omega) (by omega)⟩
  have q14 := r8q.t c11
  refine zr_iload_n hB 3 dX8_isAsked_15 rfl ?_
  refine zr_callsi hG (rest := []) dX8_isAsked_16 wm_X8_168 (c_X8_isAhead K hG.2.2.2.2.2.1 σ0 p3 hO0 ) rfl rfl (Nat.le_of_ble_eq_true rfl) ⟨Nat.le_of_ble_eq_true rfl, Nat.le_of_ble_eq_true rfl, rfl, rfl⟩ (fun r15 σ16 h17 => ?_)
  obtain ⟨rfl, r15q⟩ := h17
  have r15z := r15q.b
  refine zr_if_eq hB dX8_isAsked_19 (tgt := 26) rfl (fun c18 => ?_) (fun c18 => ?_)
  · have q19 := r15q.f c18
    refine zr_iconst hB dX8_isAsked_26 rfl (fun c20 ec20 => ?_)
    exact zr_zret hG dX8_isAsked_27 (by omega) (by omega) ⟨rfl, zc_if.mf (by omega) (by omega)⟩
  have q21 := r15q.t c18
  refine zr_iconst hB dX8_isAsked_22 rfl (fun c22 ec22 => ?_)
  refine zr_goto hB dX8_isAsked_23 (tgt := 27) rfl ?_
  exact zr_zret hG dX8_isAsked_27 (by omega) (by omega) ⟨rfl, zc_if.mt (by omega) (by omega)⟩

set_option maxHeartbeats 1000000 in
set_option maxRecDepth 100000 in
theorem c_X8_isJoinedTo_0 (K : zc_K) (hi : zc_inj shX K.2.2.2.1) (σ0 : zc_S) (p1 : Int32) (p2 : Int32) (hO0 : zc_O okX σ0)  : zc_M shX K yX8_isJoinedTo cX8_isJoinedTo 3 (some .boolean) (zrm 1 21) σ0 [.ref (zk K 0), .int p1, .int p2] (zc_I (fun r9 σ9 => σ0 = σ9 ∧ 0 ≤ r9.toInt ∧ r9.toInt ≤ 1 ∧ (r9.toInt = 0 ∨ (0 ≤ p2.toInt ∧ p2.toInt < p1.toInt)))) := by
  refine zc_start RX8 hi pfX8_isJoinedTo rfl (Nat.le_of_ble_eq_true rfl) ?_
  intro G hG
  have hB := hG.1
  show zc_V 3 K G (zc_D shX K G σ0) [(0, .ref (zk K 0)), (1, .int p1), (2, .int p2)] 0 []
  refine zr_iload_n hB 2 dX8_isJoinedTo_0 rfl ?_
  refine zr_if_lt hB dX8_isJoinedTo_1 (tgt := 47) rfl (fun c1 => ?_) (fun c1 => ?_)
  · refine zr_iconst hB dX8_isJoinedTo_47 rfl (fun c2 ec2 => ?_)
    exact zr_zret hG dX8_isJoinedTo_48 (by omega) (by omega) ⟨rfl, by omega, by omega, by omega⟩
  refine zr_iload_n hB 2 dX8_isJoinedTo_4 rfl ?_
  refine zr_iload_n hB 1 dX8_isJoinedTo_5 rfl ?_
  refine zr_icmp_ge hB dX8_isJoinedTo_6 (tgt := 47) rfl (fun c3 => ?_) (fun c3 => ?_)
  · refine zr_iconst hB dX8_isJoinedTo_47 rfl (fun c4 ec4 => ?_)
    exact zr_zret hG dX8_isJoinedTo_48 (by omega) (by omega) ⟨rfl, by omega, by omega, by omega⟩
  refine zr_aload_n hB 0 dX8_isJoinedTo_9 rfl ?_
  refine zr_iload_n hB 1 dX8_isJoinedTo_10 rfl ?_
  refine zr_callvi hG (rest := []) 0 dX8_isJoinedTo_11 wm_X8_117 rfl rfl (c_X8_isTeller_0 K hG.2.2.2.2.2.1 σ0 p1 hO0 ) rfl rfl (Nat.le_of_ble_eq_true rfl) ⟨Nat.le_of_ble_eq_true rfl, Nat.le_of_ble_eq_true rfl, rfl, rfl⟩ (fun r5 σ6 h7 => ?_)
  obtain ⟨rfl, r5q⟩ := h7
  have r5z := r5q.b
  refine zr_if_eq hB dX8_isJoinedTo_14 (tgt := 47) rfl (fun c8 => ?_) (fun c8 => ?_)
  · have q9 := r5q.f c8
    refine zr_iconst hB dX8_isJoinedTo_47 rfl (fun c10 ec10 => ?_)
    exact zr_zret hG dX8_isJoinedTo_48 (by omega) (by omega) ⟨rfl, by omega, by omega, by omega⟩
  have q11 := r5q.t c8
  refine zr_aload_n hB 0 dX8_isJoinedTo_17 rfl ?_
  refine zr_getr hG 0 2 dX8_isJoinedTo_18 rfl wf_X8_26 rfl ?_
  refine zr_getr hG 3 1 dX8_isJoinedTo_21 rfl wf_X8_120 rfl ?_
  refine zr_iload_n hB 1 dX8_isJoinedTo_24 rfl ?_
  refine zr_iald hG 18 dX8_isJoinedTo_25 rfl (by omega) (by omega) (fun x12 ex12 => ?_)
  have bx12 : 0 ≤ x12.toInt ∧ x12.toInt ≤ 4 := by rw [ex12]; exact ⟨(hO0 18 _).1, (hO0 18 _).2.1⟩
  refine zr_iconst hB dX8_isJoinedTo_26 rfl (fun c13 ec13 => ?_)
  refine zr_icmp_ne hB dX8_isJoinedTo_27 (tgt := 47) rfl (fun c14 => ?_) (fun c14 => ?_)
  · refine zr_iconst hB dX8_isJoinedTo_47 rfl (fun c15 ec15 => ?_)
    exact zr_zret hG dX8_isJoinedTo_48 (by omega) (by omega) ⟨rfl, by omega, by omega, by omega⟩
  refine zr_aload_n hB 0 dX8_isJoinedTo_30 rfl ?_
  refine zr_getr hG 0 2 dX8_isJoinedTo_31 rfl wf_X8_26 rfl ?_
  refine zr_getr hG 3 1 dX8_isJoinedTo_34 rfl wf_X8_120 rfl ?_
  refine zr_iload_n hB 2 dX8_isJoinedTo_37 rfl ?_
  refine zr_iald hG 18 dX8_isJoinedTo_38 rfl (by omega) (by omega) (fun x16 ex16 => ?_)
  have bx16 : 0 ≤ x16.toInt ∧ x16.toInt ≤ 4 := by rw [ex16]; exact ⟨(hO0 18 _).1, (hO0 18 _).2.1⟩
  refine zr_iconst hB dX8_isJoinedTo_39 rfl (fun c17 ec17 => ?_)
  refine zr_icmp_eq hB dX8_isJoinedTo_40 (tgt := 47) rfl (fun c18 => ?_) (fun c18 => ?_)
  · refine zr_iconst hB dX8_isJoinedTo_47 rfl (fun c19 ec19 => ?_)
    exact zr_zret hG dX8_isJoinedTo_48 (by omega) (by omega) ⟨rfl, by omega, by omega, by omega⟩
  refine zr_iconst hB dX8_isJoinedTo_43 rfl (fun c20 ec20 => ?_)
  refine zr_goto hB dX8_isJoinedTo_44 (tgt := 48) rfl ?_
  exact zr_zret hG dX8_isJoinedTo_48 (by omega) (by omega) ⟨rfl, by omega, by omega, by omega⟩

set_option maxHeartbeats 1000000 in
set_option maxRecDepth 100000 in
theorem c_X8_numberAt (K : zc_K) (hi : zc_inj shX K.2.2.2.1) (σ0 : zc_S) (p0 : Int64) (p2 : Int32) (hO0 : zc_O okX σ0) (h0a : 0 ≤ p0.toInt) (h0b : p0.toInt ≤ 999999999999) (h2a : 0 ≤ p2.toInt) (h2b : p2.toInt ≤ 3) : zc_M shX K yX8_numberAt cX8_numberAt 6 (some .int) (zrm 0 0) σ0 [.long p0, .int p2] (zc_I (fun r9 σ9 => σ0 = σ9 ∧ 0 ≤ r9.toInt ∧ r9.toInt ≤ 999)) := by
  refine zc_start RX8 hi pfX8_numberAt rfl (Nat.le_of_ble_eq_true rfl) ?_
  intro G hG
  have hB := hG.1
  show zc_V 6 K G (zc_D shX K G σ0) [(0, .long p0), (2, .int p2)] 0 []
  refine zr_lload_n hB 0 dX8_numberAt_0 rfl ?_
  refine zr_lstore_n hB dX8_numberAt_1 rfl (by decide) (lv' := [(3, .long p0), (0, .long p0), (2, .int p2)]) rfl ?_
  refine zr_iconst hB dX8_numberAt_2 rfl (fun c1 ec1 => ?_)
  refine zr_istore hB dX8_numberAt_3 (by decide) (lv' := [(5, .int c1), (3, .long p0), (0, .long p0), (2, .int p2)]) rfl ?_
  have L5_4 : ∀ (n5 : Nat) (y3_2 : Int64) (y5_3 : Int32), 0 ≤ y3_2.toInt → y3_2.toInt ≤ 999999999999 → 0 ≤ y5_3.toInt → y5_3.toInt ≤ 3 → 3 - y5_3.toInt < (n5 : Int) → zc_V 6 K G (zc_D shX K G σ0) [(0, .long p0), (2, .int p2), (3, .long y3_2), (5, .int y5_3)] 5 [] := by
    intro n5
    induction n5 with
    | zero => intro y3_2 y5_3 y3_2a y3_2b y5_3a y5_3b hn5; exfalso; omega
    | succ n5 ih5 =>
      intro y3_2 y5_3 y3_2a y3_2b y5_3a y5_3b hn5
      refine zr_iload hB 3 dX8_numberAt_5 rfl ?_
      refine zr_iload_n hB 1 dX8_numberAt_7 rfl ?_
      refine zr_icmp_ge hB dX8_numberAt_8 (tgt := 23) rfl (fun c5 => ?_) (fun c5 => ?_)
      · refine zr_lload_n hB 2 dX8_numberAt_23 rfl ?_
        refine zr_ldc2 hB dX8_numberAt_24 wc_X8_317 (n := 1000) rfl (fun c6 ec6 => ?_)
        refine zr_lremc hB dX8_numberAt_27 ec6 (by omega) (by decide) (fun l7 el7 => ?_)
        refine zr_l2i hB dX8_numberAt_28 (by omega) (by omega) (fun x8 ex8 => ?_)
        exact zr_iret hG dX8_numberAt_29 ⟨rfl, by omega, by omega⟩
      refine zr_lload_n hB 2 dX8_numberAt_11 rfl ?_
      refine zr_ldc2 hB dX8_numberAt_12 wc_X8_317 (n := 1000) rfl (fun c9 ec9 => ?_)
      refine zr_ldivc hB dX8_numberAt_15 ec9 (by omega) (by decide) (fun l10 el10 => ?_)
      refine zr_lstore_n hB dX8_numberAt_16 rfl (by decide) (lv' := [(3, .long l10), (0, .long p0), (2, .int p2), (5, .int y5_3)]) rfl ?_
      refine zr_iinc hB 3 dX8_numberAt_17 rfl (by decide) rfl (by omega) (by omega) (fun x11 ex11 lv' hlv => ?_)
      obtain rfl : [(5, .int x11), (3, .long l10), (0, .long p0), (2, .int p2)] = lv' := hlv
      refine zr_goto hB dX8_numberAt_20 (tgt := 5) rfl ?_
      exact zc_sub [2, 3, 1, 0] rfl (ih5 l10 x11 (by omega) (by omega) (by omega) (by omega) (by omega))
  exact zc_sub [2, 3, 1, 0] rfl (L5_4 5 p0 c1 (by omega) (by omega) (by omega) (by omega) (by omega))

set_option maxHeartbeats 1000000 in
set_option maxRecDepth 100000 in
theorem c_X8_weightAt (K : zc_K) (hi : zc_inj shX K.2.2.2.1) (σ0 : zc_S) (p0 : Int32) (p1 : Int32) (hO0 : zc_O okX σ0) (h0a : 0 ≤ p0.toInt) (h0b : p0.toInt ≤ 99999999) (h1a : 0 ≤ p1.toInt) (h1b : p1.toInt ≤ 3) : zc_M shX K yX8_weightAt cX8_weightAt 4 (some .int) (zrm 0 0) σ0 [.int p0, .int p1] (zc_I (fun r9 σ9 => σ0 = σ9 ∧ 0 ≤ r9.toInt ∧ r9.toInt ≤ 99)) := by
  refine zc_start RX8 hi pfX8_weightAt rfl (Nat.le_of_ble_eq_true rfl) ?_
  intro G hG
  have hB := hG.1
  show zc_V 4 K G (zc_D shX K G σ0) [(0, .int p0), (1, .int p1)] 0 []
  refine zr_iload_n hB 0 dX8_weightAt_0 rfl ?_
  refine zr_istore_n hB dX8_weightAt_1 rfl (by decide) (lv' := [(2, .int p0), (0, .int p0), (1, .int p1)]) rfl ?_
  refine zr_iconst hB dX8_weightAt_2 rfl (fun c1 ec1 => ?_)
  refine zr_istore_n hB dX8_weightAt_3 rfl (by decide) (lv' := [(3, .int c1), (2, .int p0), (0, .int p0), (1, .int p1)]) rfl ?_
  have L4_4 : ∀ (n4 : Nat) (y2_2 : Int32) (y3_3 : Int32), 0 ≤ y2_2.toInt → y2_2.toInt ≤ 99999999 → 0 ≤ y3_3.toInt → y3_3.toInt ≤ 3 → 3 - y3_3.toInt < (n4 : Int) → zc_V 4 K G (zc_D shX K G σ0) [(0, .int p0), (1, .int p1), (2, .int y2_2), (3, .int y3_3)] 4 [] := by
    intro n4
    induction n4 with
    | zero => intro y2_2 y3_3 y2_2a y2_2b y3_3a y3_3b hn4; exfalso; omega
    | succ n4 ih4 =>
      intro y2_2 y3_3 y2_2a y2_2b y3_3a y3_3b hn4
      refine zr_iload_n hB 3 dX8_weightAt_4 rfl ?_
      refine zr_iload_n hB 1 dX8_weightAt_5 rfl ?_
      refine zr_icmp_ge hB dX8_weightAt_6 (tgt := 20) rfl (fun c5 => ?_) (fun c5 => ?_)
      · refine zr_iload_n hB 2 dX8_weightAt_20 rfl ?_
        refine zr_bipush hB dX8_weightAt_21 rfl (fun c6 ec6 => ?_)
        refine zr_iremc hB dX8_weightAt_23 ec6 (by omega) (by decide) (fun x7 ex7 => ?_)
        exact zr_iret hG dX8_weightAt_24 ⟨rfl, by omega, by omega⟩
      refine zr_iload_n hB 2 dX8_weightAt_9 rfl ?_
      refine zr_bipush hB dX8_weightAt_10 rfl (fun c8 ec8 => ?_)
      refine zr_idivc hB dX8_weightAt_12 ec8 (by omega) (by decide) (fun x9 ex9 => ?_)
      refine zr_istore_n hB dX8_weightAt_13 rfl (by decide) (lv' := [(2, .int x9), (0, .int p0), (1, .int p1), (3, .int y3_3)]) rfl ?_
      refine zr_iinc hB 3 dX8_weightAt_14 rfl (by decide) rfl (by omega) (by omega) (fun x10 ex10 lv' hlv => ?_)
      obtain rfl : [(3, .int x10), (2, .int x9), (0, .int p0), (1, .int p1)] = lv' := hlv
      refine zr_goto hB dX8_weightAt_17 (tgt := 4) rfl ?_
      exact zc_sub [2, 3, 1, 0] rfl (ih4 x9 x10 (by omega) (by omega) (by omega) (by omega) (by omega))
  exact zc_sub [2, 3, 1, 0] rfl (L4_4 5 p0 c1 (by omega) (by omega) (by omega) (by omega) (by omega))

set_option maxHeartbeats 1000000 in
set_option maxRecDepth 100000 in
theorem c_X8_shareOf (K : zc_K) (hi : zc_inj shX K.2.2.2.1) (σ0 : zc_S) (p0 : Int32) (p1 : Int32) (p2 : Int32) (p3 : Int32) (hO0 : zc_O okX σ0) (h0a : 0 ≤ p0.toInt) (h0b : p0.toInt ≤ 99999999) (h3a : 0 ≤ p3.toInt) (h3b : p3.toInt ≤ 3) : zc_M shX K yX8_shareOf cX8_shareOf 7 (some .int) (zrm 1 23) σ0 [.int p0, .int p1, .int p2, .int p3] (zc_I (fun r9 σ9 => σ0 = σ9)) := by
  refine zc_start RX8 hi pfX8_shareOf rfl (Nat.le_of_ble_eq_true rfl) ?_
  intro G hG
  have hB := hG.1
  show zc_V 7 K G (zc_D shX K G σ0) [(0, .int p0), (1, .int p1), (2, .int p2), (3, .int p3)] 0 []
  refine zr_iload_n hB 1 dX8_shareOf_0 rfl ?_
  refine zr_if_gt hB dX8_shareOf_1 (tgt := 6) rfl (fun c1 => ?_) (fun c1 => ?_)
  · refine zr_iload_n hB 2 dX8_shareOf_6 rfl ?_
    refine zr_istore hB dX8_shareOf_7 (by decide) (lv' := [(4, .int p2), (0, .int p0), (1, .int p1), (2, .int p2), (3, .int p3)]) rfl ?_
    refine zr_iconst hB dX8_shareOf_9 rfl (fun c2 ec2 => ?_)
    refine zr_istore hB dX8_shareOf_10 (by decide) (lv' := [(5, .int c2), (4, .int p2), (0, .int p0), (1, .int p1), (2, .int p2), (3, .int p3)]) rfl ?_
    have L12_5 : ∀ (n12 : Nat) (y4_3 : Int32) (y5_4 : Int32), 0 ≤ y5_4.toInt → y5_4.toInt ≤ 4 → 4 - y5_4.toInt < (n12 : Int) → zc_V 7 K G (zc_D shX K G σ0) [(0, .int p0), (1, .int p1), (2, .int p2), (3, .int p3), (4, .int y4_3), (5, .int y5_4)] 12 [] := by
      intro n12
      induction n12 with
      | zero => intro y4_3 y5_4 y5_4a y5_4b hn12; have vy4_3 := And.intro (zn_lo y4_3) (zn_hi y4_3); exfalso; omega
      | succ n12 ih12 =>
        intro y4_3 y5_4 y5_4a y5_4b hn12
        have vy4_3 := And.intro (zn_lo y4_3) (zn_hi y4_3)
        refine zr_iload hB 5 dX8_shareOf_12 rfl ?_
        refine zr_iconst hB dX8_shareOf_14 rfl (fun c6 ec6 => ?_)
        refine zr_icmp_ge hB dX8_shareOf_15 (tgt := 39) rfl (fun c7 => ?_) (fun c7 => ?_)
        · refine zr_iload_n hB 2 dX8_shareOf_39 rfl ?_
          refine zr_iload_n hB 0 dX8_shareOf_40 rfl ?_
          refine zr_iload_n hB 3 dX8_shareOf_41 rfl ?_
          refine zr_callsi hG (rest := [.int p2]) dX8_shareOf_42 wm_X8_203 (c_X8_weightAt K hG.2.2.2.2.2.1 σ0 p0 p3 hO0 (by omega) (by omega) (by omega) (by omega)) rfl rfl (Nat.le_of_ble_eq_true rfl) ⟨Nat.le_of_ble_eq_true rfl, Nat.le_of_ble_eq_true rfl, rfl, rfl⟩ (fun r8 σ9 h10 => ?_)
          obtain ⟨rfl, r8a, r8b⟩ := h10
          refine zr_imulw hB dX8_shareOf_45 (fun x11 ex11 => ?_)
          refine zr_iload_n hB 1 dX8_shareOf_46 rfl ?_
          refine zr_idivw hB dX8_shareOf_47 (by omega) (fun x12 ex12 => ?_)
          refine zr_istore hB dX8_shareOf_48 (by decide) (lv' := [(5, .int x12), (0, .int p0), (1, .int p1), (2, .int p2), (3, .int p3), (4, .int y4_3)]) rfl ?_
          refine zr_iconst hB dX8_shareOf_50 rfl (fun c13 ec13 => ?_)
          refine zr_istore hB dX8_shareOf_51 (by decide) (lv' := [(6, .int c13), (5, .int x12), (0, .int p0), (1, .int p1), (2, .int p2), (3, .int p3), (4, .int y4_3)]) rfl ?_
          have L53_16 : ∀ (n53 : Nat) (y4_14 : Int32) (y6_15 : Int32), 0 ≤ y6_15.toInt → y6_15.toInt ≤ 3 → 3 - y6_15.toInt < (n53 : Int) → zc_V 7 K G (zc_D shX K G σ0) [(0, .int p0), (1, .int p1), (2, .int p2), (3, .int p3), (4, .int y4_14), (5, .int x12), (6, .int y6_15)] 53 [] := by
            intro n53
            induction n53 with
            | zero => intro y4_14 y6_15 y6_15a y6_15b hn53; have vy4_14 := And.intro (zn_lo y4_14) (zn_hi y4_14); exfalso; omega
            | succ n53 ih53 =>
              intro y4_14 y6_15 y6_15a y6_15b hn53
              have vy4_14 := And.intro (zn_lo y4_14) (zn_hi y4_14)
              refine zr_iload hB 6 dX8_shareOf_53 rfl ?_
              refine zr_iload_n hB 3 dX8_shareOf_55 rfl ?_
              refine zr_icmp_ge hB dX8_shareOf_56 (tgt := 84) rfl (fun c17 => ?_) (fun c17 => ?_)
              · refine zr_iload hB 4 dX8_shareOf_84 rfl ?_
                refine zr_if_le hB dX8_shareOf_86 (tgt := 104) rfl (fun c18 => ?_) (fun c18 => ?_)
                · refine zr_iload hB 5 dX8_shareOf_104 rfl ?_
                  exact zr_iret hG dX8_shareOf_106 rfl
                refine zr_iload_n hB 0 dX8_shareOf_89 rfl ?_
                refine zr_iload_n hB 3 dX8_shareOf_90 rfl ?_
                refine zr_callsi hG (rest := []) dX8_shareOf_91 wm_X8_203 (c_X8_weightAt K hG.2.2.2.2.2.1 σ0 p0 p3 hO0 (by omega) (by omega) (by omega) (by omega)) rfl rfl (Nat.le_of_ble_eq_true rfl) ⟨Nat.le_of_ble_eq_true rfl, Nat.le_of_ble_eq_true rfl, rfl, rfl⟩ (fun r19 σ20 h21 => ?_)
                obtain ⟨rfl, r19a, r19b⟩ := h21
                refine zr_if_le hB dX8_shareOf_94 (tgt := 104) rfl (fun c22 => ?_) (fun c22 => ?_)
                · refine zr_iload hB 5 dX8_shareOf_104 rfl ?_
                  exact zr_iret hG dX8_shareOf_106 rfl
                refine zr_iload hB 5 dX8_shareOf_97 rfl ?_
                refine zr_iconst hB dX8_shareOf_99 rfl (fun c23 ec23 => ?_)
                refine zr_iaddw hB dX8_shareOf_100 (fun x24 ex24 => ?_)
                refine zr_goto hB dX8_shareOf_101 (tgt := 106) rfl ?_
                exact zr_iret hG dX8_shareOf_106 rfl
              refine zr_iload hB 4 dX8_shareOf_59 rfl ?_
              refine zr_iload_n hB 0 dX8_shareOf_61 rfl ?_
              refine zr_iload hB 6 dX8_shareOf_62 rfl ?_
              refine zr_callsi hG (rest := [.int y4_14]) dX8_shareOf_64 wm_X8_203 (c_X8_weightAt K hG.2.2.2.2.2.1 σ0 p0 y6_15 hO0 (by omega) (by omega) (by omega) (by omega)) rfl rfl (Nat.le_of_ble_eq_true rfl) ⟨Nat.le_of_ble_eq_true rfl, Nat.le_of_ble_eq_true rfl, rfl, rfl⟩ (fun r25 σ26 h27 => ?_)
              obtain ⟨rfl, r25a, r25b⟩ := h27
              refine zr_if_le hB dX8_shareOf_67 (tgt := 74) rfl (fun c28 => ?_) (fun c28 => ?_)
              · refine zr_iconst hB dX8_shareOf_74 rfl (fun c29 ec29 => ?_)
                have v31 := And.intro (zn_lo y4_14) (zn_hi y4_14)
                refine zr_isub hB dX8_shareOf_75 (by omega) (by omega) (fun x30 ex30 => ?_)
                refine zr_istore hB dX8_shareOf_76 (by decide) (lv' := [(4, .int x30), (0, .int p0), (1, .int p1), (2, .int p2), (3, .int p3), (5, .int x12), (6, .int y6_15)]) rfl ?_
                refine zr_iinc hB 6 dX8_shareOf_78 rfl (by decide) rfl (by omega) (by omega) (fun x32 ex32 lv' hlv => ?_)
                obtain rfl : [(6, .int x32), (4, .int x30), (0, .int p0), (1, .int p1), (2, .int p2), (3, .int p3), (5, .int x12)] = lv' := hlv
                refine zr_goto hB dX8_shareOf_81 (tgt := 53) rfl ?_
                exact zc_sub [2, 3, 4, 5, 1, 6, 0] rfl (ih53 x30 x32 (by omega) (by omega) (by omega))
              refine zr_iconst hB dX8_shareOf_70 rfl (fun c33 ec33 => ?_)
              refine zr_goto hB dX8_shareOf_71 (tgt := 75) rfl ?_
              refine zr_isubw hB dX8_shareOf_75 (fun x34 ex34 => ?_)
              refine zr_istore hB dX8_shareOf_76 (by decide) (lv' := [(4, .int x34), (0, .int p0), (1, .int p1), (2, .int p2), (3, .int p3), (5, .int x12), (6, .int y6_15)]) rfl ?_
              refine zr_iinc hB 6 dX8_shareOf_78 rfl (by decide) rfl (by omega) (by omega) (fun x35 ex35 lv' hlv => ?_)
              obtain rfl : [(6, .int x35), (4, .int x34), (0, .int p0), (1, .int p1), (2, .int p2), (3, .int p3), (5, .int x12)] = lv' := hlv
              refine zr_goto hB dX8_shareOf_81 (tgt := 53) rfl ?_
              exact zc_sub [2, 3, 4, 5, 1, 6, 0] rfl (ih53 x34 x35 (by omega) (by omega) (by omega))
          exact zc_sub [2, 3, 4, 5, 6, 1, 0] rfl (L53_16 5 y4_3 c13 (by omega) (by omega) (by omega))
        refine zr_iload hB 4 dX8_shareOf_18 rfl ?_
        refine zr_iload_n hB 2 dX8_shareOf_20 rfl ?_
        refine zr_iload_n hB 0 dX8_shareOf_21 rfl ?_
        refine zr_iload hB 5 dX8_shareOf_22 rfl ?_
        refine zr_callsi hG (rest := [.int p2, .int y4_3]) dX8_shareOf_24 wm_X8_203 (c_X8_weightAt K hG.2.2.2.2.2.1 σ0 p0 y5_4 hO0 (by omega) (by omega) (by omega) (by omega)) rfl rfl (Nat.le_of_ble_eq_true rfl) ⟨Nat.le_of_ble_eq_true rfl, Nat.le_of_ble_eq_true rfl, rfl, rfl⟩ (fun r36 σ37 h38 => ?_)
        obtain ⟨rfl, r36a, r36b⟩ := h38
        refine zr_imulw hB dX8_shareOf_27 (fun x39 ex39 => ?_)
        refine zr_iload_n hB 1 dX8_shareOf_28 rfl ?_
        refine zr_idivw hB dX8_shareOf_29 (by omega) (fun x40 ex40 => ?_)
        refine zr_isubw hB dX8_shareOf_30 (fun x41 ex41 => ?_)
        refine zr_istore hB dX8_shareOf_31 (by decide) (lv' := [(4, .int x41), (0, .int p0), (1, .int p1), (2, .int p2), (3, .int p3), (5, .int y5_4)]) rfl ?_
        refine zr_iinc hB 5 dX8_shareOf_33 rfl (by decide) rfl (by omega) (by omega) (fun x42 ex42 lv' hlv => ?_)
        obtain rfl : [(5, .int x42), (4, .int x41), (0, .int p0), (1, .int p1), (2, .int p2), (3, .int p3)] = lv' := hlv
        refine zr_goto hB dX8_shareOf_36 (tgt := 12) rfl ?_
        exact zc_sub [2, 3, 4, 5, 1, 0] rfl (ih12 x41 x42 (by omega) (by omega) (by omega))
    exact zc_sub [2, 3, 4, 5, 1, 0] rfl (L12_5 6 p2 c2 (by omega) (by omega) (by omega))
  refine zr_iconst hB dX8_shareOf_4 rfl (fun c43 ec43 => ?_)
  exact zr_iret hG dX8_shareOf_5 rfl

set_option maxHeartbeats 1000000 in
set_option maxRecDepth 100000 in
theorem c_X4_valueOn_1 (K : zc_K) (hi : zc_inj shX K.2.2.2.1) (σ0 : zc_S) (p1 : Int32) (p2 : Int32) (p3 : Int32) (hO0 : zc_O okX σ0)  : zc_M shX K yX4_valueOn cX4_valueOn 6 (some .int) (zrm 1 20) σ0 [.ref (zk K 1), .int p1, .int p2, .int p3] (zc_I (fun r9 σ9 => σ0 = σ9 ∧ (-4) ≤ r9.toInt ∧ r9.toInt ≤ 999 ∧ (r9.toInt = (-4) ∨ 0 ≤ r9.toInt) ∧ ((¬ (0 ≤ p1.toInt ∧ p1.toInt ≤ 3 ∧ 0 ≤ p2.toInt ∧ p2.toInt ≤ 63) ∧ r9.toInt = -4) ∨ ((0 ≤ p1.toInt ∧ p1.toInt ≤ 3 ∧ 0 ≤ p2.toInt ∧ p2.toInt ≤ 63) ∧ r9.toInt = zx_A σ0 (p1.toInt * 64 + p2.toInt).toNat p3.toInt)))) := by
  refine zc_start RX4 hi pfX4_valueOn rfl (Nat.le_of_ble_eq_true rfl) ?_
  intro G hG
  have hB := hG.1
  show zc_V 6 K G (zc_D shX K G σ0) [(0, .ref (zk K 1)), (1, .int p1), (2, .int p2), (3, .int p3)] 0 []
  refine zr_iload_n hB 1 dX4_valueOn_0 rfl ?_
  refine zr_callsi hG (rest := []) dX4_valueOn_1 wm_X4_31 (c_X8_isShop K hG.2.2.2.2.2.1 σ0 p1 hO0 ) rfl rfl (Nat.le_of_ble_eq_true rfl) ⟨Nat.le_of_ble_eq_true rfl, Nat.le_of_ble_eq_true rfl, rfl, rfl⟩ (fun r1 σ2 h3 => ?_)
  obtain ⟨rfl, r1q⟩ := h3
  have r1z := r1q.b
  refine zr_if_eq hB dX4_valueOn_4 (tgt := 14) rfl (fun c4 => ?_) (fun c4 => ?_)
  · have q5 := r1q.f c4
    refine zr_bipush hB dX4_valueOn_14 rfl (fun c6 ec6 => ?_)
    exact zr_iret hG dX4_valueOn_16 ⟨rfl, by omega, by omega, by omega, (Or.inl ⟨by omega, by omega⟩)⟩
  have q7 := r1q.t c4
  refine zr_iload_n hB 2 dX4_valueOn_7 rfl ?_
  refine zr_callsi hG (rest := []) dX4_valueOn_8 wm_X4_35 (c_X8_isDay K hG.2.2.2.2.2.1 σ0 p2 hO0 ) rfl rfl (Nat.le_of_ble_eq_true rfl) ⟨Nat.le_of_ble_eq_true rfl, Nat.le_of_ble_eq_true rfl, rfl, rfl⟩ (fun r8 σ9 h10 => ?_)
  obtain ⟨rfl, r8q⟩ := h10
  have r8z := r8q.b
  refine zr_if_ne hB dX4_valueOn_11 (tgt := 17) rfl (fun c11 => ?_) (fun c11 => ?_)
  · have q12 := r8q.t c11
    refine zr_aload_n hB 0 dX4_valueOn_17 rfl ?_
    refine zr_getr hG 1 2 dX4_valueOn_18 rfl wf_X4_9 rfl ?_
    refine zr_iload_n hB 1 dX4_valueOn_21 rfl ?_
    refine zr_bipush hB dX4_valueOn_22 rfl (fun c13 ec13 => ?_)
    refine zr_imulc hB dX4_valueOn_24 ec13 (by omega) (by omega) (fun x14 ex14 => ?_)
    refine zr_iload_n hB 2 dX4_valueOn_25 rfl ?_
    refine zr_iadd hB dX4_valueOn_26 (by omega) (by omega) (fun x15 ex15 => ?_)
    refine zr_iald hG 11 dX4_valueOn_27 rfl (by omega) (by omega) (fun x16 ex16 => ?_)
    have bx16 : 0 ≤ x16.toInt ∧ x16.toInt ≤ 200 := by rw [ex16]; exact ⟨(hO0 11 _).1, (hO0 11 _).2.1⟩
    refine zr_istore hB dX4_valueOn_28 (by decide) (lv' := [(4, .int x16), (0, .ref (zk K 1)), (1, .int p1), (2, .int p2), (3, .int p3)]) rfl ?_
    refine zr_aload_n hB 1 dX4_valueOn_30 rfl ?_
    refine zr_geti' hG 1 1 (σ0.1 1 1) dX4_valueOn_31 rfl wf_X4_38 rfl rfl ?_
    have b17 : 0 ≤ (σ0.1 1 1).toInt ∧ (σ0.1 1 1).toInt ≤ 200 := ⟨(hO0 1 1).1, (hO0 1 1).2.1⟩
    refine zr_istore hB dX4_valueOn_34 (by decide) (lv' := [(5, .int (σ0.1 1 1)), (4, .int x16), (0, .ref (zk K 1)), (1, .int p1), (2, .int p2), (3, .int p3)]) rfl ?_
    have L36_20 : ∀ (n36 : Nat) (y4_18 : Int32) (y5_19 : Int32), 0 ≤ y4_18.toInt → y4_18.toInt ≤ 200 → 0 ≤ y5_19.toInt → y5_19.toInt ≤ 200 → zx_lk σ0 p3.toInt y5_19.toInt.toNat y4_18.toInt.toNat = zx_A σ0 (p1.toInt * 64 + p2.toInt).toNat p3.toInt → y5_19.toInt - 0 < (n36 : Int) → zc_V 6 K G (zc_D shX K G σ0) [(0, .ref (zk K 1)), (1, .int p1), (2, .int p2), (3, .int p3), (4, .int y4_18), (5, .int y5_19)] 36 [] := by
      intro n36
      induction n36 with
      | zero => intro y4_18 y5_19 y4_18a y4_18b y5_19a y5_19b hlk hn36; exfalso; omega
      | succ n36 ih36 =>
        intro y4_18 y5_19 y4_18a y4_18b y5_19a y5_19b hlk hn36
        refine zr_iload hB 4 dX4_valueOn_36 rfl ?_
        refine zr_if_le hB dX4_valueOn_38 (tgt := 86) rfl (fun c21 => ?_) (fun c21 => ?_)
        · refine zr_bipush hB dX4_valueOn_86 rfl (fun c22 ec22 => ?_)
          exact zr_iret hG dX4_valueOn_88 ⟨rfl, by omega, by omega, by omega, (Or.inr ⟨by omega, by rw [← hlk, zx_none (show y5_19.toInt.toNat = 0 ∨ y4_18.toInt.toNat = 0 by omega)]; omega⟩)⟩
        refine zr_iload hB 5 dX4_valueOn_41 rfl ?_
        refine zr_if_le hB dX4_valueOn_43 (tgt := 86) rfl (fun c23 => ?_) (fun c23 => ?_)
        · refine zr_bipush hB dX4_valueOn_86 rfl (fun c24 ec24 => ?_)
          exact zr_iret hG dX4_valueOn_88 ⟨rfl, by omega, by omega, by omega, (Or.inr ⟨by omega, by rw [← hlk, zx_none (show y5_19.toInt.toNat = 0 ∨ y4_18.toInt.toNat = 0 by omega)]; omega⟩)⟩
        refine zr_aload_n hB 0 dX4_valueOn_46 rfl ?_
        refine zr_getr hG 1 4 dX4_valueOn_47 rfl wf_X4_18 rfl ?_
        refine zr_iload hB 4 dX4_valueOn_50 rfl ?_
        refine zr_iconst hB dX4_valueOn_52 rfl (fun c25 ec25 => ?_)
        refine zr_isub hB dX4_valueOn_53 (by omega) (by omega) (fun x26 ex26 => ?_)
        refine zr_iald hG 13 dX4_valueOn_54 rfl (by omega) (by omega) (fun x27 ex27 => ?_)
        have bx27 : 0 ≤ x27.toInt ∧ x27.toInt ≤ 63 := by rw [ex27]; exact ⟨(hO0 13 _).1, (hO0 13 _).2.1⟩
        refine zr_iload_n hB 3 dX4_valueOn_55 rfl ?_
        refine zr_icmp_gt hB dX4_valueOn_56 (tgt := 69) rfl (fun c28 => ?_) (fun c28 => ?_)
        · refine zr_aload_n hB 0 dX4_valueOn_69 rfl ?_
          refine zr_getr hG 1 3 dX4_valueOn_70 rfl wf_X4_15 rfl ?_
          refine zr_iload hB 4 dX4_valueOn_73 rfl ?_
          refine zr_iconst hB dX4_valueOn_75 rfl (fun c29 ec29 => ?_)
          refine zr_isub hB dX4_valueOn_76 (by omega) (by omega) (fun x30 ex30 => ?_)
          refine zr_iald hG 12 dX4_valueOn_77 rfl (by omega) (by omega) (fun x31 ex31 => ?_)
          have bx31 : 0 ≤ x31.toInt ∧ x31.toInt ≤ 200 := by rw [ex31]; exact ⟨(hO0 12 _).1, (hO0 12 _).2.1⟩
          refine zr_istore hB dX4_valueOn_78 (by decide) (lv' := [(4, .int x31), (0, .ref (zk K 1)), (1, .int p1), (2, .int p2), (3, .int p3), (5, .int y5_19)]) rfl ?_
          refine zr_iinc hB 5 dX4_valueOn_80 rfl (by decide) rfl (by omega) (by omega) (fun x32 ex32 lv' hlv => ?_)
          obtain rfl : [(5, .int x32), (4, .int x31), (0, .ref (zk K 1)), (1, .int p1), (2, .int p2), (3, .int p3)] = lv' := hlv
          refine zr_goto hB dX4_valueOn_83 (tgt := 36) rfl ?_
          exact zc_sub [2, 3, 4, 5, 1, 0] rfl (ih36 x31 x32 (by omega) (by omega) (by omega) (by omega) (show zx_lk σ0 p3.toInt x32.toInt.toNat x31.toInt.toNat = zx_A σ0 (p1.toInt * 64 + p2.toInt).toNat p3.toInt by have q9 := zx_no (σ := σ0) (on := p3.toInt) (a := y4_18.toInt) (n := y5_19.toInt) (by omega) (by omega) (show p3.toInt < (σ0.1 13 (y4_18.toInt - 1).toNat).toInt by rw [show (y4_18.toInt - 1).toNat = x26.toInt.toNat by omega, ← ex27]; omega); rw [show x32.toInt.toNat = (y5_19.toInt - 1).toNat by omega, ex31, show x30.toInt.toNat = (y4_18.toInt - 1).toNat by omega, ← q9]; exact hlk) (by omega))
        refine zr_aload_n hB 0 dX4_valueOn_59 rfl ?_
        refine zr_getr hG 1 5 dX4_valueOn_60 rfl wf_X4_21 rfl ?_
        refine zr_iload hB 4 dX4_valueOn_63 rfl ?_
        refine zr_iconst hB dX4_valueOn_65 rfl (fun c33 ec33 => ?_)
        refine zr_isub hB dX4_valueOn_66 (by omega) (by omega) (fun x34 ex34 => ?_)
        refine zr_iald hG 14 dX4_valueOn_67 rfl (by omega) (by omega) (fun x35 ex35 => ?_)
        have bx35 : (-4) ≤ x35.toInt ∧ x35.toInt ≤ 999 ∧ (x35.toInt = (-4) ∨ 0 ≤ x35.toInt) := by rw [ex35]; exact hO0 14 _
        exact zr_iret hG dX4_valueOn_68 ⟨rfl, by omega, by omega, by omega, (Or.inr ⟨by omega, by rw [← hlk, zx_yes (a := y4_18.toInt) (n := y5_19.toInt) (by omega) (by omega) (show (σ0.1 13 (y4_18.toInt - 1).toNat).toInt ≤ p3.toInt by rw [show (y4_18.toInt - 1).toNat = x26.toInt.toNat by omega, ← ex27]; omega), ex35, show x34.toInt.toNat = (y4_18.toInt - 1).toNat by omega]⟩)⟩
    exact zc_sub [2, 3, 4, 5, 1, 0] rfl (L36_20 202 x16 (σ0.1 1 1) (by omega) (by omega) (by omega) (by omega) (show zx_lk σ0 p3.toInt (σ0.1 1 1).toInt.toNat x16.toInt.toNat = zx_A σ0 (p1.toInt * 64 + p2.toInt).toNat p3.toInt by unfold zx_A; rw [show (p1.toInt * 64 + p2.toInt).toNat = x15.toInt.toNat by omega, ← ex16]) (by omega))
  have q36 := r8q.f c11
  refine zr_bipush hB dX4_valueOn_14 rfl (fun c37 ec37 => ?_)
  exact zr_iret hG dX4_valueOn_16 ⟨rfl, by omega, by omega, by omega, (Or.inl ⟨by omega, by omega⟩)⟩

def m_X4_tell_1 : zc_ms := [(1, some 1), (11, none), (12, none), (13, none), (14, none)]
set_option maxHeartbeats 1000000 in
set_option maxRecDepth 100000 in
theorem c_X4_tell_1 (K : zc_K) (hi : zc_inj shX K.2.2.2.1) (σ0 : zc_S) (p1 : Int32) (p2 : Int32) (p3 : Int32) (hO0 : zc_O okX σ0) (h3a : (-4) ≤ p3.toInt) (h3b : p3.toInt ≤ 999) (hx0 : (p3.toInt = -4 ∨ 0 ≤ p3.toInt)) : zc_M shX K yX4_tell cX4_tell 5 none (zrm 1 20) σ0 [.ref (zk K 1), .int p1, .int p2, .int p3] (zc_N (fun σ9 => zc_O okX σ9 ∧ zc_Ag m_X4_tell_1 σ0 σ9 ∧ ((¬ (0 ≤ p1.toInt ∧ p1.toInt ≤ 3 ∧ 0 ≤ p2.toInt ∧ p2.toInt ≤ 63 ∧ (σ0.1 1 1).toInt < 200) ∧ σ9 = σ0) ∨ ((0 ≤ p1.toInt ∧ p1.toInt ≤ 3 ∧ 0 ≤ p2.toInt ∧ p2.toInt ≤ 63 ∧ (σ0.1 1 1).toInt < 200) ∧ (zx_C σ0 → zx_T σ0 σ9 (p1.toInt * 64 + p2.toInt).toNat p3.toInt))))) := by
  refine zc_start RX4 hi pfX4_tell rfl (Nat.le_of_ble_eq_true rfl) ?_
  intro G hG
  have hB := hG.1
  have hA0 : zc_Ag m_X4_tell_1 σ0 σ0 := zc_Ag.rf
  show zc_V 5 K G (zc_D shX K G σ0) [(0, .ref (zk K 1)), (1, .int p1), (2, .int p2), (3, .int p3)] 0 []
  refine zr_iload_n hB 1 dX4_tell_0 rfl ?_
  refine zr_callsi hG (rest := []) dX4_tell_1 wm_X4_31 (c_X8_isShop K hG.2.2.2.2.2.1 σ0 p1 hO0 ) rfl rfl (Nat.le_of_ble_eq_true rfl) ⟨Nat.le_of_ble_eq_true rfl, Nat.le_of_ble_eq_true rfl, rfl, rfl⟩ (fun r1 σ2 h3 => ?_)
  obtain ⟨rfl, r1q⟩ := h3
  have r1z := r1q.b
  refine zr_if_eq hB dX4_tell_4 (tgt := 24) rfl (fun c4 => ?_) (fun c4 => ?_)
  · have q5 := r1q.f c4
    exact zr_vret hG dX4_tell_24 ⟨hO0, hA0, (Or.inl ⟨by omega, rfl⟩)⟩
  have q6 := r1q.t c4
  refine zr_iload_n hB 2 dX4_tell_7 rfl ?_
  refine zr_callsi hG (rest := []) dX4_tell_8 wm_X4_35 (c_X8_isDay K hG.2.2.2.2.2.1 σ0 p2 hO0 ) rfl rfl (Nat.le_of_ble_eq_true rfl) ⟨Nat.le_of_ble_eq_true rfl, Nat.le_of_ble_eq_true rfl, rfl, rfl⟩ (fun r7 σ8 h9 => ?_)
  obtain ⟨rfl, r7q⟩ := h9
  have r7z := r7q.b
  refine zr_if_eq hB dX4_tell_11 (tgt := 24) rfl (fun c10 => ?_) (fun c10 => ?_)
  · have q11 := r7q.f c10
    exact zr_vret hG dX4_tell_24 ⟨hO0, hA0, (Or.inl ⟨by omega, rfl⟩)⟩
  have q12 := r7q.t c10
  refine zr_aload_n hB 0 dX4_tell_14 rfl ?_
  refine zr_geti' hG 1 1 (σ0.1 1 1) dX4_tell_15 rfl wf_X4_38 rfl rfl ?_
  have b13 : 0 ≤ (σ0.1 1 1).toInt ∧ (σ0.1 1 1).toInt ≤ 200 := ⟨(hO0 1 1).1, (hO0 1 1).2.1⟩
  refine zr_sipush hB dX4_tell_18 rfl (fun c14 ec14 => ?_)
  refine zr_icmp_lt hB dX4_tell_21 (tgt := 25) rfl (fun c15 => ?_) (fun c15 => ?_)
  · refine zr_iload_n hB 1 dX4_tell_25 rfl ?_
    refine zr_bipush hB dX4_tell_26 rfl (fun c16 ec16 => ?_)
    refine zr_imulc hB dX4_tell_28 ec16 (by omega) (by omega) (fun x17 ex17 => ?_)
    refine zr_iload_n hB 2 dX4_tell_29 rfl ?_
    refine zr_iadd hB dX4_tell_30 (by omega) (by omega) (fun x18 ex18 => ?_)
    refine zr_istore hB dX4_tell_31 (by decide) (lv' := [(4, .int x18), (0, .ref (zk K 1)), (1, .int p1), (2, .int p2), (3, .int p3)]) rfl ?_
    refine zr_aload_n hB 1 dX4_tell_33 rfl ?_
    refine zr_getr hG 1 3 dX4_tell_34 rfl wf_X4_15 rfl ?_
    refine zr_aload_n hB 1 dX4_tell_37 rfl ?_
    refine zr_geti' hG 1 1 (σ0.1 1 1) dX4_tell_38 rfl wf_X4_38 rfl rfl ?_
    refine zr_aload_n hB 1 dX4_tell_41 rfl ?_
    refine zr_getr hG 1 2 dX4_tell_42 rfl wf_X4_9 rfl ?_
    refine zr_iload hB 0 dX4_tell_45 rfl ?_
    refine zr_iald hG 11 dX4_tell_47 rfl (by omega) (by omega) (fun x19 ex19 => ?_)
    have bx19 : 0 ≤ x19.toInt ∧ x19.toInt ≤ 200 := by rw [ex19]; exact ⟨(hO0 11 _).1, (hO0 11 _).2.1⟩
    refine zr_iast hG 12 dX4_tell_48 rfl (by omega) (by omega)  ?_
    have hOw20 := zc_O.u hO0 12 (σ0.1 1 1).toInt.toNat (v := x19) (show 0 ≤ x19.toInt by omega) (show x19.toInt ≤ 200 by omega) (Or.inr (show 0 ≤ x19.toInt by omega))
    have hAw20 := zc_Ag.u hA0 12 (σ0.1 1 1).toInt.toNat x19 rfl
    refine zr_aload_n hB 1 dX4_tell_49 rfl ?_
    refine zr_getr hG 1 4 dX4_tell_50 rfl wf_X4_18 rfl ?_
    refine zr_aload_n hB 1 dX4_tell_53 rfl ?_
    refine zr_geti' hG 1 1 (σ0.1 1 1) dX4_tell_54 rfl wf_X4_38 rfl rfl ?_
    refine zr_aload_n hB 1 dX4_tell_57 rfl ?_
    refine zr_geti' hG 1 0 (σ0.1 1 0) dX4_tell_58 rfl wf_X4_42 rfl rfl ?_
    have b21 : 0 ≤ (σ0.1 1 0).toInt ∧ (σ0.1 1 0).toInt ≤ 63 := ⟨(hOw20 1 0).1, (hOw20 1 0).2.1⟩
    refine zr_iast hG 13 dX4_tell_61 rfl (by omega) (by omega)  ?_
    have hOw22 := zc_O.u hOw20 13 (σ0.1 1 1).toInt.toNat (v := (σ0.1 1 0)) (show 0 ≤ (σ0.1 1 0).toInt by omega) (show (σ0.1 1 0).toInt ≤ 63 by omega) (Or.inr (show 0 ≤ (σ0.1 1 0).toInt by omega))
    have hAw22 := zc_Ag.u hAw20 13 (σ0.1 1 1).toInt.toNat (σ0.1 1 0) rfl
    refine zr_aload_n hB 1 dX4_tell_62 rfl ?_
    refine zr_getr hG 1 5 dX4_tell_63 rfl wf_X4_21 rfl ?_
    refine zr_aload_n hB 1 dX4_tell_66 rfl ?_
    refine zr_geti' hG 1 1 (σ0.1 1 1) dX4_tell_67 rfl wf_X4_38 rfl rfl ?_
    refine zr_iload_n hB 4 dX4_tell_70 rfl ?_
    refine zr_iast hG 14 dX4_tell_71 rfl (by omega) (by omega)  ?_
    have hOw23 := zc_O.u hOw22 14 (σ0.1 1 1).toInt.toNat (v := p3) (show (-4) ≤ p3.toInt by omega) (show p3.toInt ≤ 999 by omega) (show p3.toInt = (-4) ∨ 0 ≤ p3.toInt by omega)
    have hAw23 := zc_Ag.u hAw22 14 (σ0.1 1 1).toInt.toNat p3 rfl
    refine zr_aload_n hB 1 dX4_tell_72 rfl ?_
    refine zr_dup hB dX4_tell_73 rfl ?_
    refine zr_geti' hG 1 1 (σ0.1 1 1) dX4_tell_74 rfl wf_X4_38 rfl rfl ?_
    refine zr_iconst hB dX4_tell_77 rfl (fun c24 ec24 => ?_)
    refine zr_iadd hB dX4_tell_78 (by omega) (by omega) (fun x25 ex25 => ?_)
    refine zr_puti hG 1 1 dX4_tell_79 rfl wp_X4_38 rfl ?_
    have hOw26 := zc_O.u hOw23 1 1 (v := x25) (show 0 ≤ x25.toInt by omega) (show x25.toInt ≤ 200 by omega) (Or.inr (show 0 ≤ x25.toInt by omega))
    have hAw26 := zc_Ag.u hAw23 1 1 x25 rfl
    refine zr_aload_n hB 1 dX4_tell_82 rfl ?_
    refine zr_getr hG 1 2 dX4_tell_83 rfl wf_X4_9 rfl ?_
    refine zr_iload hB 0 dX4_tell_86 rfl ?_
    refine zr_aload_n hB 1 dX4_tell_88 rfl ?_
    refine zr_geti' hG 1 1 x25 dX4_tell_89 rfl wf_X4_38 rfl rfl ?_
    refine zr_iast hG 11 dX4_tell_92 rfl (by omega) (by omega)  ?_
    have hOw27 := zc_O.u hOw26 11 x18.toInt.toNat (v := x25) (show 0 ≤ x25.toInt by omega) (show x25.toInt ≤ 200 by omega) (Or.inr (show 0 ≤ x25.toInt by omega))
    have hAw27 := zc_Ag.u hAw26 11 x18.toInt.toNat x25 rfl
    exact zr_vret hG dX4_tell_93 ⟨hOw27, hAw27, (Or.inr ⟨by omega, fun hC9 => by have hT9 := zx_tell (c := x18.toInt.toNat) (v := p3) (n1 := x25) hC9 (hO0 1 1).1 (fun c => (hO0 11 c).1) (by omega); rw [← ex19] at hT9; rw [show (p1.toInt * 64 + p2.toInt).toNat = x18.toInt.toNat by omega]; exact hT9⟩)⟩
  exact zr_vret hG dX4_tell_24 ⟨hO0, hA0, (Or.inl ⟨by omega, rfl⟩)⟩

set_option maxHeartbeats 1000000 in
set_option maxRecDepth 100000 in
theorem c_X4_isFeast_1 (K : zc_K) (hi : zc_inj shX K.2.2.2.1) (σ0 : zc_S) (p1 : Int32) (hO0 : zc_O okX σ0)  : zc_M shX K yX4_isFeast cX4_isFeast 2 (some .boolean) (zrm 0 0) σ0 [.ref (zk K 1), .int p1] (zc_I (fun r9 σ9 => σ0 = σ9 ∧ 0 ≤ r9.toInt ∧ r9.toInt ≤ 1 ∧ r9.toInt = zp_f 15 σ0 p1.toInt)) := by
  refine zc_start RX4 hi pfX4_isFeast rfl (Nat.le_of_ble_eq_true rfl) ?_
  intro G hG
  have hB := hG.1
  show zc_V 2 K G (zc_D shX K G σ0) [(0, .ref (zk K 1)), (1, .int p1)] 0 []
  refine zr_iload_n hB 1 dX4_isFeast_0 rfl ?_
  refine zr_if_lt hB dX4_isFeast_1 (tgt := 23) rfl (fun c1 => ?_) (fun c1 => ?_)
  · refine zr_iconst hB dX4_isFeast_23 rfl (fun c2 ec2 => ?_)
    exact zr_zret hG dX4_isFeast_24 (by omega) (by omega) ⟨rfl, by omega, by omega, (by unfold zp_f; split <;> omega)⟩
  refine zr_iload_n hB 1 dX4_isFeast_4 rfl ?_
  refine zr_bipush hB dX4_isFeast_5 rfl (fun c3 ec3 => ?_)
  refine zr_icmp_ge hB dX4_isFeast_7 (tgt := 23) rfl (fun c4 => ?_) (fun c4 => ?_)
  · refine zr_iconst hB dX4_isFeast_23 rfl (fun c5 ec5 => ?_)
    exact zr_zret hG dX4_isFeast_24 (by omega) (by omega) ⟨rfl, by omega, by omega, (by unfold zp_f; split <;> omega)⟩
  refine zr_aload_n hB 0 dX4_isFeast_10 rfl ?_
  refine zr_getr hG 1 6 dX4_isFeast_11 rfl wf_X4_24 rfl ?_
  refine zr_iload_n hB 1 dX4_isFeast_14 rfl ?_
  refine zr_zald hG 15 dX4_isFeast_15 rfl (by omega) (by omega) (fun x6 ex6 => ?_)
  have bx6 : 0 ≤ x6.toInt ∧ x6.toInt ≤ 1 := by rw [ex6]; exact ⟨(hO0 15 _).1, (hO0 15 _).2.1⟩
  refine zr_if_eq hB dX4_isFeast_16 (tgt := 23) rfl (fun c7 => ?_) (fun c7 => ?_)
  · refine zr_iconst hB dX4_isFeast_23 rfl (fun c8 ec8 => ?_)
    exact zr_zret hG dX4_isFeast_24 (by omega) (by omega) ⟨rfl, by omega, by omega, (by have hqx6 := congrArg Int32.toInt ex6; unfold zp_f; split <;> omega)⟩
  refine zr_iconst hB dX4_isFeast_19 rfl (fun c9 ec9 => ?_)
  refine zr_goto hB dX4_isFeast_20 (tgt := 24) rfl ?_
  exact zr_zret hG dX4_isFeast_24 (by omega) (by omega) ⟨rfl, by omega, by omega, (by have hqx6 := congrArg Int32.toInt ex6; unfold zp_f; split <;> omega)⟩

set_option maxHeartbeats 1000000 in
set_option maxRecDepth 100000 in
theorem c_X4_gaps_1 (K : zc_K) (hi : zc_inj shX K.2.2.2.1) (σ0 : zc_S)  (hO0 : zc_O okX σ0)  : zc_M shX K yX4_gaps cX4_gaps 4 (some .int) (zrm 2 45) σ0 [.ref (zk K 1)] (zc_I (fun r9 σ9 => σ0 = σ9 ∧ r9.toInt = zp_g (zp_u (zx_A σ0) (σ0.1 1 0).toInt) ((σ0.1 1 0).toInt + 1).toNat 4)) := by
  refine zc_start RX4 hi pfX4_gaps rfl (Nat.le_of_ble_eq_true rfl) ?_
  intro G hG
  have hB := hG.1
  show zc_V 4 K G (zc_D shX K G σ0) [(0, .ref (zk K 1))] 0 []
  have bw1_0 : 0 ≤ (σ0.1 1 0).toInt ∧ (σ0.1 1 0).toInt ≤ 63 := ⟨(hO0 1 0).1, (hO0 1 0).2.1⟩
  refine zr_iconst hB dX4_gaps_0 rfl (fun c1 ec1 => ?_)
  refine zr_istore_n hB dX4_gaps_1 rfl (by decide) (lv' := [(1, .int c1), (0, .ref (zk K 1))]) rfl ?_
  refine zr_iconst hB dX4_gaps_2 rfl (fun c2 ec2 => ?_)
  refine zr_istore_n hB dX4_gaps_3 rfl (by decide) (lv' := [(2, .int c2), (1, .int c1), (0, .ref (zk K 1))]) rfl ?_
  have L4_6 : ∀ (n4 : Nat) (y1_3 : Int32) (y2_4 : Int32), 0 ≤ y1_3.toInt → y1_3.toInt ≤ 256 → 0 ≤ y2_4.toInt → y2_4.toInt ≤ 4 → y1_3.toInt ≤ 64 * y2_4.toInt → y1_3.toInt = zp_g (zp_u (zx_A σ0) (σ0.1 1 0).toInt) ((σ0.1 1 0).toInt + 1).toNat y2_4.toInt.toNat → 4 - y2_4.toInt < (n4 : Int) → zc_V 4 K G (zc_D shX K G σ0) [(0, .ref (zk K 1)), (1, .int y1_3), (2, .int y2_4)] 4 [] := by
    intro n4
    induction n4 with
    | zero => intro y1_3 y2_4 y1_3a y1_3b y2_4a y2_4b e5 hg hn4; exfalso; omega
    | succ n4 ih4 =>
      intro y1_3 y2_4 y1_3a y1_3b y2_4a y2_4b e5 hg hn4
      refine zr_iload_n hB 2 dX4_gaps_4 rfl ?_
      refine zr_iconst hB dX4_gaps_5 rfl (fun c7 ec7 => ?_)
      refine zr_icmp_ge hB dX4_gaps_6 (tgt := 54) rfl (fun c8 => ?_) (fun c8 => ?_)
      · refine zr_iload_n hB 1 dX4_gaps_54 rfl ?_
        exact zr_iret hG dX4_gaps_55 ⟨rfl, (by rw [show (4 : Nat) = y2_4.toInt.toNat by omega]; exact hg)⟩
      refine zr_iconst hB dX4_gaps_9 rfl (fun c9 ec9 => ?_)
      refine zr_istore_n hB dX4_gaps_10 rfl (by decide) (lv' := [(3, .int c9), (0, .ref (zk K 1)), (1, .int y1_3), (2, .int y2_4)]) rfl ?_
      have L11_14 : ∀ (n11 : Nat) (y1_10 : Int32) (y3_11 : Int32), 0 ≤ y1_10.toInt → y1_10.toInt ≤ 256 → 0 ≤ y3_11.toInt → y3_11.toInt ≤ 64 → y3_11.toInt ≤ (σ0.1 1 0).toInt + 1 → y1_10.toInt ≤ 64 * y2_4.toInt + y3_11.toInt → y1_10.toInt = zp_g (zp_u (zx_A σ0) (σ0.1 1 0).toInt) ((σ0.1 1 0).toInt + 1).toNat y2_4.toInt.toNat + zp_ct ((zp_u (zx_A σ0) (σ0.1 1 0).toInt) y2_4.toInt.toNat) y3_11.toInt.toNat → 64 - y3_11.toInt < (n11 : Int) → zc_V 4 K G (zc_D shX K G σ0) [(0, .ref (zk K 1)), (1, .int y1_10), (2, .int y2_4), (3, .int y3_11)] 11 [] := by
        intro n11
        induction n11 with
        | zero => intro y1_10 y3_11 y1_10a y1_10b y3_11a y3_11b e12 e13 hg1 hn11; exfalso; omega
        | succ n11 ih11 =>
          intro y1_10 y3_11 y1_10a y1_10b y3_11a y3_11b e12 e13 hg1 hn11
          refine zr_iload_n hB 3 dX4_gaps_11 rfl ?_
          refine zr_aload_n hB 0 dX4_gaps_12 rfl ?_
          refine zr_geti' hG 1 0 (σ0.1 1 0) dX4_gaps_13 rfl wf_X4_42 rfl rfl ?_
          refine zr_icmp_gt hB dX4_gaps_16 (tgt := 48) rfl (fun c15 => ?_) (fun c15 => ?_)
          · refine zr_iinc hB 2 dX4_gaps_48 rfl (by decide) rfl (by omega) (by omega) (fun x16 ex16 lv' hlv => ?_)
            obtain rfl : [(2, .int x16), (0, .ref (zk K 1)), (1, .int y1_10), (3, .int y3_11)] = lv' := hlv
            refine zr_goto hB dX4_gaps_51 (tgt := 4) rfl ?_
            exact zc_sub [1, 2, 0] rfl (ih4 y1_10 x16 (by omega) (by omega) (by omega) (by omega) (show y1_10.toInt ≤ 64 * x16.toInt by omega) (show y1_10.toInt = zp_g (zp_u (zx_A σ0) (σ0.1 1 0).toInt) ((σ0.1 1 0).toInt + 1).toNat x16.toInt.toNat by rw [zp_g1 (s := y2_4.toInt.toNat) (by omega), hg1, show y3_11.toInt.toNat = ((σ0.1 1 0).toInt + 1).toNat by omega]) (by omega))
          refine zr_iload_n hB 1 dX4_gaps_19 rfl ?_
          refine zr_aload_n hB 0 dX4_gaps_20 rfl ?_
          refine zr_iload_n hB 2 dX4_gaps_21 rfl ?_
          refine zr_iload_n hB 3 dX4_gaps_22 rfl ?_
          refine zr_aload_n hB 0 dX4_gaps_23 rfl ?_
          refine zr_geti' hG 1 0 (σ0.1 1 0) dX4_gaps_24 rfl wf_X4_42 rfl rfl ?_
          refine zr_callvi hG (rest := [.int y1_10]) 1 dX4_gaps_27 wm_X4_45 rfl rfl (c_X4_valueOn_1 K hG.2.2.2.2.2.1 σ0 y2_4 y3_11 (σ0.1 1 0) hO0 ) rfl rfl (Nat.le_of_ble_eq_true rfl) ⟨Nat.le_of_ble_eq_true rfl, Nat.le_of_ble_eq_true rfl, rfl, rfl⟩ (fun r17 σ18 h19 => ?_)
          obtain ⟨rfl, r17a, r17b, r17h, g20⟩ := h19
          have hva : r17.toInt = zx_A σ0 (((y2_4.toInt.toNat : Nat) : Int) * 64 + ((y3_11.toInt.toNat : Nat) : Int)).toNat (σ0.1 1 0).toInt := by have h9 := zx_or g20 (by omega); rw [show ((y2_4.toInt.toNat : Nat) : Int) = y2_4.toInt by omega, show ((y3_11.toInt.toNat : Nat) : Int) = y3_11.toInt by omega]; exact h9
          refine zr_bipush hB dX4_gaps_30 rfl (fun c21 ec21 => ?_)
          refine zr_icmp_ne hB dX4_gaps_32 (tgt := 39) rfl (fun c22 => ?_) (fun c22 => ?_)
          · refine zr_iconst hB dX4_gaps_39 rfl (fun c23 ec23 => ?_)
            refine zr_iadd hB dX4_gaps_40 (by omega) (by omega) (fun x24 ex24 => ?_)
            refine zr_istore_n hB dX4_gaps_41 rfl (by decide) (lv' := [(1, .int x24), (0, .ref (zk K 1)), (2, .int y2_4), (3, .int y3_11)]) rfl ?_
            refine zr_iinc hB 3 dX4_gaps_42 rfl (by decide) rfl (by omega) (by omega) (fun x25 ex25 lv' hlv => ?_)
            obtain rfl : [(3, .int x25), (1, .int x24), (0, .ref (zk K 1)), (2, .int y2_4)] = lv' := hlv
            refine zr_goto hB dX4_gaps_45 (tgt := 11) rfl ?_
            exact zc_sub [2, 1, 3, 0] rfl (ih11 x24 x25 (by omega) (by omega) (by omega) (by omega) (show x25.toInt ≤ (σ0.1 1 0).toInt + 1 by omega) (show x24.toInt ≤ 64 * y2_4.toInt + x25.toInt by omega) (show x24.toInt = zp_g (zp_u (zx_A σ0) (σ0.1 1 0).toInt) ((σ0.1 1 0).toInt + 1).toNat y2_4.toInt.toNat + zp_ct ((zp_u (zx_A σ0) (σ0.1 1 0).toInt) y2_4.toInt.toNat) x25.toInt.toNat by rw [show x25.toInt.toNat = (y3_11.toInt + 1).toNat by omega]; first | (rw [zp_cy (k := ((zp_u (zx_A σ0) (σ0.1 1 0).toInt) y2_4.toInt.toNat)) (n := y3_11.toInt.toNat) (by omega) (show zx_A σ0 _ _ = -4 by rw [← hva]; omega)]; omega) | (rw [zp_cn (k := ((zp_u (zx_A σ0) (σ0.1 1 0).toInt) y2_4.toInt.toNat)) (n := y3_11.toInt.toNat) (by omega) (fun h9 => absurd (hva.trans h9) (by omega))]; omega)) (by omega))
          refine zr_iconst hB dX4_gaps_35 rfl (fun c26 ec26 => ?_)
          refine zr_goto hB dX4_gaps_36 (tgt := 40) rfl ?_
          refine zr_iadd hB dX4_gaps_40 (by omega) (by omega) (fun x27 ex27 => ?_)
          refine zr_istore_n hB dX4_gaps_41 rfl (by decide) (lv' := [(1, .int x27), (0, .ref (zk K 1)), (2, .int y2_4), (3, .int y3_11)]) rfl ?_
          refine zr_iinc hB 3 dX4_gaps_42 rfl (by decide) rfl (by omega) (by omega) (fun x28 ex28 lv' hlv => ?_)
          obtain rfl : [(3, .int x28), (1, .int x27), (0, .ref (zk K 1)), (2, .int y2_4)] = lv' := hlv
          refine zr_goto hB dX4_gaps_45 (tgt := 11) rfl ?_
          exact zc_sub [2, 1, 3, 0] rfl (ih11 x27 x28 (by omega) (by omega) (by omega) (by omega) (show x28.toInt ≤ (σ0.1 1 0).toInt + 1 by omega) (show x27.toInt ≤ 64 * y2_4.toInt + x28.toInt by omega) (show x27.toInt = zp_g (zp_u (zx_A σ0) (σ0.1 1 0).toInt) ((σ0.1 1 0).toInt + 1).toNat y2_4.toInt.toNat + zp_ct ((zp_u (zx_A σ0) (σ0.1 1 0).toInt) y2_4.toInt.toNat) x28.toInt.toNat by rw [show x28.toInt.toNat = (y3_11.toInt + 1).toNat by omega]; first | (rw [zp_cy (k := ((zp_u (zx_A σ0) (σ0.1 1 0).toInt) y2_4.toInt.toNat)) (n := y3_11.toInt.toNat) (by omega) (show zx_A σ0 _ _ = -4 by rw [← hva]; omega)]; omega) | (rw [zp_cn (k := ((zp_u (zx_A σ0) (σ0.1 1 0).toInt) y2_4.toInt.toNat)) (n := y3_11.toInt.toNat) (by omega) (fun h9 => absurd (hva.trans h9) (by omega))]; omega)) (by omega))
      exact zc_sub [1, 2, 3, 0] rfl (L11_14 66 y1_3 c9 (by omega) (by omega) (by omega) (by omega) (show c9.toInt ≤ (σ0.1 1 0).toInt + 1 by omega) (show y1_3.toInt ≤ 64 * y2_4.toInt + c9.toInt by omega) (show y1_3.toInt = zp_g (zp_u (zx_A σ0) (σ0.1 1 0).toInt) ((σ0.1 1 0).toInt + 1).toNat y2_4.toInt.toNat + zp_ct ((zp_u (zx_A σ0) (σ0.1 1 0).toInt) y2_4.toInt.toNat) c9.toInt.toNat by rw [show c9.toInt.toNat = 0 by omega]; show _ = _ + (0 : Int); omega) (by omega))
  exact zc_sub [2, 1, 0] rfl (L4_6 6 c1 c2 (by omega) (by omega) (by omega) (by omega) (show c1.toInt ≤ 64 * c2.toInt by omega) (show c1.toInt = zp_g (zp_u (zx_A σ0) (σ0.1 1 0).toInt) ((σ0.1 1 0).toInt + 1).toNat c2.toInt.toNat by rw [show c2.toInt.toNat = 0 by omega]; show _ = (0 : Int); omega) (by omega))

set_option maxHeartbeats 1000000 in
set_option maxRecDepth 100000 in
theorem c_X4_changeOf_1 (K : zc_K) (hi : zc_inj shX K.2.2.2.1) (σ0 : zc_S) (p1 : Int32) (p2 : Int32) (p3 : Int32) (hO0 : zc_O okX σ0) (h2a : 0 ≤ p2.toInt) (h2b : p2.toInt ≤ 63) (h3a : 0 ≤ p3.toInt) (h3b : p3.toInt ≤ 63) : zc_M shX K yX4_changeOf cX4_changeOf 23 (some .int) (zrm 2 45) σ0 [.ref (zk K 1), .int p1, .int p2, .int p3] (zc_I (fun r9 σ9 => σ0 = σ9 ∧ (-4) ≤ r9.toInt ∧ r9.toInt ≤ 63)) := by
  refine zc_start RX4 hi pfX4_changeOf rfl (Nat.le_of_ble_eq_true rfl) ?_
  intro G hG
  have hB := hG.1
  show zc_V 23 K G (zc_D shX K G σ0) [(0, .ref (zk K 1)), (1, .int p1), (2, .int p2), (3, .int p3)] 0 []
  refine zr_lconst hB dX4_changeOf_0 (m := 0) rfl (fun c1 ec1 => ?_)
  refine zr_lstore hB dX4_changeOf_1 (by decide) (lv' := [(4, .long c1), (0, .ref (zk K 1)), (1, .int p1), (2, .int p2), (3, .int p3)]) rfl ?_
  refine zr_lconst hB dX4_changeOf_3 (m := 0) rfl (fun c2 ec2 => ?_)
  refine zr_lstore hB dX4_changeOf_4 (by decide) (lv' := [(6, .long c2), (4, .long c1), (0, .ref (zk K 1)), (1, .int p1), (2, .int p2), (3, .int p3)]) rfl ?_
  refine zr_iload_n hB 4 dX4_changeOf_6 rfl ?_
  refine zr_istore hB dX4_changeOf_7 (by decide) (lv' := [(8, .int p2), (6, .long c2), (4, .long c1), (0, .ref (zk K 1)), (1, .int p1), (2, .int p2), (3, .int p3)]) rfl ?_
  have L9_6 : ∀ (n9 : Nat) (y4_3 : Int64) (y6_4 : Int64) (y8_5 : Int32), 0 ≤ y8_5.toInt → y8_5.toInt ≤ 64 → 64 - y8_5.toInt < (n9 : Int) → zc_V 23 K G (zc_D shX K G σ0) [(0, .ref (zk K 1)), (1, .int p1), (2, .int p2), (3, .int p3), (4, .long y4_3), (6, .long y6_4), (8, .int y8_5)] 9 [] := by
    intro n9
    induction n9 with
    | zero => intro y4_3 y6_4 y8_5 y8_5a y8_5b hn9; exfalso; omega
    | succ n9 ih9 =>
      intro y4_3 y6_4 y8_5 y8_5a y8_5b hn9
      refine zr_iload hB 6 dX4_changeOf_9 rfl ?_
      refine zr_iload_n hB 3 dX4_changeOf_11 rfl ?_
      refine zr_icmp_gt hB dX4_changeOf_12 (tgt := 70) rfl (fun c7 => ?_) (fun c7 => ?_)
      · refine zr_bipush hB dX4_changeOf_70 rfl (fun c8 ec8 => ?_)
        refine zr_istore hB dX4_changeOf_72 (by decide) (lv' := [(8, .int c8), (0, .ref (zk K 1)), (1, .int p1), (2, .int p2), (3, .int p3), (4, .long y4_3), (6, .long y6_4)]) rfl ?_
        refine zr_lconst hB dX4_changeOf_74 (m := 0) rfl (fun c9 ec9 => ?_)
        refine zr_lstore hB dX4_changeOf_75 (by decide) (lv' := [(9, .long c9), (8, .int c8), (0, .ref (zk K 1)), (1, .int p1), (2, .int p2), (3, .int p3), (4, .long y4_3), (6, .long y6_4)]) rfl ?_
        refine zr_lconst hB dX4_changeOf_77 (m := 1) rfl (fun c10 ec10 => ?_)
        refine zr_lstore hB dX4_changeOf_78 (by decide) (lv' := [(11, .long c10), (9, .long c9), (8, .int c8), (0, .ref (zk K 1)), (1, .int p1), (2, .int p2), (3, .int p3), (4, .long y4_3), (6, .long y6_4)]) rfl ?_
        refine zr_lconst hB dX4_changeOf_80 (m := 0) rfl (fun c11 ec11 => ?_)
        refine zr_lstore hB dX4_changeOf_81 (by decide) (lv' := [(13, .long c11), (11, .long c10), (9, .long c9), (8, .int c8), (0, .ref (zk K 1)), (1, .int p1), (2, .int p2), (3, .int p3), (4, .long y4_3), (6, .long y6_4)]) rfl ?_
        refine zr_lconst hB dX4_changeOf_83 (m := 0) rfl (fun c12 ec12 => ?_)
        refine zr_lstore hB dX4_changeOf_84 (by decide) (lv' := [(15, .long c12), (13, .long c11), (11, .long c10), (9, .long c9), (8, .int c8), (0, .ref (zk K 1)), (1, .int p1), (2, .int p2), (3, .int p3), (4, .long y4_3), (6, .long y6_4)]) rfl ?_
        refine zr_iload_n hB 7 dX4_changeOf_86 rfl ?_
        refine zr_iconst hB dX4_changeOf_87 rfl (fun c13 ec13 => ?_)
        refine zr_iadd hB dX4_changeOf_88 (by omega) (by omega) (fun x14 ex14 => ?_)
        refine zr_istore hB dX4_changeOf_89 (by decide) (lv' := [(17, .int x14), (15, .long c12), (13, .long c11), (11, .long c10), (9, .long c9), (8, .int c8), (0, .ref (zk K 1)), (1, .int p1), (2, .int p2), (3, .int p3), (4, .long y4_3), (6, .long y6_4)]) rfl ?_
        have L91_23 : ∀ (n91 : Nat) (y4_15 : Int64) (y6_16 : Int64) (y8_17 : Int32) (y9_18 : Int64) (y11_19 : Int64) (y13_20 : Int64) (y15_21 : Int64) (y17_22 : Int32), (-4) ≤ y8_17.toInt → y8_17.toInt ≤ 63 → 1 ≤ y17_22.toInt → y17_22.toInt ≤ 64 → 64 - y17_22.toInt < (n91 : Int) → zc_V 23 K G (zc_D shX K G σ0) [(0, .ref (zk K 1)), (1, .int p1), (2, .int p2), (3, .int p3), (4, .long y4_15), (6, .long y6_16), (8, .int y8_17), (9, .long y9_18), (11, .long y11_19), (13, .long y13_20), (15, .long y15_21), (17, .int y17_22)] 91 [] := by
          intro n91
          induction n91 with
          | zero => intro y4_15 y6_16 y8_17 y9_18 y11_19 y13_20 y15_21 y17_22 y8_17a y8_17b y17_22a y17_22b hn91; exfalso; omega
          | succ n91 ih91 =>
            intro y4_15 y6_16 y8_17 y9_18 y11_19 y13_20 y15_21 y17_22 y8_17a y8_17b y17_22a y17_22b hn91
            refine zr_iload hB 11 dX4_changeOf_91 rfl ?_
            refine zr_iload_n hB 3 dX4_changeOf_93 rfl ?_
            refine zr_icmp_gt hB dX4_changeOf_94 (tgt := 217) rfl (fun c24 => ?_) (fun c24 => ?_)
            · refine zr_iload hB 6 dX4_changeOf_217 rfl ?_
              exact zr_iret hG dX4_changeOf_219 ⟨rfl, by omega, by omega⟩
            refine zr_aload_n hB 0 dX4_changeOf_97 rfl ?_
            refine zr_iload_n hB 1 dX4_changeOf_98 rfl ?_
            refine zr_iload hB 11 dX4_changeOf_99 rfl ?_
            refine zr_iconst hB dX4_changeOf_101 rfl (fun c25 ec25 => ?_)
            refine zr_isub hB dX4_changeOf_102 (by omega) (by omega) (fun x26 ex26 => ?_)
            refine zr_aload_n hB 0 dX4_changeOf_103 rfl ?_
            refine zr_geti' hG 1 0 (σ0.1 1 0) dX4_changeOf_104 rfl wf_X4_42 rfl rfl ?_
            have b27 : 0 ≤ (σ0.1 1 0).toInt ∧ (σ0.1 1 0).toInt ≤ 63 := ⟨(hO0 1 0).1, (hO0 1 0).2.1⟩
            refine zr_callvi hG (rest := []) 1 dX4_changeOf_107 wm_X4_45 rfl rfl (c_X4_valueOn_1 K hG.2.2.2.2.2.1 σ0 p1 x26 (σ0.1 1 0) hO0 ) rfl rfl (Nat.le_of_ble_eq_true rfl) ⟨Nat.le_of_ble_eq_true rfl, Nat.le_of_ble_eq_true rfl, rfl, rfl⟩ (fun r28 σ29 h30 => ?_)
            obtain ⟨rfl, r28a, r28b, r28h, g31⟩ := h30
            refine zr_istore hB dX4_changeOf_110 (by decide) (lv' := [(18, .int r28), (0, .ref (zk K 1)), (1, .int p1), (2, .int p2), (3, .int p3), (4, .long y4_15), (6, .long y6_16), (8, .int y8_17), (9, .long y9_18), (11, .long y11_19), (13, .long y13_20), (15, .long y15_21), (17, .int y17_22)]) rfl ?_
            refine zr_iload hB 0 dX4_changeOf_112 rfl ?_
            refine zr_bipush hB dX4_changeOf_114 rfl (fun c32 ec32 => ?_)
            have L147_37 : ∀ (y4_33 : Int64) (y6_34 : Int64) (y13_35 : Int64) (y15_36 : Int64), zc_V 23 K G (zc_D shX K G σ0) [(0, .ref (zk K 1)), (1, .int p1), (2, .int p2), (3, .int p3), (4, .long y4_33), (6, .long y6_34), (8, .int y8_17), (9, .long y9_18), (11, .long y11_19), (13, .long y13_35), (15, .long y15_36), (17, .int y17_22), (18, .int r28)] 147 [] := by
              intro y4_33 y6_34 y13_35 y15_36
              refine zr_lload hB 9 dX4_changeOf_147 rfl ?_
              refine zr_lload hB 9 dX4_changeOf_149 rfl ?_
              refine zr_lmulw hB dX4_changeOf_151 (fun l38 el38 => ?_)
              refine zr_lload hB 5 dX4_changeOf_152 rfl ?_
              refine zr_lmulw hB dX4_changeOf_154 (fun l39 el39 => ?_)
              refine zr_lload hB 4 dX4_changeOf_155 rfl ?_
              refine zr_lload hB 4 dX4_changeOf_157 rfl ?_
              refine zr_lmulw hB dX4_changeOf_159 (fun l40 el40 => ?_)
              refine zr_lload hB 10 dX4_changeOf_160 rfl ?_
              refine zr_lmulw hB dX4_changeOf_162 (fun l41 el41 => ?_)
              refine zr_laddw hB dX4_changeOf_163 (fun l42 el42 => ?_)
              refine zr_lstore hB dX4_changeOf_164 (by decide) (lv' := [(19, .long l42), (0, .ref (zk K 1)), (1, .int p1), (2, .int p2), (3, .int p3), (4, .long y4_33), (6, .long y6_34), (8, .int y8_17), (9, .long y9_18), (11, .long y11_19), (13, .long y13_35), (15, .long y15_36), (17, .int y17_22), (18, .int r28)]) rfl ?_
              refine zr_lload hB 11 dX4_changeOf_166 rfl ?_
              refine zr_lload hB 6 dX4_changeOf_168 rfl ?_
              refine zr_lmulw hB dX4_changeOf_170 (fun l43 el43 => ?_)
              refine zr_lstore hB dX4_changeOf_171 (by decide) (lv' := [(21, .long l43), (19, .long l42), (0, .ref (zk K 1)), (1, .int p1), (2, .int p2), (3, .int p3), (4, .long y4_33), (6, .long y6_34), (8, .int y8_17), (9, .long y9_18), (11, .long y11_19), (13, .long y13_35), (15, .long y15_36), (17, .int y17_22), (18, .int r28)]) rfl ?_
              refine zr_lload hB 0 dX4_changeOf_173 rfl ?_
              refine zr_lconst hB dX4_changeOf_175 (m := 0) rfl (fun c44 ec44 => ?_)
              refine zr_lcmp_le hB dX4_changeOf_176 dX4_changeOf_177 (tgt := 211) rfl (fun c45 => ?_) (fun c45 => ?_)
              · refine zr_iinc hB 13 dX4_changeOf_211 rfl (by decide) rfl (by omega) (by omega) (fun x46 ex46 lv' hlv => ?_)
                obtain rfl : [(17, .int x46), (21, .long l43), (19, .long l42), (0, .ref (zk K 1)), (1, .int p1), (2, .int p2), (3, .int p3), (4, .long y4_33), (6, .long y6_34), (8, .int y8_17), (9, .long y9_18), (11, .long y11_19), (13, .long y13_35), (15, .long y15_36), (18, .int r28)] = lv' := hlv
                refine zr_goto hB dX4_changeOf_214 (tgt := 91) rfl ?_
                exact zc_sub [3, 4, 5, 6, 7, 8, 9, 10, 11, 12, 13, 0] rfl (ih91 y4_33 y6_34 y8_17 y9_18 y11_19 y13_35 y15_36 x46 (by omega) (by omega) (by omega) (by omega) (by omega))
              refine zr_iload hB 8 dX4_changeOf_180 rfl ?_
              refine zr_if_lt hB dX4_changeOf_182 (tgt := 199) rfl (fun c47 => ?_) (fun c47 => ?_)
              · refine zr_iload hB 13 dX4_changeOf_199 rfl ?_
                refine zr_istore hB dX4_changeOf_201 (by decide) (lv' := [(8, .int y17_22), (21, .long l43), (19, .long l42), (0, .ref (zk K 1)), (1, .int p1), (2, .int p2), (3, .int p3), (4, .long y4_33), (6, .long y6_34), (9, .long y9_18), (11, .long y11_19), (13, .long y13_35), (15, .long y15_36), (17, .int y17_22), (18, .int r28)]) rfl ?_
                refine zr_lload hB 2 dX4_changeOf_203 rfl ?_
                refine zr_lstore hB dX4_changeOf_205 (by decide) (lv' := [(9, .long l42), (8, .int y17_22), (21, .long l43), (19, .long l42), (0, .ref (zk K 1)), (1, .int p1), (2, .int p2), (3, .int p3), (4, .long y4_33), (6, .long y6_34), (11, .long y11_19), (13, .long y13_35), (15, .long y15_36), (17, .int y17_22), (18, .int r28)]) rfl ?_
                refine zr_lload hB 2 dX4_changeOf_207 rfl ?_
                refine zr_lstore hB dX4_changeOf_209 (by decide) (lv' := [(11, .long l43), (9, .long l42), (8, .int y17_22), (21, .long l43), (19, .long l42), (0, .ref (zk K 1)), (1, .int p1), (2, .int p2), (3, .int p3), (4, .long y4_33), (6, .long y6_34), (13, .long y13_35), (15, .long y15_36), (17, .int y17_22), (18, .int r28)]) rfl ?_
                refine zr_iinc hB 13 dX4_changeOf_211 rfl (by decide) rfl (by omega) (by omega) (fun x48 ex48 lv' hlv => ?_)
                obtain rfl : [(17, .int x48), (11, .long l43), (9, .long l42), (8, .int y17_22), (21, .long l43), (19, .long l42), (0, .ref (zk K 1)), (1, .int p1), (2, .int p2), (3, .int p3), (4, .long y4_33), (6, .long y6_34), (13, .long y13_35), (15, .long y15_36), (18, .int r28)] = lv' := hlv
                refine zr_goto hB dX4_changeOf_214 (tgt := 91) rfl ?_
                exact zc_sub [6, 7, 8, 9, 10, 11, 3, 2, 1, 12, 13, 0] rfl (ih91 y4_33 y6_34 y17_22 l42 l43 y13_35 y15_36 x48 (by omega) (by omega) (by omega) (by omega) (by omega))
              refine zr_lload hB 1 dX4_changeOf_185 rfl ?_
              refine zr_lload hB 10 dX4_changeOf_187 rfl ?_
              refine zr_lmulw hB dX4_changeOf_189 (fun l49 el49 => ?_)
              refine zr_lload hB 9 dX4_changeOf_190 rfl ?_
              refine zr_lload hB 0 dX4_changeOf_192 rfl ?_
              refine zr_lmulw hB dX4_changeOf_194 (fun l50 el50 => ?_)
              refine zr_lcmp_le hB dX4_changeOf_195 dX4_changeOf_196 (tgt := 211) rfl (fun c51 => ?_) (fun c51 => ?_)
              · refine zr_iinc hB 13 dX4_changeOf_211 rfl (by decide) rfl (by omega) (by omega) (fun x52 ex52 lv' hlv => ?_)
                obtain rfl : [(17, .int x52), (21, .long l43), (19, .long l42), (0, .ref (zk K 1)), (1, .int p1), (2, .int p2), (3, .int p3), (4, .long y4_33), (6, .long y6_34), (8, .int y8_17), (9, .long y9_18), (11, .long y11_19), (13, .long y13_35), (15, .long y15_36), (18, .int r28)] = lv' := hlv
                refine zr_goto hB dX4_changeOf_214 (tgt := 91) rfl ?_
                exact zc_sub [3, 4, 5, 6, 7, 8, 9, 10, 11, 12, 13, 0] rfl (ih91 y4_33 y6_34 y8_17 y9_18 y11_19 y13_35 y15_36 x52 (by omega) (by omega) (by omega) (by omega) (by omega))
              refine zr_iload hB 13 dX4_changeOf_199 rfl ?_
              refine zr_istore hB dX4_changeOf_201 (by decide) (lv' := [(8, .int y17_22), (21, .long l43), (19, .long l42), (0, .ref (zk K 1)), (1, .int p1), (2, .int p2), (3, .int p3), (4, .long y4_33), (6, .long y6_34), (9, .long y9_18), (11, .long y11_19), (13, .long y13_35), (15, .long y15_36), (17, .int y17_22), (18, .int r28)]) rfl ?_
              refine zr_lload hB 2 dX4_changeOf_203 rfl ?_
              refine zr_lstore hB dX4_changeOf_205 (by decide) (lv' := [(9, .long l42), (8, .int y17_22), (21, .long l43), (19, .long l42), (0, .ref (zk K 1)), (1, .int p1), (2, .int p2), (3, .int p3), (4, .long y4_33), (6, .long y6_34), (11, .long y11_19), (13, .long y13_35), (15, .long y15_36), (17, .int y17_22), (18, .int r28)]) rfl ?_
              refine zr_lload hB 2 dX4_changeOf_207 rfl ?_
              refine zr_lstore hB dX4_changeOf_209 (by decide) (lv' := [(11, .long l43), (9, .long l42), (8, .int y17_22), (21, .long l43), (19, .long l42), (0, .ref (zk K 1)), (1, .int p1), (2, .int p2), (3, .int p3), (4, .long y4_33), (6, .long y6_34), (13, .long y13_35), (15, .long y15_36), (17, .int y17_22), (18, .int r28)]) rfl ?_
              refine zr_iinc hB 13 dX4_changeOf_211 rfl (by decide) rfl (by omega) (by omega) (fun x53 ex53 lv' hlv => ?_)
              obtain rfl : [(17, .int x53), (11, .long l43), (9, .long l42), (8, .int y17_22), (21, .long l43), (19, .long l42), (0, .ref (zk K 1)), (1, .int p1), (2, .int p2), (3, .int p3), (4, .long y4_33), (6, .long y6_34), (13, .long y13_35), (15, .long y15_36), (18, .int r28)] = lv' := hlv
              refine zr_goto hB dX4_changeOf_214 (tgt := 91) rfl ?_
              exact zc_sub [6, 7, 8, 9, 10, 11, 3, 2, 1, 12, 13, 0] rfl (ih91 y4_33 y6_34 y17_22 l42 l43 y13_35 y15_36 x53 (by omega) (by omega) (by omega) (by omega) (by omega))
            refine zr_icmp_eq hB dX4_changeOf_116 (tgt := 147) rfl (fun c54 => ?_) (fun c54 => ?_)
            · exact zc_sub [1, 2, 3, 4, 5, 6, 7, 8, 9, 10, 11, 12, 0] rfl (L147_37 y4_15 y6_16 y13_20 y15_21)
            refine zr_lload hB 10 dX4_changeOf_119 rfl ?_
            refine zr_iload hB 0 dX4_changeOf_121 rfl ?_
            refine zr_i2l hB dX4_changeOf_123 (fun l55 el55 => ?_)
            refine zr_laddw hB dX4_changeOf_124 (fun l56 el56 => ?_)
            refine zr_lstore hB dX4_changeOf_125 (by decide) (lv' := [(13, .long l56), (18, .int r28), (0, .ref (zk K 1)), (1, .int p1), (2, .int p2), (3, .int p3), (4, .long y4_15), (6, .long y6_16), (8, .int y8_17), (9, .long y9_18), (11, .long y11_19), (15, .long y15_21), (17, .int y17_22)]) rfl ?_
            refine zr_lload hB 6 dX4_changeOf_127 rfl ?_
            refine zr_iload hB 1 dX4_changeOf_129 rfl ?_
            refine zr_i2l hB dX4_changeOf_131 (fun l57 el57 => ?_)
            refine zr_lsubw hB dX4_changeOf_132 (fun l58 el58 => ?_)
            refine zr_lstore hB dX4_changeOf_133 (by decide) (lv' := [(4, .long l58), (13, .long l56), (18, .int r28), (0, .ref (zk K 1)), (1, .int p1), (2, .int p2), (3, .int p3), (6, .long y6_16), (8, .int y8_17), (9, .long y9_18), (11, .long y11_19), (15, .long y15_21), (17, .int y17_22)]) rfl ?_
            refine zr_lload hB 11 dX4_changeOf_135 rfl ?_
            refine zr_lconst hB dX4_changeOf_137 (m := 1) rfl (fun c59 ec59 => ?_)
            refine zr_laddw hB dX4_changeOf_138 (fun l60 el60 => ?_)
            refine zr_lstore hB dX4_changeOf_139 (by decide) (lv' := [(15, .long l60), (4, .long l58), (13, .long l56), (18, .int r28), (0, .ref (zk K 1)), (1, .int p1), (2, .int p2), (3, .int p3), (6, .long y6_16), (8, .int y8_17), (9, .long y9_18), (11, .long y11_19), (17, .int y17_22)]) rfl ?_
            refine zr_lload hB 8 dX4_changeOf_141 rfl ?_
            refine zr_lconst hB dX4_changeOf_143 (m := 1) rfl (fun c61 ec61 => ?_)
            refine zr_lsubw hB dX4_changeOf_144 (fun l62 el62 => ?_)
            refine zr_lstore hB dX4_changeOf_145 (by decide) (lv' := [(6, .long l62), (15, .long l60), (4, .long l58), (13, .long l56), (18, .int r28), (0, .ref (zk K 1)), (1, .int p1), (2, .int p2), (3, .int p3), (8, .int y8_17), (9, .long y9_18), (11, .long y11_19), (17, .int y17_22)]) rfl ?_
            exact zc_sub [5, 6, 7, 8, 2, 0, 9, 10, 11, 3, 1, 12, 4] rfl (L147_37 l58 l62 l56 l60)
        exact zc_sub [6, 7, 8, 9, 10, 11, 5, 4, 3, 2, 1, 0] rfl (L91_23 65 y4_3 y6_4 c8 c9 c10 c11 c12 x14 (by omega) (by omega) (by omega) (by omega) (by omega))
      refine zr_aload_n hB 0 dX4_changeOf_15 rfl ?_
      refine zr_iload_n hB 1 dX4_changeOf_16 rfl ?_
      refine zr_iload hB 6 dX4_changeOf_17 rfl ?_
      refine zr_aload_n hB 0 dX4_changeOf_19 rfl ?_
      refine zr_geti' hG 1 0 (σ0.1 1 0) dX4_changeOf_20 rfl wf_X4_42 rfl rfl ?_
      have b63 : 0 ≤ (σ0.1 1 0).toInt ∧ (σ0.1 1 0).toInt ≤ 63 := ⟨(hO0 1 0).1, (hO0 1 0).2.1⟩
      refine zr_callvi hG (rest := []) 1 dX4_changeOf_23 wm_X4_45 rfl rfl (c_X4_valueOn_1 K hG.2.2.2.2.2.1 σ0 p1 y8_5 (σ0.1 1 0) hO0 ) rfl rfl (Nat.le_of_ble_eq_true rfl) ⟨Nat.le_of_ble_eq_true rfl, Nat.le_of_ble_eq_true rfl, rfl, rfl⟩ (fun r64 σ65 h66 => ?_)
      obtain ⟨rfl, r64a, r64b, r64h, g67⟩ := h66
      refine zr_istore hB dX4_changeOf_26 (by decide) (lv' := [(9, .int r64), (0, .ref (zk K 1)), (1, .int p1), (2, .int p2), (3, .int p3), (4, .long y4_3), (6, .long y6_4), (8, .int y8_5)]) rfl ?_
      refine zr_lload hB 5 dX4_changeOf_28 rfl ?_
      refine zr_iload hB 0 dX4_changeOf_30 rfl ?_
      refine zr_bipush hB dX4_changeOf_32 rfl (fun c68 ec68 => ?_)
      refine zr_icmp_ne hB dX4_changeOf_34 (tgt := 41) rfl (fun c69 => ?_) (fun c69 => ?_)
      · refine zr_iload hB 0 dX4_changeOf_41 rfl ?_
        refine zr_i2l hB dX4_changeOf_43 (fun l70 el70 => ?_)
        refine zr_laddw hB dX4_changeOf_44 (fun l71 el71 => ?_)
        refine zr_lstore hB dX4_changeOf_45 (by decide) (lv' := [(4, .long l71), (9, .int r64), (0, .ref (zk K 1)), (1, .int p1), (2, .int p2), (3, .int p3), (6, .long y6_4), (8, .int y8_5)]) rfl ?_
        refine zr_lload hB 6 dX4_changeOf_47 rfl ?_
        refine zr_iload hB 1 dX4_changeOf_49 rfl ?_
        refine zr_bipush hB dX4_changeOf_51 rfl (fun c72 ec72 => ?_)
        refine zr_icmp_ne hB dX4_changeOf_53 (tgt := 60) rfl (fun c73 => ?_) (fun c73 => ?_)
        · refine zr_lconst hB dX4_changeOf_60 (m := 1) rfl (fun c74 ec74 => ?_)
          refine zr_laddw hB dX4_changeOf_61 (fun l75 el75 => ?_)
          refine zr_lstore hB dX4_changeOf_62 (by decide) (lv' := [(6, .long l75), (4, .long l71), (9, .int r64), (0, .ref (zk K 1)), (1, .int p1), (2, .int p2), (3, .int p3), (8, .int y8_5)]) rfl ?_
          refine zr_iinc hB 7 dX4_changeOf_64 rfl (by decide) rfl (by omega) (by omega) (fun x76 ex76 lv' hlv => ?_)
          obtain rfl : [(8, .int x76), (6, .long l75), (4, .long l71), (9, .int r64), (0, .ref (zk K 1)), (1, .int p1), (2, .int p2), (3, .int p3)] = lv' := hlv
          refine zr_goto hB dX4_changeOf_67 (tgt := 9) rfl ?_
          exact zc_sub [4, 5, 6, 7, 2, 1, 0] rfl (ih9 l71 l75 x76 (by omega) (by omega) (by omega))
        exfalso; omega
      refine zr_lconst hB dX4_changeOf_37 (m := 0) rfl (fun c77 ec77 => ?_)
      refine zr_goto hB dX4_changeOf_38 (tgt := 44) rfl ?_
      refine zr_laddw hB dX4_changeOf_44 (fun l78 el78 => ?_)
      refine zr_lstore hB dX4_changeOf_45 (by decide) (lv' := [(4, .long l78), (9, .int r64), (0, .ref (zk K 1)), (1, .int p1), (2, .int p2), (3, .int p3), (6, .long y6_4), (8, .int y8_5)]) rfl ?_
      refine zr_lload hB 6 dX4_changeOf_47 rfl ?_
      refine zr_iload hB 1 dX4_changeOf_49 rfl ?_
      refine zr_bipush hB dX4_changeOf_51 rfl (fun c79 ec79 => ?_)
      refine zr_icmp_ne hB dX4_changeOf_53 (tgt := 60) rfl (fun c80 => ?_) (fun c80 => ?_)
      · exfalso; omega
      refine zr_lconst hB dX4_changeOf_56 (m := 0) rfl (fun c81 ec81 => ?_)
      refine zr_goto hB dX4_changeOf_57 (tgt := 61) rfl ?_
      refine zr_laddw hB dX4_changeOf_61 (fun l82 el82 => ?_)
      refine zr_lstore hB dX4_changeOf_62 (by decide) (lv' := [(6, .long l82), (4, .long l78), (9, .int r64), (0, .ref (zk K 1)), (1, .int p1), (2, .int p2), (3, .int p3), (8, .int y8_5)]) rfl ?_
      refine zr_iinc hB 7 dX4_changeOf_64 rfl (by decide) rfl (by omega) (by omega) (fun x83 ex83 lv' hlv => ?_)
      obtain rfl : [(8, .int x83), (6, .long l82), (4, .long l78), (9, .int r64), (0, .ref (zk K 1)), (1, .int p1), (2, .int p2), (3, .int p3)] = lv' := hlv
      refine zr_goto hB dX4_changeOf_67 (tgt := 9) rfl ?_
      exact zc_sub [4, 5, 6, 7, 2, 1, 0] rfl (ih9 l78 l82 x83 (by omega) (by omega) (by omega))
  exact zc_sub [3, 4, 5, 6, 2, 1, 0] rfl (L9_6 66 c1 c2 p2 (by omega) (by omega) (by omega))

def m_X1_add_3 : zc_ms := [(3, some 0), (18, none), (19, none), (20, none)]
set_option maxHeartbeats 1000000 in
set_option maxRecDepth 100000 in
theorem c_X1_add_3 (K : zc_K) (hi : zc_inj shX K.2.2.2.1) (σ0 : zc_S) (p1 : Int32) (p2 : Int32) (p3 : Int32) (hO0 : zc_O okX σ0) (h1a : 0 ≤ p1.toInt) (h1b : p1.toInt ≤ 4) : zc_M shX K yX1_add cX1_add 4 none (zrm 0 0) σ0 [.ref (zk K 3), .int p1, .int p2, .int p3] (zc_N (fun σ9 => zc_O okX σ9 ∧ zc_Ag m_X1_add_3 σ0 σ9 ∧ ((6 ≤ (σ0.1 3 0).toInt ∧ σ9 = σ0) ∨ ((σ0.1 3 0).toInt < 6 ∧ zw_TX σ9 = zw_put (zw_TX σ0) p1.toInt p2.toInt p3.toInt)))) := by
  refine zc_start RX1 hi pfX1_add rfl (Nat.le_of_ble_eq_true rfl) ?_
  intro G hG
  have hB := hG.1
  have hA0 : zc_Ag m_X1_add_3 σ0 σ0 := zc_Ag.rf
  show zc_V 4 K G (zc_D shX K G σ0) [(0, .ref (zk K 3)), (1, .int p1), (2, .int p2), (3, .int p3)] 0 []
  refine zr_aload_n hB 0 dX1_add_0 rfl ?_
  refine zr_geti' hG 3 0 (σ0.1 3 0) dX1_add_1 rfl wf_X1_21 rfl rfl ?_
  have b1 : 0 ≤ (σ0.1 3 0).toInt ∧ (σ0.1 3 0).toInt ≤ 6 := ⟨(hO0 3 0).1, (hO0 3 0).2.1⟩
  refine zr_bipush hB dX1_add_4 rfl (fun c2 ec2 => ?_)
  refine zr_icmp_ge hB dX1_add_6 (tgt := 49) rfl (fun c3 => ?_) (fun c3 => ?_)
  · exact zr_vret hG dX1_add_49 ⟨hO0, hA0, (Or.inl ⟨by omega, rfl⟩)⟩
  refine zr_aload_n hB 0 dX1_add_9 rfl ?_
  refine zr_getr hG 3 1 dX1_add_10 rfl wf_X1_9 rfl ?_
  refine zr_aload_n hB 0 dX1_add_13 rfl ?_
  refine zr_geti' hG 3 0 (σ0.1 3 0) dX1_add_14 rfl wf_X1_21 rfl rfl ?_
  refine zr_iload_n hB 1 dX1_add_17 rfl ?_
  refine zr_iast hG 18 dX1_add_18 rfl (by omega) (by omega)  ?_
  have hOw4 := zc_O.u hO0 18 (σ0.1 3 0).toInt.toNat (v := p1) (show 0 ≤ p1.toInt by omega) (show p1.toInt ≤ 4 by omega) (Or.inr (show 0 ≤ p1.toInt by omega))
  have hAw4 := zc_Ag.u hA0 18 (σ0.1 3 0).toInt.toNat p1 rfl
  refine zr_aload_n hB 0 dX1_add_19 rfl ?_
  refine zr_getr hG 3 2 dX1_add_20 rfl wf_X1_15 rfl ?_
  refine zr_aload_n hB 0 dX1_add_23 rfl ?_
  refine zr_geti' hG 3 0 (σ0.1 3 0) dX1_add_24 rfl wf_X1_21 rfl rfl ?_
  refine zr_iload_n hB 2 dX1_add_27 rfl ?_
  refine zr_iast hG 19 dX1_add_28 rfl (by omega) (by omega)  ?_
  have hOw5 := zc_O.u hOw4 19 (σ0.1 3 0).toInt.toNat (v := p2) (zn_lo _) (zn_hi _) (Or.inr (zn_lo _))
  have hAw5 := zc_Ag.u hAw4 19 (σ0.1 3 0).toInt.toNat p2 rfl
  refine zr_aload_n hB 0 dX1_add_29 rfl ?_
  refine zr_getr hG 3 3 dX1_add_30 rfl wf_X1_18 rfl ?_
  refine zr_aload_n hB 0 dX1_add_33 rfl ?_
  refine zr_geti' hG 3 0 (σ0.1 3 0) dX1_add_34 rfl wf_X1_21 rfl rfl ?_
  refine zr_iload_n hB 3 dX1_add_37 rfl ?_
  refine zr_iast hG 20 dX1_add_38 rfl (by omega) (by omega)  ?_
  have hOw6 := zc_O.u hOw5 20 (σ0.1 3 0).toInt.toNat (v := p3) (zn_lo _) (zn_hi _) (Or.inr (zn_lo _))
  have hAw6 := zc_Ag.u hAw5 20 (σ0.1 3 0).toInt.toNat p3 rfl
  refine zr_aload_n hB 0 dX1_add_39 rfl ?_
  refine zr_dup hB dX1_add_40 rfl ?_
  refine zr_geti' hG 3 0 (σ0.1 3 0) dX1_add_41 rfl wf_X1_21 rfl rfl ?_
  refine zr_iconst hB dX1_add_44 rfl (fun c7 ec7 => ?_)
  refine zr_iadd hB dX1_add_45 (by omega) (by omega) (fun x8 ex8 => ?_)
  refine zr_puti hG 3 0 dX1_add_46 rfl wp_X1_21 rfl ?_
  have hOw9 := zc_O.u hOw6 3 0 (v := x8) (show 0 ≤ x8.toInt by omega) (show x8.toInt ≤ 6 by omega) (Or.inr (show 0 ≤ x8.toInt by omega))
  have hAw9 := zc_Ag.u hAw6 3 0 x8 rfl
  exact zr_vret hG dX1_add_49 ⟨hOw9, hAw9, (Or.inr ⟨by omega, zw_TX_put (by omega) (by omega)⟩)⟩

def m_X1_add_8 : zc_ms := [(8, some 0), (40, none), (41, none), (42, none)]
set_option maxHeartbeats 1000000 in
set_option maxRecDepth 100000 in
theorem c_X1_add_8 (K : zc_K) (hi : zc_inj shX K.2.2.2.1) (σ0 : zc_S) (p1 : Int32) (p2 : Int32) (p3 : Int32) (hO0 : zc_O okX σ0) (h1a : 0 ≤ p1.toInt) (h1b : p1.toInt ≤ 4) : zc_M shX K yX1_add cX1_add 4 none (zrm 0 0) σ0 [.ref (zk K 8), .int p1, .int p2, .int p3] (zc_N (fun σ9 => zc_O okX σ9 ∧ zc_Ag m_X1_add_8 σ0 σ9 ∧ ((6 ≤ (σ0.1 8 0).toInt ∧ σ9 = σ0) ∨ ((σ0.1 8 0).toInt < 6 ∧ zw_LX σ9 = zw_put (zw_LX σ0) p1.toInt p2.toInt p3.toInt)))) := by
  refine zc_start RX1 hi pfX1_add rfl (Nat.le_of_ble_eq_true rfl) ?_
  intro G hG
  have hB := hG.1
  have hA0 : zc_Ag m_X1_add_8 σ0 σ0 := zc_Ag.rf
  show zc_V 4 K G (zc_D shX K G σ0) [(0, .ref (zk K 8)), (1, .int p1), (2, .int p2), (3, .int p3)] 0 []
  refine zr_aload_n hB 0 dX1_add_0 rfl ?_
  refine zr_geti' hG 8 0 (σ0.1 8 0) dX1_add_1 rfl wf_X1_21 rfl rfl ?_
  have b1 : 0 ≤ (σ0.1 8 0).toInt ∧ (σ0.1 8 0).toInt ≤ 6 := ⟨(hO0 8 0).1, (hO0 8 0).2.1⟩
  refine zr_bipush hB dX1_add_4 rfl (fun c2 ec2 => ?_)
  refine zr_icmp_ge hB dX1_add_6 (tgt := 49) rfl (fun c3 => ?_) (fun c3 => ?_)
  · exact zr_vret hG dX1_add_49 ⟨hO0, hA0, (Or.inl ⟨by omega, rfl⟩)⟩
  refine zr_aload_n hB 0 dX1_add_9 rfl ?_
  refine zr_getr hG 8 1 dX1_add_10 rfl wf_X1_9 rfl ?_
  refine zr_aload_n hB 0 dX1_add_13 rfl ?_
  refine zr_geti' hG 8 0 (σ0.1 8 0) dX1_add_14 rfl wf_X1_21 rfl rfl ?_
  refine zr_iload_n hB 1 dX1_add_17 rfl ?_
  refine zr_iast hG 40 dX1_add_18 rfl (by omega) (by omega)  ?_
  have hOw4 := zc_O.u hO0 40 (σ0.1 8 0).toInt.toNat (v := p1) (show 0 ≤ p1.toInt by omega) (show p1.toInt ≤ 4 by omega) (Or.inr (show 0 ≤ p1.toInt by omega))
  have hAw4 := zc_Ag.u hA0 40 (σ0.1 8 0).toInt.toNat p1 rfl
  refine zr_aload_n hB 0 dX1_add_19 rfl ?_
  refine zr_getr hG 8 2 dX1_add_20 rfl wf_X1_15 rfl ?_
  refine zr_aload_n hB 0 dX1_add_23 rfl ?_
  refine zr_geti' hG 8 0 (σ0.1 8 0) dX1_add_24 rfl wf_X1_21 rfl rfl ?_
  refine zr_iload_n hB 2 dX1_add_27 rfl ?_
  refine zr_iast hG 41 dX1_add_28 rfl (by omega) (by omega)  ?_
  have hOw5 := zc_O.u hOw4 41 (σ0.1 8 0).toInt.toNat (v := p2) (zn_lo _) (zn_hi _) (Or.inr (zn_lo _))
  have hAw5 := zc_Ag.u hAw4 41 (σ0.1 8 0).toInt.toNat p2 rfl
  refine zr_aload_n hB 0 dX1_add_29 rfl ?_
  refine zr_getr hG 8 3 dX1_add_30 rfl wf_X1_18 rfl ?_
  refine zr_aload_n hB 0 dX1_add_33 rfl ?_
  refine zr_geti' hG 8 0 (σ0.1 8 0) dX1_add_34 rfl wf_X1_21 rfl rfl ?_
  refine zr_iload_n hB 3 dX1_add_37 rfl ?_
  refine zr_iast hG 42 dX1_add_38 rfl (by omega) (by omega)  ?_
  have hOw6 := zc_O.u hOw5 42 (σ0.1 8 0).toInt.toNat (v := p3) (zn_lo _) (zn_hi _) (Or.inr (zn_lo _))
  have hAw6 := zc_Ag.u hAw5 42 (σ0.1 8 0).toInt.toNat p3 rfl
  refine zr_aload_n hB 0 dX1_add_39 rfl ?_
  refine zr_dup hB dX1_add_40 rfl ?_
  refine zr_geti' hG 8 0 (σ0.1 8 0) dX1_add_41 rfl wf_X1_21 rfl rfl ?_
  refine zr_iconst hB dX1_add_44 rfl (fun c7 ec7 => ?_)
  refine zr_iadd hB dX1_add_45 (by omega) (by omega) (fun x8 ex8 => ?_)
  refine zr_puti hG 8 0 dX1_add_46 rfl wp_X1_21 rfl ?_
  have hOw9 := zc_O.u hOw6 8 0 (v := x8) (show 0 ≤ x8.toInt by omega) (show x8.toInt ≤ 6 by omega) (Or.inr (show 0 ≤ x8.toInt by omega))
  have hAw9 := zc_Ag.u hAw6 8 0 x8 rfl
  exact zr_vret hG dX1_add_49 ⟨hOw9, hAw9, (Or.inr ⟨by omega, zw_LX_put (by omega) (by omega)⟩)⟩

def m_X1_copy_3_8 : zc_ms := [(3, some 0), (18, none), (19, none), (20, none)]
set_option maxHeartbeats 1000000 in
set_option maxRecDepth 100000 in
theorem c_X1_copy_3_8 (K : zc_K) (hi : zc_inj shX K.2.2.2.1) (σ0 : zc_S)  (hO0 : zc_O okX σ0)  : zc_M shX K yX1_copy cX1_copy 3 none (zrm 1 23) σ0 [.ref (zk K 3), .ref (zk K 8)] (zc_N (fun σ9 => zc_O okX σ9 ∧ zc_Ag m_X1_copy_3_8 σ0 σ9 ∧ (σ9.1 3 0).toInt = (σ0.1 8 0).toInt ∧ zw_c σ9 σ0 (σ0.1 8 0).toInt)) := by
  refine zc_start RX1 hi pfX1_copy rfl (Nat.le_of_ble_eq_true rfl) ?_
  intro G hG
  have hB := hG.1
  have hA0 : zc_Ag m_X1_copy_3_8 σ0 σ0 := zc_Ag.rf
  show zc_V 3 K G (zc_D shX K G σ0) [(0, .ref (zk K 3)), (1, .ref (zk K 8))] 0 []
  have bw3_0 : 0 ≤ (σ0.1 3 0).toInt ∧ (σ0.1 3 0).toInt ≤ 6 := ⟨(hO0 3 0).1, (hO0 3 0).2.1⟩
  have bw8_0 : 0 ≤ (σ0.1 8 0).toInt ∧ (σ0.1 8 0).toInt ≤ 6 := ⟨(hO0 8 0).1, (hO0 8 0).2.1⟩
  refine zr_aload_n hB 0 dX1_copy_0 rfl ?_
  refine zr_iconst hB dX1_copy_1 rfl (fun c1 ec1 => ?_)
  refine zr_puti hG 3 0 dX1_copy_2 rfl wp_X1_21 rfl ?_
  have hOw2 := zc_O.u hO0 3 0 (v := c1) (show 0 ≤ c1.toInt by omega) (show c1.toInt ≤ 6 by omega) (Or.inr (show 0 ≤ c1.toInt by omega))
  have hAw2 := zc_Ag.u hA0 3 0 c1 rfl
  refine zr_iconst hB dX1_copy_5 rfl (fun c3 ec3 => ?_)
  refine zr_istore_n hB dX1_copy_6 rfl (by decide) (lv' := [(2, .int c3), (0, .ref (zk K 3)), (1, .ref (zk K 8))]) rfl ?_
  have L7_9 : ∀ (n7 : Nat) (σ5 : zc_S) (y2_4 : Int32), zc_O okX σ5 → zc_Ag m_X1_copy_3_8 σ0 σ5 → 0 ≤ y2_4.toInt → y2_4.toInt ≤ 6 → (σ5.1 3 0).toInt = y2_4.toInt → y2_4.toInt ≤ (σ0.1 8 0).toInt → (σ5.1 8 0).toInt = (σ0.1 8 0).toInt → zw_c σ5 σ0 y2_4.toInt → 6 - y2_4.toInt < (n7 : Int) → zc_V 3 K G (zc_D shX K G σ5) [(0, .ref (zk K 3)), (1, .ref (zk K 8)), (2, .int y2_4)] 7 [] := by
    intro n7
    induction n7 with
    | zero => intro σ5 y2_4 hO5 hA5 y2_4a y2_4b e6 e7 e8 hcp hn7; exfalso; omega
    | succ n7 ih7 =>
      intro σ5 y2_4 hO5 hA5 y2_4a y2_4b e6 e7 e8 hcp hn7
      refine zr_iload_n hB 2 dX1_copy_7 rfl ?_
      refine zr_aload_n hB 1 dX1_copy_8 rfl ?_
      refine zr_geti' hG 8 0 (σ5.1 8 0) dX1_copy_9 rfl wf_X1_21 rfl rfl ?_
      have b10 : 0 ≤ (σ5.1 8 0).toInt ∧ (σ5.1 8 0).toInt ≤ 6 := ⟨(hO5 8 0).1, (hO5 8 0).2.1⟩
      refine zr_icmp_ge hB dX1_copy_12 (tgt := 43) rfl (fun c11 => ?_) (fun c11 => ?_)
      · exact zr_vret hG dX1_copy_43 ⟨hO5, hA5, (show (σ5.1 3 0).toInt = (σ0.1 8 0).toInt by omega), (by rw [show (σ0.1 8 0).toInt = y2_4.toInt by omega]; exact hcp)⟩
      refine zr_aload_n hB 0 dX1_copy_15 rfl ?_
      refine zr_aload_n hB 1 dX1_copy_16 rfl ?_
      refine zr_getr hG 8 1 dX1_copy_17 rfl wf_X1_9 rfl ?_
      refine zr_iload_n hB 2 dX1_copy_20 rfl ?_
      refine zr_iald hG 40 dX1_copy_21 rfl (by omega) (by omega) (fun x12 ex12 => ?_)
      have bx12 : 0 ≤ x12.toInt ∧ x12.toInt ≤ 4 := by rw [ex12]; exact ⟨(hO5 40 _).1, (hO5 40 _).2.1⟩
      have hl40 : x12.toInt = (σ0.1 40 y2_4.toInt.toNat).toInt := by rw [ex12, (hA5 40 _ rfl).1]
      refine zr_aload_n hB 1 dX1_copy_22 rfl ?_
      refine zr_getr hG 8 2 dX1_copy_23 rfl wf_X1_15 rfl ?_
      refine zr_iload_n hB 2 dX1_copy_26 rfl ?_
      refine zr_iald hG 41 dX1_copy_27 rfl (by omega) (by omega) (fun x13 ex13 => ?_)
      have hl41 : x13.toInt = (σ0.1 41 y2_4.toInt.toNat).toInt := by rw [ex13, (hA5 41 _ rfl).1]
      refine zr_aload_n hB 1 dX1_copy_28 rfl ?_
      refine zr_getr hG 8 3 dX1_copy_29 rfl wf_X1_18 rfl ?_
      refine zr_iload_n hB 2 dX1_copy_32 rfl ?_
      refine zr_iald hG 42 dX1_copy_33 rfl (by omega) (by omega) (fun x14 ex14 => ?_)
      have hl42 : x14.toInt = (σ0.1 42 y2_4.toInt.toNat).toInt := by rw [ex14, (hA5 42 _ rfl).1]
      refine zr_callvn hG (rest := []) 3 dX1_copy_34 wm_X1_25 rfl rfl (c_X1_add_3 K hG.2.2.2.2.2.1 σ5 x12 x13 x14 hO5 (by omega) (by omega)) rfl rfl (Nat.le_of_ble_eq_true rfl) ⟨Nat.le_of_ble_eq_true rfl, Nat.le_of_ble_eq_true rfl, rfl, rfl⟩ (fun σ16 h17 => ?_)
      obtain ⟨hO18, hAc19, g20⟩ := h17
      have hA21 := zc_Ag.tr hA5 hAc19 rfl
      have q22 : (σ16.1 8 0).toInt = (σ5.1 8 0).toInt := congrArg Int32.toInt (hAc19 8 0 rfl).1
      have hput := zw_or g20 (by omega)
      have hsz : (σ16.1 3 0).toInt = (σ5.1 3 0).toInt + 1 := congrArg Prod.fst hput
      refine zr_iinc hB 2 dX1_copy_37 rfl (by decide) rfl (by omega) (by omega) (fun x23 ex23 lv' hlv => ?_)
      obtain rfl : [(2, .int x23), (0, .ref (zk K 3)), (1, .ref (zk K 8))] = lv' := hlv
      refine zr_goto hB dX1_copy_40 (tgt := 7) rfl ?_
      have b24 : 0 ≤ (σ16.1 3 0).toInt ∧ (σ16.1 3 0).toInt ≤ 6 := ⟨(hO18 3 0).1, (hO18 3 0).2.1⟩
      have b25 : 0 ≤ (σ16.1 8 0).toInt ∧ (σ16.1 8 0).toInt ≤ 6 := ⟨(hO18 8 0).1, (hO18 8 0).2.1⟩
      exact zc_sub [1, 2, 0] rfl (ih7 σ16 x23 hO18 hA21 (by omega) (by omega) (show (σ16.1 3 0).toInt = x23.toInt by omega) (show x23.toInt ≤ (σ0.1 8 0).toInt by omega) (show (σ16.1 8 0).toInt = (σ0.1 8 0).toInt by omega) (show zw_c σ16 σ0 x23.toInt by exact zw_cu hput hcp (by omega) (by omega) (by omega) hl40 hl41 hl42) (by omega))
  exact zc_sub [1, 2, 0] rfl (L7_9 8 (zc_u σ0 3 0 c1) c3 hOw2 hAw2 (by omega) (by omega) (show c1.toInt = c3.toInt by omega) (show c3.toInt ≤ (σ0.1 8 0).toInt by omega) (show (σ0.1 8 0).toInt = (σ0.1 8 0).toInt by omega) (show zw_c (zc_u σ0 3 0 c1) σ0 c3.toInt by exact zw_c0 (by omega)) (by omega))

def m_X7_open_9 : zc_ms := [(9, some 2), (43, none)]
set_option maxHeartbeats 1000000 in
set_option maxRecDepth 100000 in
theorem c_X7_open_9 (K : zc_K) (hi : zc_inj shX K.2.2.2.1) (σ0 : zc_S) (p1 : Int32) (p2 : Int32) (hO0 : zc_O okX σ0) (h2a : 0 ≤ p2.toInt) (h2b : p2.toInt ≤ 63) : zc_M shX K yX7_open cX7_open 4 none (zrm 2 45) σ0 [.ref (zk K 9), .int p1, .int p2] (zc_N (fun σ9 => zc_O okX σ9 ∧ zc_Ag m_X7_open_9 σ0 σ9 ∧ (σ9.1 9 2).toInt = p2.toInt ∧ zc_hid ((0 ≤ p1.toInt ∧ p1.toInt ≤ 3 → ∀ t : Nat, (t : Int) ≤ p2.toInt → (σ9.1 43 t).toInt = zx_A σ0 (p1.toInt * 64 + (t : Int)).toNat p2.toInt)))) := by
  refine zc_start RX7 hi pfX7_open rfl (Nat.le_of_ble_eq_true rfl) ?_
  intro G hG
  have hB := hG.1
  have hA0 : zc_Ag m_X7_open_9 σ0 σ0 := zc_Ag.rf
  show zc_V 4 K G (zc_D shX K G σ0) [(0, .ref (zk K 9)), (1, .int p1), (2, .int p2)] 0 []
  have bw9_2 : 0 ≤ (σ0.1 9 2).toInt ∧ (σ0.1 9 2).toInt ≤ 63 := ⟨(hO0 9 2).1, (hO0 9 2).2.1⟩
  refine zr_aload_n hB 0 dX7_open_0 rfl ?_
  refine zr_iload_n hB 2 dX7_open_1 rfl ?_
  refine zr_bipush hB dX7_open_2 rfl (fun c1 ec1 => ?_)
  refine zr_callsi hG (rest := [.ref (zk K 9)]) dX7_open_4 wm_X7_19 (c_J9_min_7cf53 K hG.2.2.2.2.2.1 σ0 p2 c1 hO0 ) rfl rfl (Nat.le_of_ble_eq_true rfl) ⟨Nat.le_of_ble_eq_true rfl, Nat.le_of_ble_eq_true rfl, rfl, rfl⟩ (fun r2 σ3 h4 => ?_)
  obtain ⟨rfl, g5, g6, g7⟩ := h4
  refine zr_puti hG 9 2 dX7_open_7 rfl wp_X7_25 rfl ?_
  have hOw8 := zc_O.u hO0 9 2 (v := r2) (show 0 ≤ r2.toInt by omega) (show r2.toInt ≤ 63 by omega) (Or.inr (show 0 ≤ r2.toInt by omega))
  have hAw8 := zc_Ag.u hA0 9 2 r2 rfl
  refine zr_iconst hB dX7_open_10 rfl (fun c9 ec9 => ?_)
  refine zr_istore_n hB dX7_open_11 rfl (by decide) (lv' := [(3, .int c9), (0, .ref (zk K 9)), (1, .int p1), (2, .int p2)]) rfl ?_
  have L12_15 : ∀ (n12 : Nat) (σ11 : zc_S) (y3_10 : Int32), zc_O okX σ11 → zc_Ag m_X7_open_9 σ0 σ11 → 0 ≤ y3_10.toInt → y3_10.toInt ≤ 64 → (σ11.1 9 2).toInt = p2.toInt → 0 ≤ y3_10.toInt → y3_10.toInt ≤ p2.toInt + 1 → (zc_hid ((0 ≤ p1.toInt ∧ p1.toInt ≤ 3 → ∀ t : Nat, (t : Int) < y3_10.toInt → (σ11.1 43 t).toInt = zx_A σ0 (p1.toInt * 64 + (t : Int)).toNat p2.toInt))) → 64 - y3_10.toInt < (n12 : Int) → zc_V 4 K G (zc_D shX K G σ11) [(0, .ref (zk K 9)), (1, .int p1), (2, .int p2), (3, .int y3_10)] 12 [] := by
    intro n12
    induction n12 with
    | zero => intro σ11 y3_10 hO11 hA11 y3_10a y3_10b e12 e13 e14 hv hn12; exfalso; omega
    | succ n12 ih12 =>
      intro σ11 y3_10 hO11 hA11 y3_10a y3_10b e12 e13 e14 hv hn12
      refine zr_iload_n hB 3 dX7_open_12 rfl ?_
      refine zr_aload_n hB 0 dX7_open_13 rfl ?_
      refine zr_geti' hG 9 2 (σ11.1 9 2) dX7_open_14 rfl wf_X7_25 rfl rfl ?_
      have b16 : 0 ≤ (σ11.1 9 2).toInt ∧ (σ11.1 9 2).toInt ≤ 63 := ⟨(hO11 9 2).1, (hO11 9 2).2.1⟩
      refine zr_icmp_gt hB dX7_open_17 (tgt := 42) rfl (fun c17 => ?_) (fun c17 => ?_)
      · exact zr_vret hG dX7_open_42 ⟨hO11, hA11, (show (σ11.1 9 2).toInt = p2.toInt by omega), (fun hp t ht => hv hp t (by omega))⟩
      refine zr_aload_n hB 0 dX7_open_20 rfl ?_
      refine zr_getr hG 9 1 dX7_open_21 rfl wf_X7_9 rfl ?_
      refine zr_iload_n hB 3 dX7_open_24 rfl ?_
      refine zr_aload_n hB 0 dX7_open_25 rfl ?_
      refine zr_getr hG 9 0 dX7_open_26 rfl wf_X7_15 rfl ?_
      refine zr_iload_n hB 1 dX7_open_29 rfl ?_
      refine zr_iload_n hB 3 dX7_open_30 rfl ?_
      refine zr_iload_n hB 2 dX7_open_31 rfl ?_
      refine zr_callvi hG (rest := [.int y3_10, .ref (zk K 43)]) 1 dX7_open_32 wm_X7_29 rfl rfl (c_X4_valueOn_1 K hG.2.2.2.2.2.1 σ11 p1 y3_10 p2 hO11 ) rfl rfl (Nat.le_of_ble_eq_true rfl) ⟨Nat.le_of_ble_eq_true rfl, Nat.le_of_ble_eq_true rfl, rfl, rfl⟩ (fun r18 σ19 h20 => ?_)
      obtain ⟨rfl, r18a, r18b, r18h, g21⟩ := h20
      have hx : zc_hid (0 ≤ p1.toInt ∧ p1.toInt ≤ 3 → r18.toInt = zx_A σ0 (p1.toInt * 64 + y3_10.toInt).toNat p2.toInt) := by intro hp; have h9 := zx_or g21 (by omega); rw [zx_A.ag hA11 rfl (fun _ => rfl) (fun _ => rfl) (fun _ => rfl) (fun _ => rfl)] at h9; exact h9
      refine zr_iast hG 43 dX7_open_35 rfl (by omega) (by omega)  ?_
      have hOw22 := zc_O.u hO11 43 y3_10.toInt.toNat (v := r18) (show (-4) ≤ r18.toInt by omega) (show r18.toInt ≤ 999 by omega) (show r18.toInt = (-4) ∨ 0 ≤ r18.toInt by omega)
      have hAw22 := zc_Ag.u hA11 43 y3_10.toInt.toNat r18 rfl
      refine zr_iinc hB 3 dX7_open_36 rfl (by decide) rfl (by omega) (by omega) (fun x23 ex23 lv' hlv => ?_)
      obtain rfl : [(3, .int x23), (0, .ref (zk K 9)), (1, .int p1), (2, .int p2)] = lv' := hlv
      refine zr_goto hB dX7_open_39 (tgt := 12) rfl ?_
      exact zc_sub [1, 2, 3, 0] rfl (ih12 (zc_u σ11 43 y3_10.toInt.toNat r18) x23 hOw22 hAw22 (by omega) (by omega) (show (σ11.1 9 2).toInt = p2.toInt by omega) (show 0 ≤ x23.toInt by omega) (show x23.toInt ≤ p2.toInt + 1 by omega) (show zc_hid ((0 ≤ p1.toInt ∧ p1.toInt ≤ 3 → ∀ t : Nat, (t : Int) < x23.toInt → ((zc_u σ11 43 y3_10.toInt.toNat r18).1 43 t).toInt = zx_A σ0 (p1.toInt * 64 + (t : Int)).toNat p2.toInt)) by intro hp t ht; rw [zc_u_at]; unfold upd; by_cases h9 : t = y3_10.toInt.toNat; (rw [if_pos h9, h9, show ((y3_10.toInt.toNat : Nat) : Int) = y3_10.toInt by omega]; exact hx hp); (rw [if_neg h9]; exact hv hp t (by omega))) (by omega))
  exact zc_sub [1, 2, 3, 0] rfl (L12_15 66 (zc_u σ0 9 2 r2) c9 hOw8 hAw8 (by omega) (by omega) (show r2.toInt = p2.toInt by omega) (show 0 ≤ c9.toInt by omega) (show c9.toInt ≤ p2.toInt + 1 by omega) (show zc_hid ((0 ≤ p1.toInt ∧ p1.toInt ≤ 3 → ∀ t : Nat, (t : Int) < c9.toInt → ((zc_u σ0 9 2 r2).1 43 t).toInt = zx_A σ0 (p1.toInt * 64 + (t : Int)).toNat p2.toInt)) by intro _ t ht; exfalso; omega) (by omega))

def m_X7_open_10 : zc_ms := [(10, some 2), (44, none)]
set_option maxHeartbeats 1000000 in
set_option maxRecDepth 100000 in
theorem c_X7_open_10 (K : zc_K) (hi : zc_inj shX K.2.2.2.1) (σ0 : zc_S) (p1 : Int32) (p2 : Int32) (hO0 : zc_O okX σ0) (h2a : 0 ≤ p2.toInt) (h2b : p2.toInt ≤ 63) : zc_M shX K yX7_open cX7_open 4 none (zrm 2 45) σ0 [.ref (zk K 10), .int p1, .int p2] (zc_N (fun σ9 => zc_O okX σ9 ∧ zc_Ag m_X7_open_10 σ0 σ9)) := by
  refine zc_start RX7 hi pfX7_open rfl (Nat.le_of_ble_eq_true rfl) ?_
  intro G hG
  have hB := hG.1
  have hA0 : zc_Ag m_X7_open_10 σ0 σ0 := zc_Ag.rf
  show zc_V 4 K G (zc_D shX K G σ0) [(0, .ref (zk K 10)), (1, .int p1), (2, .int p2)] 0 []
  refine zr_aload_n hB 0 dX7_open_0 rfl ?_
  refine zr_iload_n hB 2 dX7_open_1 rfl ?_
  refine zr_bipush hB dX7_open_2 rfl (fun c1 ec1 => ?_)
  refine zr_callsi hG (rest := [.ref (zk K 10)]) dX7_open_4 wm_X7_19 (c_J9_min_7cf53 K hG.2.2.2.2.2.1 σ0 p2 c1 hO0 ) rfl rfl (Nat.le_of_ble_eq_true rfl) ⟨Nat.le_of_ble_eq_true rfl, Nat.le_of_ble_eq_true rfl, rfl, rfl⟩ (fun r2 σ3 h4 => ?_)
  obtain ⟨rfl, g5, g6, g7⟩ := h4
  refine zr_puti hG 10 2 dX7_open_7 rfl wp_X7_25 rfl ?_
  have hOw8 := zc_O.u hO0 10 2 (v := r2) (show 0 ≤ r2.toInt by omega) (show r2.toInt ≤ 63 by omega) (Or.inr (show 0 ≤ r2.toInt by omega))
  have hAw8 := zc_Ag.u hA0 10 2 r2 rfl
  refine zr_iconst hB dX7_open_10 rfl (fun c9 ec9 => ?_)
  refine zr_istore_n hB dX7_open_11 rfl (by decide) (lv' := [(3, .int c9), (0, .ref (zk K 10)), (1, .int p1), (2, .int p2)]) rfl ?_
  have L12_12 : ∀ (n12 : Nat) (σ11 : zc_S) (y3_10 : Int32), zc_O okX σ11 → zc_Ag m_X7_open_10 σ0 σ11 → 0 ≤ y3_10.toInt → y3_10.toInt ≤ 64 → 64 - y3_10.toInt < (n12 : Int) → zc_V 4 K G (zc_D shX K G σ11) [(0, .ref (zk K 10)), (1, .int p1), (2, .int p2), (3, .int y3_10)] 12 [] := by
    intro n12
    induction n12 with
    | zero => intro σ11 y3_10 hO11 hA11 y3_10a y3_10b hn12; exfalso; omega
    | succ n12 ih12 =>
      intro σ11 y3_10 hO11 hA11 y3_10a y3_10b hn12
      refine zr_iload_n hB 3 dX7_open_12 rfl ?_
      refine zr_aload_n hB 0 dX7_open_13 rfl ?_
      refine zr_geti' hG 10 2 (σ11.1 10 2) dX7_open_14 rfl wf_X7_25 rfl rfl ?_
      have b13 : 0 ≤ (σ11.1 10 2).toInt ∧ (σ11.1 10 2).toInt ≤ 63 := ⟨(hO11 10 2).1, (hO11 10 2).2.1⟩
      refine zr_icmp_gt hB dX7_open_17 (tgt := 42) rfl (fun c14 => ?_) (fun c14 => ?_)
      · exact zr_vret hG dX7_open_42 ⟨hO11, hA11⟩
      refine zr_aload_n hB 0 dX7_open_20 rfl ?_
      refine zr_getr hG 10 1 dX7_open_21 rfl wf_X7_9 rfl ?_
      refine zr_iload_n hB 3 dX7_open_24 rfl ?_
      refine zr_aload_n hB 0 dX7_open_25 rfl ?_
      refine zr_getr hG 10 0 dX7_open_26 rfl wf_X7_15 rfl ?_
      refine zr_iload_n hB 1 dX7_open_29 rfl ?_
      refine zr_iload_n hB 3 dX7_open_30 rfl ?_
      refine zr_iload_n hB 2 dX7_open_31 rfl ?_
      refine zr_callvi hG (rest := [.int y3_10, .ref (zk K 44)]) 1 dX7_open_32 wm_X7_29 rfl rfl (c_X4_valueOn_1 K hG.2.2.2.2.2.1 σ11 p1 y3_10 p2 hO11 ) rfl rfl (Nat.le_of_ble_eq_true rfl) ⟨Nat.le_of_ble_eq_true rfl, Nat.le_of_ble_eq_true rfl, rfl, rfl⟩ (fun r15 σ16 h17 => ?_)
      obtain ⟨rfl, r15a, r15b, r15h, g18⟩ := h17
      refine zr_iast hG 44 dX7_open_35 rfl (by omega) (by omega)  ?_
      have hOw19 := zc_O.u hO11 44 y3_10.toInt.toNat (v := r15) (show (-4) ≤ r15.toInt by omega) (show r15.toInt ≤ 999 by omega) (show r15.toInt = (-4) ∨ 0 ≤ r15.toInt by omega)
      have hAw19 := zc_Ag.u hA11 44 y3_10.toInt.toNat r15 rfl
      refine zr_iinc hB 3 dX7_open_36 rfl (by decide) rfl (by omega) (by omega) (fun x20 ex20 lv' hlv => ?_)
      obtain rfl : [(3, .int x20), (0, .ref (zk K 10)), (1, .int p1), (2, .int p2)] = lv' := hlv
      refine zr_goto hB dX7_open_39 (tgt := 12) rfl ?_
      exact zc_sub [1, 2, 3, 0] rfl (ih12 (zc_u σ11 44 y3_10.toInt.toNat r15) x20 hOw19 hAw19 (by omega) (by omega) (by omega))
  exact zc_sub [1, 2, 3, 0] rfl (L12_12 66 (zc_u σ0 10 2 r2) c9 hOw8 hAw8 (by omega) (by omega) (by omega))

set_option maxHeartbeats 1000000 in
set_option maxRecDepth 100000 in
theorem c_X7_levelAfter (K : zc_K) (hi : zc_inj shX K.2.2.2.1) (σ0 : zc_S) (p0 : Int32) (p1 : Int32) (p2 : Int64) (p4 : Int64) (p6 : Int32) (hO0 : zc_O okX σ0)  : zc_M shX K yX7_levelAfter cX7_levelAfter 7 (some .long) (zrm 1 25) σ0 [.int p0, .int p1, .long p2, .long p4, .int p6] (zc_J (fun r9 σ9 => σ0 = σ9)) := by
  refine zc_start RX7 hi pfX7_levelAfter rfl (Nat.le_of_ble_eq_true rfl) ?_
  intro G hG
  have hB := hG.1
  show zc_V 7 K G (zc_D shX K G σ0) [(0, .int p0), (1, .int p1), (2, .long p2), (4, .long p4), (6, .int p6)] 0 []
  refine zr_iload_n hB 1 dX7_levelAfter_0 rfl ?_
  refine zr_bipush hB dX7_levelAfter_1 rfl (fun c1 ec1 => ?_)
  refine zr_icmp_ne hB dX7_levelAfter_3 (tgt := 11) rfl (fun c2 => ?_) (fun c2 => ?_)
  · refine zr_iload hB 4 dX7_levelAfter_11 rfl ?_
    refine zr_if_ne hB dX7_levelAfter_13 (tgt := 23) rfl (fun c3 => ?_) (fun c3 => ?_)
    · refine zr_iload_n hB 0 dX7_levelAfter_23 rfl ?_
      have v5 := And.intro (zn_lo p0) (zn_hi p0)
      refine zr_i2l hB dX7_levelAfter_24 (fun l4 el4 => ?_)
      refine zr_ldc2 hB dX7_levelAfter_25 wc_X7_63 (n := 100) rfl (fun c6 ec6 => ?_)
      refine zr_lmulw hB dX7_levelAfter_28 (fun l7 el7 => ?_)
      refine zr_iload_n hB 1 dX7_levelAfter_29 rfl ?_
      have v9 := And.intro (zn_lo p1) (zn_hi p1)
      refine zr_i2l hB dX7_levelAfter_30 (fun l8 el8 => ?_)
      refine zr_lmulw hB dX7_levelAfter_31 (fun l10 el10 => ?_)
      refine zr_bipush hB dX7_levelAfter_32 rfl (fun c11 ec11 => ?_)
      refine zr_iload_n hB 0 dX7_levelAfter_34 rfl ?_
      refine zr_isubw hB dX7_levelAfter_35 (fun x12 ex12 => ?_)
      have v14 := And.intro (zn_lo x12) (zn_hi x12)
      refine zr_i2l hB dX7_levelAfter_36 (fun l13 el13 => ?_)
      refine zr_lload_n hB 2 dX7_levelAfter_37 rfl ?_
      refine zr_lload hB 3 dX7_levelAfter_38 rfl ?_
      refine zr_laddw hB dX7_levelAfter_40 (fun l15 el15 => ?_)
      refine zr_lmulw hB dX7_levelAfter_41 (fun l16 el16 => ?_)
      refine zr_laddw hB dX7_levelAfter_42 (fun l17 el17 => ?_)
      refine zr_ldc2 hB dX7_levelAfter_43 wc_X7_65 (n := 10) rfl (fun c18 ec18 => ?_)
      refine zr_callsl hG (rest := []) dX7_levelAfter_46 wm_X7_67 (c_J9_floorDiv_f86c9 K hG.2.2.2.2.2.1 σ0 l17 c18 hO0 (by omega)) rfl rfl (Nat.le_of_ble_eq_true rfl) ⟨Nat.le_of_ble_eq_true rfl, Nat.le_of_ble_eq_true rfl, rfl, rfl⟩ (fun r19 σ20 h21 => ?_)
      obtain rfl := h21
      exact zr_lret hG dX7_levelAfter_49 rfl
    refine zr_ldc2 hB dX7_levelAfter_16 wc_X7_63 (n := 100) rfl (fun c22 ec22 => ?_)
    refine zr_iload_n hB 1 dX7_levelAfter_19 rfl ?_
    have v24 := And.intro (zn_lo p1) (zn_hi p1)
    refine zr_i2l hB dX7_levelAfter_20 (fun l23 el23 => ?_)
    refine zr_lmulw hB dX7_levelAfter_21 (fun l25 el25 => ?_)
    exact zr_lret hG dX7_levelAfter_22 rfl
  refine zr_lload_n hB 2 dX7_levelAfter_6 rfl ?_
  refine zr_lload hB 3 dX7_levelAfter_7 rfl ?_
  refine zr_laddw hB dX7_levelAfter_9 (fun l26 el26 => ?_)
  exact zr_lret hG dX7_levelAfter_10 rfl

set_option maxHeartbeats 1000000 in
set_option maxRecDepth 100000 in
theorem c_X7_slopeAfter (K : zc_K) (hi : zc_inj shX K.2.2.2.1) (σ0 : zc_S) (p0 : Int32) (p1 : Int32) (p2 : Int64) (p4 : Int64) (p6 : Int32) (hO0 : zc_O okX σ0)  : zc_M shX K yX7_slopeAfter cX7_slopeAfter 7 (some .long) (zrm 1 25) σ0 [.int p0, .int p1, .long p2, .long p4, .int p6] (zc_J (fun r9 σ9 => σ0 = σ9)) := by
  refine zc_start RX7 hi pfX7_slopeAfter rfl (Nat.le_of_ble_eq_true rfl) ?_
  intro G hG
  have hB := hG.1
  show zc_V 7 K G (zc_D shX K G σ0) [(0, .int p0), (1, .int p1), (2, .long p2), (4, .long p4), (6, .int p6)] 0 []
  refine zr_iload_n hB 1 dX7_slopeAfter_0 rfl ?_
  refine zr_bipush hB dX7_slopeAfter_1 rfl (fun c1 ec1 => ?_)
  refine zr_icmp_eq hB dX7_slopeAfter_3 (tgt := 11) rfl (fun c2 => ?_) (fun c2 => ?_)
  · refine zr_lload hB 3 dX7_slopeAfter_11 rfl ?_
    exact zr_lret hG dX7_slopeAfter_13 rfl
  refine zr_iload hB 4 dX7_slopeAfter_6 rfl ?_
  refine zr_if_ne hB dX7_slopeAfter_8 (tgt := 14) rfl (fun c3 => ?_) (fun c3 => ?_)
  · refine zr_iload_n hB 0 dX7_slopeAfter_14 rfl ?_
    have v5 := And.intro (zn_lo p0) (zn_hi p0)
    refine zr_i2l hB dX7_slopeAfter_15 (fun l4 el4 => ?_)
    refine zr_lload_n hB 2 dX7_slopeAfter_16 rfl ?_
    refine zr_lmulw hB dX7_slopeAfter_17 (fun l6 el6 => ?_)
    refine zr_bipush hB dX7_slopeAfter_18 rfl (fun c7 ec7 => ?_)
    refine zr_iload_n hB 0 dX7_slopeAfter_20 rfl ?_
    refine zr_isubw hB dX7_slopeAfter_21 (fun x8 ex8 => ?_)
    have v10 := And.intro (zn_lo x8) (zn_hi x8)
    refine zr_i2l hB dX7_slopeAfter_22 (fun l9 el9 => ?_)
    refine zr_lload hB 3 dX7_slopeAfter_23 rfl ?_
    refine zr_lmulw hB dX7_slopeAfter_25 (fun l11 el11 => ?_)
    refine zr_laddw hB dX7_slopeAfter_26 (fun l12 el12 => ?_)
    refine zr_ldc2 hB dX7_slopeAfter_27 wc_X7_65 (n := 10) rfl (fun c13 ec13 => ?_)
    refine zr_callsl hG (rest := []) dX7_slopeAfter_30 wm_X7_67 (c_J9_floorDiv_f86c9 K hG.2.2.2.2.2.1 σ0 l12 c13 hO0 (by omega)) rfl rfl (Nat.le_of_ble_eq_true rfl) ⟨Nat.le_of_ble_eq_true rfl, Nat.le_of_ble_eq_true rfl, rfl, rfl⟩ (fun r14 σ15 h16 => ?_)
    obtain rfl := h16
    exact zr_lret hG dX7_slopeAfter_33 rfl
  refine zr_lload hB 3 dX7_slopeAfter_11 rfl ?_
  exact zr_lret hG dX7_slopeAfter_13 rfl

set_option maxHeartbeats 1000000 in
set_option maxRecDepth 100000 in
theorem c_X7_toldByStep (K : zc_K) (hi : zc_inj shX K.2.2.2.1) (σ0 : zc_S) (p0 : Int64) (p2 : Int64) (p4 : Int32) (hO0 : zc_O okX σ0)  : zc_M shX K yX7_toldByStep cX7_toldByStep 7 (some .int) (zrm 1 25) σ0 [.long p0, .long p2, .int p4] (zc_I (fun r9 σ9 => σ0 = σ9 ∧ 0 ≤ r9.toInt ∧ r9.toInt ≤ 999)) := by
  refine zc_start RX7 hi pfX7_toldByStep rfl (Nat.le_of_ble_eq_true rfl) ?_
  intro G hG
  have hB := hG.1
  show zc_V 7 K G (zc_D shX K G σ0) [(0, .long p0), (2, .long p2), (4, .int p4)] 0 []
  refine zr_lload_n hB 0 dX7_toldByStep_0 rfl ?_
  refine zr_iload hB 2 dX7_toldByStep_1 rfl ?_
  have v2 := And.intro (zn_lo p4) (zn_hi p4)
  refine zr_i2l hB dX7_toldByStep_3 (fun l1 el1 => ?_)
  refine zr_lload_n hB 1 dX7_toldByStep_4 rfl ?_
  refine zr_lmulw hB dX7_toldByStep_5 (fun l3 el3 => ?_)
  refine zr_laddw hB dX7_toldByStep_6 (fun l4 el4 => ?_)
  refine zr_ldc2 hB dX7_toldByStep_7 wc_X7_63 (n := 100) rfl (fun c5 ec5 => ?_)
  refine zr_callsl hG (rest := []) dX7_toldByStep_10 wm_X7_67 (c_J9_floorDiv_f86c9 K hG.2.2.2.2.2.1 σ0 l4 c5 hO0 (by omega)) rfl rfl (Nat.le_of_ble_eq_true rfl) ⟨Nat.le_of_ble_eq_true rfl, Nat.le_of_ble_eq_true rfl, rfl, rfl⟩ (fun r6 σ7 h8 => ?_)
  obtain rfl := h8
  refine zr_lstore hB dX7_toldByStep_13 (by decide) (lv' := [(5, .long r6), (0, .long p0), (2, .long p2), (4, .int p4)]) rfl ?_
  refine zr_lconst hB dX7_toldByStep_15 (m := 0) rfl (fun c9 ec9 => ?_)
  refine zr_ldc2 hB dX7_toldByStep_16 wc_X7_71 (n := 999) rfl (fun c10 ec10 => ?_)
  refine zr_lload hB 0 dX7_toldByStep_19 rfl ?_
  refine zr_callsl hG (rest := [.long c9]) dX7_toldByStep_21 wm_X7_73 (c_J9_min_f86c9 K hG.2.2.2.2.2.1 σ0 c10 r6 hO0 ) rfl rfl (Nat.le_of_ble_eq_true rfl) ⟨Nat.le_of_ble_eq_true rfl, Nat.le_of_ble_eq_true rfl, rfl, rfl⟩ (fun r11 σ12 h13 => ?_)
  obtain ⟨rfl, g14, g15, g16⟩ := h13
  refine zr_callsl hG (rest := []) dX7_toldByStep_24 wm_X7_75 (c_J9_max_f86c9 K hG.2.2.2.2.2.1 σ0 c9 r11 hO0 ) rfl rfl (Nat.le_of_ble_eq_true rfl) ⟨Nat.le_of_ble_eq_true rfl, Nat.le_of_ble_eq_true rfl, rfl, rfl⟩ (fun r17 σ18 h19 => ?_)
  obtain ⟨rfl, g20, g21, g22⟩ := h19
  refine zr_l2i hB dX7_toldByStep_27 (by omega) (by omega) (fun x23 ex23 => ?_)
  exact zr_iret hG dX7_toldByStep_28 ⟨rfl, by omega, by omega⟩

set_option maxHeartbeats 1000000 in
set_option maxRecDepth 100000 in
theorem c_X7_bySame_9 (K : zc_K) (hi : zc_inj shX K.2.2.2.1) (σ0 : zc_S) (p1 : Int32) (p2 : Int32) (hO0 : zc_O okX σ0) (h2a : 0 ≤ p2.toInt) (h2b : p2.toInt ≤ 14) : zc_M shX K yX7_bySame cX7_bySame 4 (some .int) (zrm 0 0) σ0 [.ref (zk K 9), .int p1, .int p2] (zc_I (fun r9 σ9 => σ0 = σ9 ∧ (-4) ≤ r9.toInt ∧ r9.toInt ≤ 999 ∧ (r9.toInt = (-4) ∨ 0 ≤ r9.toInt) ∧ zc_hid ((1 ≤ p1.toInt → zp_o r9.toInt (zp_S (zp_v σ0) p1.toInt (σ0.1 9 2).toInt 78 ((σ0.1 9 2).toInt + p2.toInt - p1.toInt)))))) := by
  refine zc_start RX7 hi pfX7_bySame rfl (Nat.le_of_ble_eq_true rfl) ?_
  intro G hG
  have hB := hG.1
  show zc_V 4 K G (zc_D shX K G σ0) [(0, .ref (zk K 9)), (1, .int p1), (2, .int p2)] 0 []
  have bw9_2 : 0 ≤ (σ0.1 9 2).toInt ∧ (σ0.1 9 2).toInt ≤ 63 := ⟨(hO0 9 2).1, (hO0 9 2).2.1⟩
  refine zr_aload_n hB 0 dX7_bySame_0 rfl ?_
  refine zr_geti' hG 9 2 (σ0.1 9 2) dX7_bySame_1 rfl wf_X7_25 rfl rfl ?_
  refine zr_iload_n hB 2 dX7_bySame_4 rfl ?_
  refine zr_iadd hB dX7_bySame_5 (by omega) (by omega) (fun x1 ex1 => ?_)
  refine zr_iload_n hB 1 dX7_bySame_6 rfl ?_
  refine zr_isubw hB dX7_bySame_7 (fun x2 ex2 => ?_)
  refine zr_istore_n hB dX7_bySame_8 rfl (by decide) (lv' := [(3, .int x2), (0, .ref (zk K 9)), (1, .int p1), (2, .int p2)]) rfl ?_
  have L9_4 : ∀ (n9 : Nat) (y3_3 : Int32), -2147483648 ≤ y3_3.toInt → y3_3.toInt ≤ 2147483647 → (zc_hid ((1 ≤ p1.toInt → (zp_S (zp_v σ0) p1.toInt (σ0.1 9 2).toInt 78 ((σ0.1 9 2).toInt + p2.toInt - p1.toInt) ↔ zp_S (zp_v σ0) p1.toInt (σ0.1 9 2).toInt (y3_3.toInt + 1).toNat y3_3.toInt)))) → y3_3.toInt + 2147483648 < (n9 : Int) → zc_V 4 K G (zc_D shX K G σ0) [(0, .ref (zk K 9)), (1, .int p1), (2, .int p2), (3, .int y3_3)] 9 [] := by
    intro n9
    induction n9 with
    | zero => intro y3_3 fa fb hS hn9; have vy3_3 := And.intro (zn_lo y3_3) (zn_hi y3_3); exfalso; omega
    | succ n9 ih9 =>
      intro y3_3 fa fb hS hn9
      have vy3_3 := And.intro (zn_lo y3_3) (zn_hi y3_3)
      refine zr_iload_n hB 3 dX7_bySame_9 rfl ?_
      refine zr_if_lt hB dX7_bySame_10 (tgt := 50) rfl (fun c5 => ?_) (fun c5 => ?_)
      · refine zr_bipush hB dX7_bySame_50 rfl (fun c6 ec6 => ?_)
        exact zr_iret hG dX7_bySame_52 ⟨rfl, by omega, by omega, by omega, (fun hn => by first | (exfalso; omega) | exact zp_o.n (by omega) (fun h9 => zp_Sn (by omega) ((hS hn).mp h9)))⟩
      refine zr_iload_n hB 1 dX7_bySame_13 rfl ?_
      refine zr_if_le hB dX7_bySame_14 (tgt := 50) rfl (fun c7 => ?_) (fun c7 => ?_)
      · refine zr_bipush hB dX7_bySame_50 rfl (fun c8 ec8 => ?_)
        exact zr_iret hG dX7_bySame_52 ⟨rfl, by omega, by omega, by omega, (fun hn => by first | (exfalso; omega) | exact zp_o.n (by omega) (fun h9 => zp_Sn (by omega) ((hS hn).mp h9)))⟩
      refine zr_iload_n hB 3 dX7_bySame_17 rfl ?_
      refine zr_aload_n hB 0 dX7_bySame_18 rfl ?_
      refine zr_geti' hG 9 2 (σ0.1 9 2) dX7_bySame_19 rfl wf_X7_25 rfl rfl ?_
      refine zr_icmp_gt hB dX7_bySame_22 (tgt := 43) rfl (fun c9 => ?_) (fun c9 => ?_)
      · refine zr_iload_n hB 3 dX7_bySame_43 rfl ?_
        refine zr_iload_n hB 1 dX7_bySame_44 rfl ?_
        have v11 := And.intro (zn_lo y3_3) (zn_hi y3_3)
        have v12 := And.intro (zn_lo p1) (zn_hi p1)
        refine zr_isub hB dX7_bySame_45 (by omega) (by omega) (fun x10 ex10 => ?_)
        refine zr_istore_n hB dX7_bySame_46 rfl (by decide) (lv' := [(3, .int x10), (0, .ref (zk K 9)), (1, .int p1), (2, .int p2)]) rfl ?_
        refine zr_goto hB dX7_bySame_47 (tgt := 9) rfl ?_
        exact zc_sub [1, 2, 3, 0] rfl (ih9 x10 (show -2147483648 ≤ x10.toInt by exact zn_lo _) (show x10.toInt ≤ 2147483647 by exact zn_hi _) (show zc_hid ((1 ≤ p1.toInt → (zp_S (zp_v σ0) p1.toInt (σ0.1 9 2).toInt 78 ((σ0.1 9 2).toInt + p2.toInt - p1.toInt) ↔ zp_S (zp_v σ0) p1.toInt (σ0.1 9 2).toInt (x10.toInt + 1).toNat x10.toInt))) by intro hn; exact (hS hn).trans (zp_St hn (by omega) (fun h9 => by omega) (by omega))) (show x10.toInt + 2147483648 < (n9 : Int) by omega))
      refine zr_aload_n hB 0 dX7_bySame_25 rfl ?_
      refine zr_getr hG 9 1 dX7_bySame_26 rfl wf_X7_9 rfl ?_
      refine zr_iload_n hB 3 dX7_bySame_29 rfl ?_
      refine zr_iald hG 43 dX7_bySame_30 rfl (by omega) (by omega) (fun x13 ex13 => ?_)
      have bx13 : (-4) ≤ x13.toInt ∧ x13.toInt ≤ 999 ∧ (x13.toInt = (-4) ∨ 0 ≤ x13.toInt) := by rw [ex13]; exact hO0 43 _
      refine zr_bipush hB dX7_bySame_31 rfl (fun c14 ec14 => ?_)
      refine zr_icmp_eq hB dX7_bySame_33 (tgt := 43) rfl (fun c15 => ?_) (fun c15 => ?_)
      · refine zr_iload_n hB 3 dX7_bySame_43 rfl ?_
        refine zr_iload_n hB 1 dX7_bySame_44 rfl ?_
        have v17 := And.intro (zn_lo p1) (zn_hi p1)
        refine zr_isub hB dX7_bySame_45 (by omega) (by omega) (fun x16 ex16 => ?_)
        refine zr_istore_n hB dX7_bySame_46 rfl (by decide) (lv' := [(3, .int x16), (0, .ref (zk K 9)), (1, .int p1), (2, .int p2)]) rfl ?_
        refine zr_goto hB dX7_bySame_47 (tgt := 9) rfl ?_
        exact zc_sub [1, 2, 3, 0] rfl (ih9 x16 (show -2147483648 ≤ x16.toInt by exact zn_lo _) (show x16.toInt ≤ 2147483647 by exact zn_hi _) (show zc_hid ((1 ≤ p1.toInt → (zp_S (zp_v σ0) p1.toInt (σ0.1 9 2).toInt 78 ((σ0.1 9 2).toInt + p2.toInt - p1.toInt) ↔ zp_S (zp_v σ0) p1.toInt (σ0.1 9 2).toInt (x16.toInt + 1).toNat x16.toInt))) by intro hn; exact (hS hn).trans (zp_St hn (by omega) (fun h9 => h9.2 (show (σ0.1 43 y3_3.toInt.toNat).toInt = -4 by rw [← ex13]; omega)) (by omega))) (show x16.toInt + 2147483648 < (n9 : Int) by omega))
      refine zr_aload_n hB 0 dX7_bySame_36 rfl ?_
      refine zr_getr hG 9 1 dX7_bySame_37 rfl wf_X7_9 rfl ?_
      refine zr_iload_n hB 3 dX7_bySame_40 rfl ?_
      refine zr_iald hG 43 dX7_bySame_41 rfl (by omega) (by omega) (fun x18 ex18 => ?_)
      obtain rfl : x13 = x18 := ex13.trans ex18.symm
      exact zr_iret hG dX7_bySame_42 ⟨rfl, by omega, by omega, by omega, (fun hn => zp_o.y (by have hqx13 := congrArg Int32.toInt ex13; omega) ((hS hn).mpr (zp_Sy (by omega) (by omega) (show ¬ (σ0.1 43 y3_3.toInt.toNat).toInt = -4 by rw [← ex13]; omega))))⟩
  have v19 := And.intro (zn_lo x2) (zn_hi x2)
  exact zc_sub [1, 2, 3, 0] rfl (L9_4 4294967298 x2 (show -2147483648 ≤ x2.toInt by exact zn_lo _) (show x2.toInt ≤ 2147483647 by exact zn_hi _) (show zc_hid ((1 ≤ p1.toInt → (zp_S (zp_v σ0) p1.toInt (σ0.1 9 2).toInt 78 ((σ0.1 9 2).toInt + p2.toInt - p1.toInt) ↔ zp_S (zp_v σ0) p1.toInt (σ0.1 9 2).toInt (x2.toInt + 1).toNat x2.toInt))) by intro hn; have q9 := zn_sub3 ex2; have v9 := zn_hi p1; rw [show x2.toInt = (σ0.1 9 2).toInt + p2.toInt - p1.toInt by omega]; exact zp_Sf hn _ _ _ (by omega) (by omega)) (show x2.toInt + 2147483648 < ((4294967298 : Nat) : Int) by omega))

set_option maxHeartbeats 1000000 in
set_option maxRecDepth 100000 in
theorem c_X7_byMean_9 (K : zc_K) (hi : zc_inj shX K.2.2.2.1) (σ0 : zc_S) (p1 : Int32) (hO0 : zc_O okX σ0)  : zc_M shX K yX7_byMean cX7_byMean 5 (some .int) (zrm 0 0) σ0 [.ref (zk K 9), .int p1] (zc_I (fun r9 σ9 => σ0 = σ9 ∧ (-4) ≤ r9.toInt ∧ r9.toInt ≤ 999 ∧ (r9.toInt = (-4) ∨ 0 ≤ r9.toInt) ∧ zc_hid ((1 ≤ p1.toInt → zp_o r9.toInt (p1.toInt ≤ zp_ct (zp_v σ0) ((σ0.1 9 2).toInt + 1).toNat))))) := by
  refine zc_start RX7 hi pfX7_byMean rfl (Nat.le_of_ble_eq_true rfl) ?_
  intro G hG
  have hB := hG.1
  show zc_V 5 K G (zc_D shX K G σ0) [(0, .ref (zk K 9)), (1, .int p1)] 0 []
  have bw9_2 : 0 ≤ (σ0.1 9 2).toInt ∧ (σ0.1 9 2).toInt ≤ 63 := ⟨(hO0 9 2).1, (hO0 9 2).2.1⟩
  refine zr_iconst hB dX7_byMean_0 rfl (fun c1 ec1 => ?_)
  refine zr_istore_n hB dX7_byMean_1 rfl (by decide) (lv' := [(2, .int c1), (0, .ref (zk K 9)), (1, .int p1)]) rfl ?_
  refine zr_iconst hB dX7_byMean_2 rfl (fun c2 ec2 => ?_)
  refine zr_istore_n hB dX7_byMean_3 rfl (by decide) (lv' := [(3, .int c2), (2, .int c1), (0, .ref (zk K 9)), (1, .int p1)]) rfl ?_
  refine zr_aload_n hB 2 dX7_byMean_4 rfl ?_
  refine zr_geti' hG 9 2 (σ0.1 9 2) dX7_byMean_5 rfl wf_X7_25 rfl rfl ?_
  refine zr_istore hB dX7_byMean_8 (by decide) (lv' := [(4, .int (σ0.1 9 2)), (3, .int c2), (2, .int c1), (0, .ref (zk K 9)), (1, .int p1)]) rfl ?_
  have L10_10 : ∀ (n10 : Nat) (y2_3 : Int32) (y3_4 : Int32) (y4_5 : Int32), 0 ≤ y2_3.toInt → y2_3.toInt ≤ 63936 → 0 ≤ y3_4.toInt → y3_4.toInt ≤ 64 → (-1) ≤ y4_5.toInt → y4_5.toInt ≤ 63 → y2_3.toInt ≤ 999 * y3_4.toInt → y3_4.toInt + y4_5.toInt ≤ 63 → y4_5.toInt ≤ (σ0.1 9 2).toInt → -1 ≤ y4_5.toInt → y3_4.toInt = zp_ct (zp_v σ0) ((σ0.1 9 2).toInt + 1).toNat - zp_ct (zp_v σ0) (y4_5.toInt + 1).toNat → y4_5.toInt - (-1) < (n10 : Int) → zc_V 5 K G (zc_D shX K G σ0) [(0, .ref (zk K 9)), (1, .int p1), (2, .int y2_3), (3, .int y3_4), (4, .int y4_5)] 10 [] := by
    intro n10
    induction n10 with
    | zero => intro y2_3 y3_4 y4_5 y2_3a y2_3b y3_4a y3_4b y4_5a y4_5b e6 e7 e8 e9 hc hn10; exfalso; omega
    | succ n10 ih10 =>
      intro y2_3 y3_4 y4_5 y2_3a y2_3b y3_4a y3_4b y4_5a y4_5b e6 e7 e8 e9 hc hn10
      refine zr_iload hB 4 dX7_byMean_10 rfl ?_
      refine zr_if_lt hB dX7_byMean_12 (tgt := 51) rfl (fun c11 => ?_) (fun c11 => ?_)
      · have h0 := zp_c0 (zp_v σ0) (y4_5.toInt + 1).toNat
        have hz : ¬ y4_5.toInt < 0 ∨ zp_ct (zp_v σ0) (y4_5.toInt + 1).toNat = 0 := by by_cases g : y4_5.toInt < 0; (right; rw [show (y4_5.toInt + 1).toNat = 0 by omega]; rfl); exact Or.inl g
        refine zr_iload_n hB 3 dX7_byMean_51 rfl ?_
        refine zr_iload_n hB 1 dX7_byMean_52 rfl ?_
        refine zr_icmp_lt hB dX7_byMean_53 (tgt := 60) rfl (fun c12 => ?_) (fun c12 => ?_)
        · refine zr_bipush hB dX7_byMean_60 rfl (fun c13 ec13 => ?_)
          refine zr_goto hB dX7_byMean_62 (tgt := 68) rfl ?_
          exact zr_iret hG dX7_byMean_68 ⟨rfl, by omega, by omega, by omega, (fun hn => by unfold zp_o; omega)⟩
        refine zr_iload_n hB 3 dX7_byMean_56 rfl ?_
        refine zr_if_ne hB dX7_byMean_57 (tgt := 65) rfl (fun c14 => ?_) (fun c14 => ?_)
        · refine zr_iload_n hB 2 dX7_byMean_65 rfl ?_
          refine zr_iload_n hB 3 dX7_byMean_66 rfl ?_
          refine zr_idiv hB dX7_byMean_67 (by omega) (by omega) (fun x15 ex15 ex15a ex15b ex15c => ?_)
          have ex15d := ex15c 999 (by omega)
          exact zr_iret hG dX7_byMean_68 ⟨rfl, by omega, by omega, by omega, (fun hn => by unfold zp_o; omega)⟩
        refine zr_bipush hB dX7_byMean_60 rfl (fun c16 ec16 => ?_)
        refine zr_goto hB dX7_byMean_62 (tgt := 68) rfl ?_
        exact zr_iret hG dX7_byMean_68 ⟨rfl, by omega, by omega, by omega, (fun hn => by unfold zp_o; omega)⟩
      refine zr_iload_n hB 3 dX7_byMean_15 rfl ?_
      refine zr_iload_n hB 1 dX7_byMean_16 rfl ?_
      refine zr_icmp_ge hB dX7_byMean_17 (tgt := 51) rfl (fun c17 => ?_) (fun c17 => ?_)
      · have h0 := zp_c0 (zp_v σ0) (y4_5.toInt + 1).toNat
        have hz : ¬ y4_5.toInt < 0 ∨ zp_ct (zp_v σ0) (y4_5.toInt + 1).toNat = 0 := by by_cases g : y4_5.toInt < 0; (right; rw [show (y4_5.toInt + 1).toNat = 0 by omega]; rfl); exact Or.inl g
        refine zr_iload_n hB 3 dX7_byMean_51 rfl ?_
        refine zr_iload_n hB 1 dX7_byMean_52 rfl ?_
        refine zr_icmp_lt hB dX7_byMean_53 (tgt := 60) rfl (fun c18 => ?_) (fun c18 => ?_)
        · refine zr_bipush hB dX7_byMean_60 rfl (fun c19 ec19 => ?_)
          refine zr_goto hB dX7_byMean_62 (tgt := 68) rfl ?_
          exact zr_iret hG dX7_byMean_68 ⟨rfl, by omega, by omega, by omega, (fun hn => by unfold zp_o; omega)⟩
        refine zr_iload_n hB 3 dX7_byMean_56 rfl ?_
        refine zr_if_ne hB dX7_byMean_57 (tgt := 65) rfl (fun c20 => ?_) (fun c20 => ?_)
        · refine zr_iload_n hB 2 dX7_byMean_65 rfl ?_
          refine zr_iload_n hB 3 dX7_byMean_66 rfl ?_
          refine zr_idiv hB dX7_byMean_67 (by omega) (by omega) (fun x21 ex21 ex21a ex21b ex21c => ?_)
          have ex21d := ex21c 999 (by omega)
          exact zr_iret hG dX7_byMean_68 ⟨rfl, by omega, by omega, by omega, (fun hn => by unfold zp_o; omega)⟩
        refine zr_bipush hB dX7_byMean_60 rfl (fun c22 ec22 => ?_)
        refine zr_goto hB dX7_byMean_62 (tgt := 68) rfl ?_
        exact zr_iret hG dX7_byMean_68 ⟨rfl, by omega, by omega, by omega, (fun hn => by unfold zp_o; omega)⟩
      refine zr_aload_n hB 0 dX7_byMean_20 rfl ?_
      refine zr_getr hG 9 1 dX7_byMean_21 rfl wf_X7_9 rfl ?_
      refine zr_iload hB 4 dX7_byMean_24 rfl ?_
      refine zr_iald hG 43 dX7_byMean_26 rfl (by omega) (by omega) (fun x23 ex23 => ?_)
      have bx23 : (-4) ≤ x23.toInt ∧ x23.toInt ≤ 999 ∧ (x23.toInt = (-4) ∨ 0 ≤ x23.toInt) := by rw [ex23]; exact hO0 43 _
      refine zr_bipush hB dX7_byMean_27 rfl (fun c24 ec24 => ?_)
      refine zr_icmp_eq hB dX7_byMean_29 (tgt := 45) rfl (fun c25 => ?_) (fun c25 => ?_)
      · refine zr_iinc hB 4 dX7_byMean_45 rfl (by decide) rfl (by omega) (by omega) (fun x26 ex26 lv' hlv => ?_)
        obtain rfl : [(4, .int x26), (0, .ref (zk K 9)), (1, .int p1), (2, .int y2_3), (3, .int y3_4)] = lv' := hlv
        refine zr_goto hB dX7_byMean_48 (tgt := 10) rfl ?_
        exact zc_sub [1, 2, 3, 4, 0] rfl (ih10 y2_3 y3_4 x26 (by omega) (by omega) (by omega) (by omega) (by omega) (by omega) (show y2_3.toInt ≤ 999 * y3_4.toInt by omega) (show y3_4.toInt + x26.toInt ≤ 63 by omega) (show x26.toInt ≤ (σ0.1 9 2).toInt by omega) (show -1 ≤ x26.toInt by omega) (show y3_4.toInt = zp_ct (zp_v σ0) ((σ0.1 9 2).toInt + 1).toNat - zp_ct (zp_v σ0) (x26.toInt + 1).toNat by rw [show (x26.toInt + 1).toNat = y4_5.toInt.toNat by omega]; first | (have h9 := zp_cy (k := (zp_v σ0)) (n := y4_5.toInt.toNat) (m := (y4_5.toInt + 1).toNat) (by omega) (show ¬ (σ0.1 43 y4_5.toInt.toNat).toInt = -4 by rw [← ex23]; omega); omega) | (have h9 := zp_cn (k := (zp_v σ0)) (n := y4_5.toInt.toNat) (m := (y4_5.toInt + 1).toNat) (by omega) (fun h9 => h9 (show (σ0.1 43 y4_5.toInt.toNat).toInt = -4 by rw [← ex23]; omega)); omega)) (by omega))
      refine zr_iload_n hB 2 dX7_byMean_32 rfl ?_
      refine zr_aload_n hB 0 dX7_byMean_33 rfl ?_
      refine zr_getr hG 9 1 dX7_byMean_34 rfl wf_X7_9 rfl ?_
      refine zr_iload hB 4 dX7_byMean_37 rfl ?_
      refine zr_iald hG 43 dX7_byMean_39 rfl (by omega) (by omega) (fun x27 ex27 => ?_)
      obtain rfl : x23 = x27 := ex23.trans ex27.symm
      refine zr_iadd hB dX7_byMean_40 (by omega) (by omega) (fun x28 ex28 => ?_)
      refine zr_istore_n hB dX7_byMean_41 rfl (by decide) (lv' := [(2, .int x28), (0, .ref (zk K 9)), (1, .int p1), (3, .int y3_4), (4, .int y4_5)]) rfl ?_
      refine zr_iinc hB 3 dX7_byMean_42 rfl (by decide) rfl (by omega) (by omega) (fun x29 ex29 lv' hlv => ?_)
      obtain rfl : [(3, .int x29), (2, .int x28), (0, .ref (zk K 9)), (1, .int p1), (4, .int y4_5)] = lv' := hlv
      refine zr_iinc hB 4 dX7_byMean_45 rfl (by decide) rfl (by omega) (by omega) (fun x30 ex30 lv' hlv => ?_)
      obtain rfl : [(4, .int x30), (3, .int x29), (2, .int x28), (0, .ref (zk K 9)), (1, .int p1)] = lv' := hlv
      refine zr_goto hB dX7_byMean_48 (tgt := 10) rfl ?_
      exact zc_sub [3, 4, 2, 1, 0] rfl (ih10 x28 x29 x30 (by omega) (by omega) (by omega) (by omega) (by omega) (by omega) (show x28.toInt ≤ 999 * x29.toInt by omega) (show x29.toInt + x30.toInt ≤ 63 by omega) (show x30.toInt ≤ (σ0.1 9 2).toInt by omega) (show -1 ≤ x30.toInt by omega) (show x29.toInt = zp_ct (zp_v σ0) ((σ0.1 9 2).toInt + 1).toNat - zp_ct (zp_v σ0) (x30.toInt + 1).toNat by rw [show (x30.toInt + 1).toNat = y4_5.toInt.toNat by omega]; first | (have h9 := zp_cy (k := (zp_v σ0)) (n := y4_5.toInt.toNat) (m := (y4_5.toInt + 1).toNat) (by omega) (show ¬ (σ0.1 43 y4_5.toInt.toNat).toInt = -4 by rw [← ex23]; omega); omega) | (have h9 := zp_cn (k := (zp_v σ0)) (n := y4_5.toInt.toNat) (m := (y4_5.toInt + 1).toNat) (by omega) (fun h9 => h9 (show (σ0.1 43 y4_5.toInt.toNat).toInt = -4 by rw [← ex23]; omega)); omega)) (by omega))
  exact zc_sub [3, 4, 2, 1, 0] rfl (L10_10 66 c1 c2 (σ0.1 9 2) (by omega) (by omega) (by omega) (by omega) (by omega) (by omega) (show c1.toInt ≤ 999 * c2.toInt by omega) (show c2.toInt + (σ0.1 9 2).toInt ≤ 63 by omega) (show (σ0.1 9 2).toInt ≤ (σ0.1 9 2).toInt by omega) (show -1 ≤ (σ0.1 9 2).toInt by omega) (show c2.toInt = zp_ct (zp_v σ0) ((σ0.1 9 2).toInt + 1).toNat - zp_ct (zp_v σ0) ((σ0.1 9 2).toInt + 1).toNat by rw [show ((σ0.1 9 2).toInt + 1).toNat = ((σ0.1 9 2).toInt + 1).toNat by omega]; omega) (by omega))

set_option maxHeartbeats 1000000 in
set_option maxRecDepth 100000 in
theorem c_X7_byStep_9 (K : zc_K) (hi : zc_inj shX K.2.2.2.1) (σ0 : zc_S) (p1 : Int32) (p2 : Int32) (p3 : Int32) (hO0 : zc_O okX σ0)  : zc_M shX K yX7_byStep cX7_byStep 13 (some .int) (zrm 2 51) σ0 [.ref (zk K 9), .int p1, .int p2, .int p3] (zc_I (fun r9 σ9 => σ0 = σ9 ∧ (-4) ≤ r9.toInt ∧ r9.toInt ≤ 999 ∧ (r9.toInt = (-4) ∨ 0 ≤ r9.toInt) ∧ zp_o r9.toInt (2 ≤ zp_ct (zp_v σ0) ((σ0.1 9 2).toInt + 1).toNat))) := by
  refine zc_start RX7 hi pfX7_byStep rfl (Nat.le_of_ble_eq_true rfl) ?_
  intro G hG
  have hB := hG.1
  show zc_V 13 K G (zc_D shX K G σ0) [(0, .ref (zk K 9)), (1, .int p1), (2, .int p2), (3, .int p3)] 0 []
  have bw9_2 : 0 ≤ (σ0.1 9 2).toInt ∧ (σ0.1 9 2).toInt ≤ 63 := ⟨(hO0 9 2).1, (hO0 9 2).2.1⟩
  refine zr_lconst hB dX7_byStep_0 (m := 0) rfl (fun c1 ec1 => ?_)
  refine zr_lstore hB dX7_byStep_1 (by decide) (lv' := [(4, .long c1), (0, .ref (zk K 9)), (1, .int p1), (2, .int p2), (3, .int p3)]) rfl ?_
  refine zr_lconst hB dX7_byStep_3 (m := 0) rfl (fun c2 ec2 => ?_)
  refine zr_lstore hB dX7_byStep_4 (by decide) (lv' := [(6, .long c2), (4, .long c1), (0, .ref (zk K 9)), (1, .int p1), (2, .int p2), (3, .int p3)]) rfl ?_
  refine zr_iconst hB dX7_byStep_6 rfl (fun c3 ec3 => ?_)
  refine zr_istore hB dX7_byStep_7 (by decide) (lv' := [(8, .int c3), (6, .long c2), (4, .long c1), (0, .ref (zk K 9)), (1, .int p1), (2, .int p2), (3, .int p3)]) rfl ?_
  refine zr_iconst hB dX7_byStep_9 rfl (fun c4 ec4 => ?_)
  refine zr_istore hB dX7_byStep_10 (by decide) (lv' := [(9, .int c4), (8, .int c3), (6, .long c2), (4, .long c1), (0, .ref (zk K 9)), (1, .int p1), (2, .int p2), (3, .int p3)]) rfl ?_
  have L12_12 : ∀ (n12 : Nat) (y4_5 : Int64) (y6_6 : Int64) (y8_7 : Int32) (y9_8 : Int32), 0 ≤ y8_7.toInt → y8_7.toInt ≤ 64 → 0 ≤ y9_8.toInt → y9_8.toInt ≤ 64 → y9_8.toInt ≤ (σ0.1 9 2).toInt + 1 → 0 ≤ y9_8.toInt → y8_7.toInt ≤ y9_8.toInt → y8_7.toInt = zp_ct (zp_v σ0) y9_8.toInt.toNat → 64 - y9_8.toInt < (n12 : Int) → zc_V 13 K G (zc_D shX K G σ0) [(0, .ref (zk K 9)), (1, .int p1), (2, .int p2), (3, .int p3), (4, .long y4_5), (6, .long y6_6), (8, .int y8_7), (9, .int y9_8)] 12 [] := by
    intro n12
    induction n12 with
    | zero => intro y4_5 y6_6 y8_7 y9_8 y8_7a y8_7b y9_8a y9_8b e9 e10 e11 hc hn12; exfalso; omega
    | succ n12 ih12 =>
      intro y4_5 y6_6 y8_7 y9_8 y8_7a y8_7b y9_8a y9_8b e9 e10 e11 hc hn12
      refine zr_iload hB 7 dX7_byStep_12 rfl ?_
      refine zr_aload_n hB 0 dX7_byStep_14 rfl ?_
      refine zr_geti' hG 9 2 (σ0.1 9 2) dX7_byStep_15 rfl wf_X7_25 rfl rfl ?_
      refine zr_icmp_gt hB dX7_byStep_18 (tgt := 88) rfl (fun c13 => ?_) (fun c13 => ?_)
      · refine zr_iload hB 6 dX7_byStep_88 rfl ?_
        refine zr_iconst hB dX7_byStep_90 rfl (fun c14 ec14 => ?_)
        refine zr_icmp_ge hB dX7_byStep_91 (tgt := 99) rfl (fun c15 => ?_) (fun c15 => ?_)
        · refine zr_lload hB 4 dX7_byStep_99 rfl ?_
          refine zr_lload hB 5 dX7_byStep_101 rfl ?_
          refine zr_iload_n hB 3 dX7_byStep_103 rfl ?_
          refine zr_callsi hG (rest := []) dX7_byStep_104 wm_X7_55 (c_X7_toldByStep K hG.2.2.2.2.2.1 σ0 y4_5 y6_6 p3 hO0 ) rfl rfl (Nat.le_of_ble_eq_true rfl) ⟨Nat.le_of_ble_eq_true rfl, Nat.le_of_ble_eq_true rfl, rfl, rfl⟩ (fun r16 σ17 h18 => ?_)
          obtain ⟨rfl, r16a, r16b⟩ := h18
          exact zr_iret hG dX7_byStep_107 ⟨rfl, by omega, by omega, by omega, (by have h9 : zp_ct (zp_v σ0) ((σ0.1 9 2).toInt + 1).toNat = y8_7.toInt := (by rw [hc, show y9_8.toInt.toNat = ((σ0.1 9 2).toInt + 1).toNat by omega]); unfold zp_o; omega)⟩
        refine zr_bipush hB dX7_byStep_94 rfl (fun c19 ec19 => ?_)
        refine zr_goto hB dX7_byStep_96 (tgt := 107) rfl ?_
        exact zr_iret hG dX7_byStep_107 ⟨rfl, by omega, by omega, by omega, (by have h9 : zp_ct (zp_v σ0) ((σ0.1 9 2).toInt + 1).toNat = y8_7.toInt := (by rw [hc, show y9_8.toInt.toNat = ((σ0.1 9 2).toInt + 1).toNat by omega]); unfold zp_o; omega)⟩
      refine zr_aload_n hB 0 dX7_byStep_21 rfl ?_
      refine zr_getr hG 9 1 dX7_byStep_22 rfl wf_X7_9 rfl ?_
      refine zr_iload hB 7 dX7_byStep_25 rfl ?_
      refine zr_iald hG 43 dX7_byStep_27 rfl (by omega) (by omega) (fun x20 ex20 => ?_)
      have bx20 : (-4) ≤ x20.toInt ∧ x20.toInt ≤ 999 ∧ (x20.toInt = (-4) ∨ 0 ≤ x20.toInt) := by rw [ex20]; exact hO0 43 _
      refine zr_istore hB dX7_byStep_28 (by decide) (lv' := [(10, .int x20), (0, .ref (zk K 9)), (1, .int p1), (2, .int p2), (3, .int p3), (4, .long y4_5), (6, .long y6_6), (8, .int y8_7), (9, .int y9_8)]) rfl ?_
      refine zr_lload hB 5 dX7_byStep_30 rfl ?_
      refine zr_lstore hB dX7_byStep_32 (by decide) (lv' := [(11, .long y4_5), (10, .int x20), (0, .ref (zk K 9)), (1, .int p1), (2, .int p2), (3, .int p3), (4, .long y4_5), (6, .long y6_6), (8, .int y8_7), (9, .int y9_8)]) rfl ?_
      refine zr_iload_n hB 3 dX7_byStep_34 rfl ?_
      refine zr_iload hB 1 dX7_byStep_35 rfl ?_
      refine zr_lload hB 6 dX7_byStep_37 rfl ?_
      refine zr_lload hB 7 dX7_byStep_39 rfl ?_
      refine zr_iload hB 8 dX7_byStep_41 rfl ?_
      refine zr_callsl hG (rest := []) dX7_byStep_43 wm_X7_48 (c_X7_levelAfter K hG.2.2.2.2.2.1 σ0 p1 x20 y4_5 y6_6 y8_7 hO0 ) rfl rfl (Nat.le_of_ble_eq_true rfl) ⟨Nat.le_of_ble_eq_true rfl, Nat.le_of_ble_eq_true rfl, rfl, rfl⟩ (fun r21 σ22 h23 => ?_)
      obtain rfl := h23
      refine zr_lstore hB dX7_byStep_46 (by decide) (lv' := [(4, .long r21), (11, .long y4_5), (10, .int x20), (0, .ref (zk K 9)), (1, .int p1), (2, .int p2), (3, .int p3), (6, .long y6_6), (8, .int y8_7), (9, .int y9_8)]) rfl ?_
      refine zr_iload_n hB 5 dX7_byStep_48 rfl ?_
      refine zr_iload hB 2 dX7_byStep_49 rfl ?_
      refine zr_lload hB 0 dX7_byStep_51 rfl ?_
      refine zr_lload hB 1 dX7_byStep_53 rfl ?_
      refine zr_lsubw hB dX7_byStep_55 (fun l24 el24 => ?_)
      refine zr_lload hB 7 dX7_byStep_56 rfl ?_
      refine zr_iload hB 8 dX7_byStep_58 rfl ?_
      refine zr_callsl hG (rest := []) dX7_byStep_60 wm_X7_52 (c_X7_slopeAfter K hG.2.2.2.2.2.1 σ0 p2 x20 l24 y6_6 y8_7 hO0 ) rfl rfl (Nat.le_of_ble_eq_true rfl) ⟨Nat.le_of_ble_eq_true rfl, Nat.le_of_ble_eq_true rfl, rfl, rfl⟩ (fun r25 σ26 h27 => ?_)
      obtain rfl := h27
      refine zr_lstore hB dX7_byStep_63 (by decide) (lv' := [(6, .long r25), (4, .long r21), (11, .long y4_5), (10, .int x20), (0, .ref (zk K 9)), (1, .int p1), (2, .int p2), (3, .int p3), (8, .int y8_7), (9, .int y9_8)]) rfl ?_
      refine zr_iload hB 8 dX7_byStep_65 rfl ?_
      refine zr_iload hB 3 dX7_byStep_67 rfl ?_
      refine zr_bipush hB dX7_byStep_69 rfl (fun c28 ec28 => ?_)
      refine zr_icmp_ne hB dX7_byStep_71 (tgt := 78) rfl (fun c29 => ?_) (fun c29 => ?_)
      · refine zr_iconst hB dX7_byStep_78 rfl (fun c30 ec30 => ?_)
        refine zr_iadd hB dX7_byStep_79 (by omega) (by omega) (fun x31 ex31 => ?_)
        refine zr_istore hB dX7_byStep_80 (by decide) (lv' := [(8, .int x31), (6, .long r25), (4, .long r21), (11, .long y4_5), (10, .int x20), (0, .ref (zk K 9)), (1, .int p1), (2, .int p2), (3, .int p3), (9, .int y9_8)]) rfl ?_
        refine zr_iinc hB 9 dX7_byStep_82 rfl (by decide) rfl (by omega) (by omega) (fun x32 ex32 lv' hlv => ?_)
        obtain rfl : [(9, .int x32), (8, .int x31), (6, .long r25), (4, .long r21), (11, .long y4_5), (10, .int x20), (0, .ref (zk K 9)), (1, .int p1), (2, .int p2), (3, .int p3)] = lv' := hlv
        refine zr_goto hB dX7_byStep_85 (tgt := 12) rfl ?_
        exact zc_sub [6, 7, 8, 9, 3, 2, 1, 0] rfl (ih12 r21 r25 x31 x32 (by omega) (by omega) (by omega) (by omega) (show x32.toInt ≤ (σ0.1 9 2).toInt + 1 by omega) (show 0 ≤ x32.toInt by omega) (show x31.toInt ≤ x32.toInt by omega) (show x31.toInt = zp_ct (zp_v σ0) x32.toInt.toNat by rw [show x32.toInt.toNat = (y9_8.toInt + 1).toNat by omega]; first | (have h9 := zp_cy (k := (zp_v σ0)) (n := y9_8.toInt.toNat) (m := (y9_8.toInt + 1).toNat) (by omega) (show ¬ (σ0.1 43 y9_8.toInt.toNat).toInt = -4 by rw [← ex20]; omega); omega) | (have h9 := zp_cn (k := (zp_v σ0)) (n := y9_8.toInt.toNat) (m := (y9_8.toInt + 1).toNat) (by omega) (fun h9 => h9 (show (σ0.1 43 y9_8.toInt.toNat).toInt = -4 by rw [← ex20]; omega)); omega)) (by omega))
      refine zr_iconst hB dX7_byStep_74 rfl (fun c33 ec33 => ?_)
      refine zr_goto hB dX7_byStep_75 (tgt := 79) rfl ?_
      refine zr_iadd hB dX7_byStep_79 (by omega) (by omega) (fun x34 ex34 => ?_)
      refine zr_istore hB dX7_byStep_80 (by decide) (lv' := [(8, .int x34), (6, .long r25), (4, .long r21), (11, .long y4_5), (10, .int x20), (0, .ref (zk K 9)), (1, .int p1), (2, .int p2), (3, .int p3), (9, .int y9_8)]) rfl ?_
      refine zr_iinc hB 9 dX7_byStep_82 rfl (by decide) rfl (by omega) (by omega) (fun x35 ex35 lv' hlv => ?_)
      obtain rfl : [(9, .int x35), (8, .int x34), (6, .long r25), (4, .long r21), (11, .long y4_5), (10, .int x20), (0, .ref (zk K 9)), (1, .int p1), (2, .int p2), (3, .int p3)] = lv' := hlv
      refine zr_goto hB dX7_byStep_85 (tgt := 12) rfl ?_
      exact zc_sub [6, 7, 8, 9, 3, 2, 1, 0] rfl (ih12 r21 r25 x34 x35 (by omega) (by omega) (by omega) (by omega) (show x35.toInt ≤ (σ0.1 9 2).toInt + 1 by omega) (show 0 ≤ x35.toInt by omega) (show x34.toInt ≤ x35.toInt by omega) (show x34.toInt = zp_ct (zp_v σ0) x35.toInt.toNat by rw [show x35.toInt.toNat = (y9_8.toInt + 1).toNat by omega]; first | (have h9 := zp_cy (k := (zp_v σ0)) (n := y9_8.toInt.toNat) (m := (y9_8.toInt + 1).toNat) (by omega) (show ¬ (σ0.1 43 y9_8.toInt.toNat).toInt = -4 by rw [← ex20]; omega); omega) | (have h9 := zp_cn (k := (zp_v σ0)) (n := y9_8.toInt.toNat) (m := (y9_8.toInt + 1).toNat) (by omega) (fun h9 => h9 (show (σ0.1 43 y9_8.toInt.toNat).toInt = -4 by rw [← ex20]; omega)); omega)) (by omega))
  exact zc_sub [4, 5, 6, 7, 3, 2, 1, 0] rfl (L12_12 66 c1 c2 c3 c4 (by omega) (by omega) (by omega) (by omega) (show c4.toInt ≤ (σ0.1 9 2).toInt + 1 by omega) (show 0 ≤ c4.toInt by omega) (show c3.toInt ≤ c4.toInt by omega) (show c3.toInt = zp_ct (zp_v σ0) c4.toInt.toNat by rw [show c4.toInt.toNat = 0 by omega]; show _ = (0 : Int); omega) (by omega))

set_option maxHeartbeats 1000000 in
set_option maxRecDepth 100000 in
theorem c_X7_byLike_9 (K : zc_K) (hi : zc_inj shX K.2.2.2.1) (σ0 : zc_S) (p1 : Int32) (p2 : Int32) (hO0 : zc_O okX σ0) (h2a : 0 ≤ p2.toInt) (h2b : p2.toInt ≤ 14) : zc_M shX K yX7_byLike cX7_byLike 7 (some .int) (zrm 1 21) σ0 [.ref (zk K 9), .int p1, .int p2] (zc_I (fun r9 σ9 => σ0 = σ9 ∧ (-4) ≤ r9.toInt ∧ r9.toInt ≤ 999 ∧ (r9.toInt = (-4) ∨ 0 ≤ r9.toInt) ∧ zc_hid ((1 ≤ p1.toInt → 1 ≤ p2.toInt → zp_o r9.toInt (zp_L (zp_v σ0) (zp_f 15 σ0) (σ0.1 9 2).toInt p2.toInt))))) := by
  refine zc_start RX7 hi pfX7_byLike rfl (Nat.le_of_ble_eq_true rfl) ?_
  intro G hG
  have hB := hG.1
  show zc_V 7 K G (zc_D shX K G σ0) [(0, .ref (zk K 9)), (1, .int p1), (2, .int p2)] 0 []
  have bw9_2 : 0 ≤ (σ0.1 9 2).toInt ∧ (σ0.1 9 2).toInt ≤ 63 := ⟨(hO0 9 2).1, (hO0 9 2).2.1⟩
  refine zr_aload_n hB 0 dX7_byLike_0 rfl ?_
  refine zr_getr hG 9 0 dX7_byLike_1 rfl wf_X7_15 rfl ?_
  refine zr_aload_n hB 0 dX7_byLike_4 rfl ?_
  refine zr_geti' hG 9 2 (σ0.1 9 2) dX7_byLike_5 rfl wf_X7_25 rfl rfl ?_
  refine zr_iload_n hB 2 dX7_byLike_8 rfl ?_
  refine zr_iadd hB dX7_byLike_9 (by omega) (by omega) (fun x1 ex1 => ?_)
  refine zr_callvi hG (rest := []) 1 dX7_byLike_10 wm_X7_59 rfl rfl (c_X4_isFeast_1 K hG.2.2.2.2.2.1 σ0 x1 hO0 ) rfl rfl (Nat.le_of_ble_eq_true rfl) ⟨Nat.le_of_ble_eq_true rfl, Nat.le_of_ble_eq_true rfl, rfl, rfl⟩ (fun r2 σ3 h4 => ?_)
  obtain ⟨rfl, r2a, r2b, g5⟩ := h4
  have hfe : r2.toInt = (zp_f 15 σ0) ((σ0.1 9 2).toInt + p2.toInt) := by rw [g5, show x1.toInt = (σ0.1 9 2).toInt + p2.toInt by omega]
  refine zr_istore_n hB dX7_byLike_13 rfl (by decide) (lv' := [(3, .int r2), (0, .ref (zk K 9)), (1, .int p1), (2, .int p2)]) rfl ?_
  refine zr_iconst hB dX7_byLike_14 rfl (fun c6 ec6 => ?_)
  refine zr_istore hB dX7_byLike_15 (by decide) (lv' := [(4, .int c6), (3, .int r2), (0, .ref (zk K 9)), (1, .int p1), (2, .int p2)]) rfl ?_
  refine zr_iconst hB dX7_byLike_17 rfl (fun c7 ec7 => ?_)
  refine zr_istore hB dX7_byLike_18 (by decide) (lv' := [(5, .int c7), (4, .int c6), (3, .int r2), (0, .ref (zk K 9)), (1, .int p1), (2, .int p2)]) rfl ?_
  refine zr_aload_n hB 3 dX7_byLike_20 rfl ?_
  refine zr_geti' hG 9 2 (σ0.1 9 2) dX7_byLike_21 rfl wf_X7_25 rfl rfl ?_
  refine zr_iload_n hB 5 dX7_byLike_24 rfl ?_
  refine zr_iadd hB dX7_byLike_25 (by omega) (by omega) (fun x8 ex8 => ?_)
  refine zr_bipush hB dX7_byLike_26 rfl (fun c9 ec9 => ?_)
  refine zr_isub hB dX7_byLike_28 (by omega) (by omega) (fun x10 ex10 => ?_)
  refine zr_istore hB dX7_byLike_29 (by decide) (lv' := [(6, .int x10), (5, .int c7), (4, .int c6), (3, .int r2), (0, .ref (zk K 9)), (1, .int p1), (2, .int p2)]) rfl ?_
  have L31_19 : ∀ (n31 : Nat) (y4_11 : Int32) (y5_12 : Int32) (y6_13 : Int32), 0 ≤ y4_11.toInt → y4_11.toInt ≤ 63936 → 0 ≤ y5_12.toInt → y5_12.toInt ≤ 64 → (-7) ≤ y6_13.toInt → y6_13.toInt ≤ 70 → y4_11.toInt ≤ 999 * y5_12.toInt → 7 * y5_12.toInt + y6_13.toInt ≤ 70 → ((σ0.1 9 2).toInt + p2.toInt - y6_13.toInt) % 7 = 0 → y6_13.toInt ≤ (σ0.1 9 2).toInt + p2.toInt - 7 → 0 ≤ y5_12.toInt → (zc_hid ((1 ≤ p2.toInt → y5_12.toInt = 0 → ∀ t : Nat, y6_13.toInt < (t : Int) → (t : Int) ≤ (σ0.1 9 2).toInt → ((σ0.1 9 2).toInt + p2.toInt - (t : Int)) % 7 = 0 → (zp_v σ0) t → ¬ (zp_f 15 σ0) (t : Int) = (zp_f 15 σ0) ((σ0.1 9 2).toInt + p2.toInt)))) → (zc_hid ((0 < y5_12.toInt → zp_L (zp_v σ0) (zp_f 15 σ0) (σ0.1 9 2).toInt p2.toInt))) → y6_13.toInt - (-7) < (n31 : Int) → zc_V 7 K G (zc_D shX K G σ0) [(0, .ref (zk K 9)), (1, .int p1), (2, .int p2), (3, .int r2), (4, .int y4_11), (5, .int y5_12), (6, .int y6_13)] 31 [] := by
    intro n31
    induction n31 with
    | zero => intro y4_11 y5_12 y6_13 y4_11a y4_11b y5_12a y5_12b y6_13a y6_13b e14 e15 e16 e17 e18 h1 h2 hn31; exfalso; omega
    | succ n31 ih31 =>
      intro y4_11 y5_12 y6_13 y4_11a y4_11b y5_12a y5_12b y6_13a y6_13b e14 e15 e16 e17 e18 h1 h2 hn31
      refine zr_iload hB 6 dX7_byLike_31 rfl ?_
      refine zr_if_lt hB dX7_byLike_33 (tgt := 97) rfl (fun c20 => ?_) (fun c20 => ?_)
      · refine zr_iload hB 5 dX7_byLike_97 rfl ?_
        refine zr_if_ne hB dX7_byLike_99 (tgt := 107) rfl (fun c21 => ?_) (fun c21 => ?_)
        · refine zr_iload hB 4 dX7_byLike_107 rfl ?_
          refine zr_iload hB 5 dX7_byLike_109 rfl ?_
          refine zr_idiv hB dX7_byLike_111 (by omega) (by omega) (fun x22 ex22 ex22a ex22b ex22c => ?_)
          have ex22d := ex22c 999 (by omega)
          exact zr_iret hG dX7_byLike_112 ⟨rfl, by omega, by omega, by omega, (fun hn hh => zp_o.y (by omega) (h2 (by omega)))⟩
        refine zr_bipush hB dX7_byLike_102 rfl (fun c23 ec23 => ?_)
        refine zr_goto hB dX7_byLike_104 (tgt := 112) rfl ?_
        exact zr_iret hG dX7_byLike_112 ⟨rfl, by omega, by omega, by omega, (fun hn hh => zp_o.n (by omega) (by rintro ⟨t, a, b, c, e⟩; exact h1 hh (by omega) t (by omega) a b c e))⟩
      refine zr_iload hB 5 dX7_byLike_36 rfl ?_
      refine zr_iload_n hB 1 dX7_byLike_38 rfl ?_
      refine zr_icmp_ge hB dX7_byLike_39 (tgt := 97) rfl (fun c24 => ?_) (fun c24 => ?_)
      · refine zr_iload hB 5 dX7_byLike_97 rfl ?_
        refine zr_if_ne hB dX7_byLike_99 (tgt := 107) rfl (fun c25 => ?_) (fun c25 => ?_)
        · refine zr_iload hB 4 dX7_byLike_107 rfl ?_
          refine zr_iload hB 5 dX7_byLike_109 rfl ?_
          refine zr_idiv hB dX7_byLike_111 (by omega) (by omega) (fun x26 ex26 ex26a ex26b ex26c => ?_)
          have ex26d := ex26c 999 (by omega)
          exact zr_iret hG dX7_byLike_112 ⟨rfl, by omega, by omega, by omega, (fun hn hh => zp_o.y (by omega) (h2 (by omega)))⟩
        refine zr_bipush hB dX7_byLike_102 rfl (fun c27 ec27 => ?_)
        refine zr_goto hB dX7_byLike_104 (tgt := 112) rfl ?_
        exact zr_iret hG dX7_byLike_112 ⟨rfl, by omega, by omega, by omega, (fun hn hh => zp_o.n (by omega) (by rintro ⟨t, a, b, c, e⟩; exact h1 hh (by omega) t (by omega) a b c e))⟩
      refine zr_iload hB 6 dX7_byLike_42 rfl ?_
      refine zr_aload_n hB 0 dX7_byLike_44 rfl ?_
      refine zr_geti' hG 9 2 (σ0.1 9 2) dX7_byLike_45 rfl wf_X7_25 rfl rfl ?_
      refine zr_icmp_gt hB dX7_byLike_48 (tgt := 91) rfl (fun c28 => ?_) (fun c28 => ?_)
      · refine zr_iinc hB 6 dX7_byLike_91 rfl (by decide) rfl (by omega) (by omega) (fun x29 ex29 lv' hlv => ?_)
        obtain rfl : [(6, .int x29), (0, .ref (zk K 9)), (1, .int p1), (2, .int p2), (3, .int r2), (4, .int y4_11), (5, .int y5_12)] = lv' := hlv
        refine zr_goto hB dX7_byLike_94 (tgt := 31) rfl ?_
        exact zc_sub [1, 2, 3, 4, 5, 6, 0] rfl (ih31 y4_11 y5_12 x29 (by omega) (by omega) (by omega) (by omega) (by omega) (by omega) (show y4_11.toInt ≤ 999 * y5_12.toInt by omega) (show 7 * y5_12.toInt + x29.toInt ≤ 70 by omega) (show ((σ0.1 9 2).toInt + p2.toInt - x29.toInt) % 7 = 0 by omega) (show x29.toInt ≤ (σ0.1 9 2).toInt + p2.toInt - 7 by omega) (show 0 ≤ y5_12.toInt by omega) (show zc_hid ((1 ≤ p2.toInt → y5_12.toInt = 0 → ∀ t : Nat, x29.toInt < (t : Int) → (t : Int) ≤ (σ0.1 9 2).toInt → ((σ0.1 9 2).toInt + p2.toInt - (t : Int)) % 7 = 0 → (zp_v σ0) t → ¬ (zp_f 15 σ0) (t : Int) = (zp_f 15 σ0) ((σ0.1 9 2).toInt + p2.toInt))) by first | (intro hh h0; exfalso; omega) | (intro hh h0 t a b c d e; by_cases h9 : y6_13.toInt < (t : Int); exact h1 hh (by omega) t h9 b c d e; (obtain rfl : t = y6_13.toInt.toNat := (by omega); omega))) (show zc_hid ((0 < y5_12.toInt → zp_L (zp_v σ0) (zp_f 15 σ0) (σ0.1 9 2).toInt p2.toInt)) by exact h2) (by omega))
      refine zr_aload_n hB 0 dX7_byLike_51 rfl ?_
      refine zr_getr hG 9 1 dX7_byLike_52 rfl wf_X7_9 rfl ?_
      refine zr_iload hB 6 dX7_byLike_55 rfl ?_
      refine zr_iald hG 43 dX7_byLike_57 rfl (by omega) (by omega) (fun x30 ex30 => ?_)
      have bx30 : (-4) ≤ x30.toInt ∧ x30.toInt ≤ 999 ∧ (x30.toInt = (-4) ∨ 0 ≤ x30.toInt) := by rw [ex30]; exact hO0 43 _
      refine zr_bipush hB dX7_byLike_58 rfl (fun c31 ec31 => ?_)
      refine zr_icmp_eq hB dX7_byLike_60 (tgt := 91) rfl (fun c32 => ?_) (fun c32 => ?_)
      · refine zr_iinc hB 6 dX7_byLike_91 rfl (by decide) rfl (by omega) (by omega) (fun x33 ex33 lv' hlv => ?_)
        obtain rfl : [(6, .int x33), (0, .ref (zk K 9)), (1, .int p1), (2, .int p2), (3, .int r2), (4, .int y4_11), (5, .int y5_12)] = lv' := hlv
        refine zr_goto hB dX7_byLike_94 (tgt := 31) rfl ?_
        exact zc_sub [1, 2, 3, 4, 5, 6, 0] rfl (ih31 y4_11 y5_12 x33 (by omega) (by omega) (by omega) (by omega) (by omega) (by omega) (show y4_11.toInt ≤ 999 * y5_12.toInt by omega) (show 7 * y5_12.toInt + x33.toInt ≤ 70 by omega) (show ((σ0.1 9 2).toInt + p2.toInt - x33.toInt) % 7 = 0 by omega) (show x33.toInt ≤ (σ0.1 9 2).toInt + p2.toInt - 7 by omega) (show 0 ≤ y5_12.toInt by omega) (show zc_hid ((1 ≤ p2.toInt → y5_12.toInt = 0 → ∀ t : Nat, x33.toInt < (t : Int) → (t : Int) ≤ (σ0.1 9 2).toInt → ((σ0.1 9 2).toInt + p2.toInt - (t : Int)) % 7 = 0 → (zp_v σ0) t → ¬ (zp_f 15 σ0) (t : Int) = (zp_f 15 σ0) ((σ0.1 9 2).toInt + p2.toInt))) by first | (intro hh h0; exfalso; omega) | (intro hh h0 t a b c d e; by_cases h9 : y6_13.toInt < (t : Int); exact h1 hh (by omega) t h9 b c d e; (obtain rfl : t = y6_13.toInt.toNat := (by omega); exact d (show (σ0.1 43 y6_13.toInt.toNat).toInt = -4 by rw [← ex30]; omega)))) (show zc_hid ((0 < y5_12.toInt → zp_L (zp_v σ0) (zp_f 15 σ0) (σ0.1 9 2).toInt p2.toInt)) by exact h2) (by omega))
      refine zr_aload_n hB 0 dX7_byLike_63 rfl ?_
      refine zr_getr hG 9 0 dX7_byLike_64 rfl wf_X7_15 rfl ?_
      refine zr_iload hB 6 dX7_byLike_67 rfl ?_
      refine zr_callvi hG (rest := []) 1 dX7_byLike_69 wm_X7_59 rfl rfl (c_X4_isFeast_1 K hG.2.2.2.2.2.1 σ0 y6_13 hO0 ) rfl rfl (Nat.le_of_ble_eq_true rfl) ⟨Nat.le_of_ble_eq_true rfl, Nat.le_of_ble_eq_true rfl, rfl, rfl⟩ (fun r34 σ35 h36 => ?_)
      obtain ⟨rfl, r34a, r34b, g37⟩ := h36
      have hfd : r34.toInt = (zp_f 15 σ0) y6_13.toInt := g37
      refine zr_iload_n hB 3 dX7_byLike_72 rfl ?_
      refine zr_icmp_ne hB dX7_byLike_73 (tgt := 91) rfl (fun c38 => ?_) (fun c38 => ?_)
      · refine zr_iinc hB 6 dX7_byLike_91 rfl (by decide) rfl (by omega) (by omega) (fun x39 ex39 lv' hlv => ?_)
        obtain rfl : [(6, .int x39), (0, .ref (zk K 9)), (1, .int p1), (2, .int p2), (3, .int r2), (4, .int y4_11), (5, .int y5_12)] = lv' := hlv
        refine zr_goto hB dX7_byLike_94 (tgt := 31) rfl ?_
        exact zc_sub [1, 2, 3, 4, 5, 6, 0] rfl (ih31 y4_11 y5_12 x39 (by omega) (by omega) (by omega) (by omega) (by omega) (by omega) (show y4_11.toInt ≤ 999 * y5_12.toInt by omega) (show 7 * y5_12.toInt + x39.toInt ≤ 70 by omega) (show ((σ0.1 9 2).toInt + p2.toInt - x39.toInt) % 7 = 0 by omega) (show x39.toInt ≤ (σ0.1 9 2).toInt + p2.toInt - 7 by omega) (show 0 ≤ y5_12.toInt by omega) (show zc_hid ((1 ≤ p2.toInt → y5_12.toInt = 0 → ∀ t : Nat, x39.toInt < (t : Int) → (t : Int) ≤ (σ0.1 9 2).toInt → ((σ0.1 9 2).toInt + p2.toInt - (t : Int)) % 7 = 0 → (zp_v σ0) t → ¬ (zp_f 15 σ0) (t : Int) = (zp_f 15 σ0) ((σ0.1 9 2).toInt + p2.toInt))) by first | (intro hh h0; exfalso; omega) | (intro hh h0 t a b c d e; by_cases h9 : y6_13.toInt < (t : Int); exact h1 hh (by omega) t h9 b c d e; (obtain rfl : t = y6_13.toInt.toNat := (by omega); rw [show ((y6_13.toInt.toNat : Nat) : Int) = y6_13.toInt by omega, ← hfd, ← hfe] at e; omega))) (show zc_hid ((0 < y5_12.toInt → zp_L (zp_v σ0) (zp_f 15 σ0) (σ0.1 9 2).toInt p2.toInt)) by first | exact fun h9 => h2 (by omega) | (intro _; exact ⟨y6_13.toInt.toNat, by omega, by omega, (show ¬ (σ0.1 43 y6_13.toInt.toNat).toInt = -4 by rw [← ex30]; omega), by rw [show ((y6_13.toInt.toNat : Nat) : Int) = y6_13.toInt by omega, ← hfd, ← hfe]; omega⟩)) (by omega))
      refine zr_iload hB 4 dX7_byLike_76 rfl ?_
      refine zr_aload_n hB 0 dX7_byLike_78 rfl ?_
      refine zr_getr hG 9 1 dX7_byLike_79 rfl wf_X7_9 rfl ?_
      refine zr_iload hB 6 dX7_byLike_82 rfl ?_
      refine zr_iald hG 43 dX7_byLike_84 rfl (by omega) (by omega) (fun x40 ex40 => ?_)
      obtain rfl : x30 = x40 := ex30.trans ex40.symm
      refine zr_iadd hB dX7_byLike_85 (by omega) (by omega) (fun x41 ex41 => ?_)
      refine zr_istore hB dX7_byLike_86 (by decide) (lv' := [(4, .int x41), (0, .ref (zk K 9)), (1, .int p1), (2, .int p2), (3, .int r2), (5, .int y5_12), (6, .int y6_13)]) rfl ?_
      refine zr_iinc hB 5 dX7_byLike_88 rfl (by decide) rfl (by omega) (by omega) (fun x42 ex42 lv' hlv => ?_)
      obtain rfl : [(5, .int x42), (4, .int x41), (0, .ref (zk K 9)), (1, .int p1), (2, .int p2), (3, .int r2), (6, .int y6_13)] = lv' := hlv
      refine zr_iinc hB 6 dX7_byLike_91 rfl (by decide) rfl (by omega) (by omega) (fun x43 ex43 lv' hlv => ?_)
      obtain rfl : [(6, .int x43), (5, .int x42), (4, .int x41), (0, .ref (zk K 9)), (1, .int p1), (2, .int p2), (3, .int r2)] = lv' := hlv
      refine zr_goto hB dX7_byLike_94 (tgt := 31) rfl ?_
      exact zc_sub [3, 4, 5, 6, 2, 1, 0] rfl (ih31 x41 x42 x43 (by omega) (by omega) (by omega) (by omega) (by omega) (by omega) (show x41.toInt ≤ 999 * x42.toInt by omega) (show 7 * x42.toInt + x43.toInt ≤ 70 by omega) (show ((σ0.1 9 2).toInt + p2.toInt - x43.toInt) % 7 = 0 by omega) (show x43.toInt ≤ (σ0.1 9 2).toInt + p2.toInt - 7 by omega) (show 0 ≤ x42.toInt by omega) (show zc_hid ((1 ≤ p2.toInt → x42.toInt = 0 → ∀ t : Nat, x43.toInt < (t : Int) → (t : Int) ≤ (σ0.1 9 2).toInt → ((σ0.1 9 2).toInt + p2.toInt - (t : Int)) % 7 = 0 → (zp_v σ0) t → ¬ (zp_f 15 σ0) (t : Int) = (zp_f 15 σ0) ((σ0.1 9 2).toInt + p2.toInt))) by first | (intro hh h0; exfalso; omega) | (intro hh h0 t a b c d e; by_cases h9 : y6_13.toInt < (t : Int); exact h1 hh (by omega) t h9 b c d e; (obtain rfl : t = y6_13.toInt.toNat := (by omega); rw [show ((y6_13.toInt.toNat : Nat) : Int) = y6_13.toInt by omega, ← hfd, ← hfe] at e; omega))) (show zc_hid ((0 < x42.toInt → zp_L (zp_v σ0) (zp_f 15 σ0) (σ0.1 9 2).toInt p2.toInt)) by first | exact fun h9 => h2 (by omega) | (intro _; exact ⟨y6_13.toInt.toNat, by omega, by omega, (show ¬ (σ0.1 43 y6_13.toInt.toNat).toInt = -4 by rw [← ex30]; omega), by rw [show ((y6_13.toInt.toNat : Nat) : Int) = y6_13.toInt by omega, ← hfd, ← hfe]; omega⟩)) (by omega))
  exact zc_sub [4, 5, 6, 3, 2, 1, 0] rfl (L31_19 79 c6 c7 x10 (by omega) (by omega) (by omega) (by omega) (by omega) (by omega) (show c6.toInt ≤ 999 * c7.toInt by omega) (show 7 * c7.toInt + x10.toInt ≤ 70 by omega) (show ((σ0.1 9 2).toInt + p2.toInt - x10.toInt) % 7 = 0 by omega) (show x10.toInt ≤ (σ0.1 9 2).toInt + p2.toInt - 7 by omega) (show 0 ≤ c7.toInt by omega) (show zc_hid ((1 ≤ p2.toInt → c7.toInt = 0 → ∀ t : Nat, x10.toInt < (t : Int) → (t : Int) ≤ (σ0.1 9 2).toInt → ((σ0.1 9 2).toInt + p2.toInt - (t : Int)) % 7 = 0 → (zp_v σ0) t → ¬ (zp_f 15 σ0) (t : Int) = (zp_f 15 σ0) ((σ0.1 9 2).toInt + p2.toInt))) by intro hh h0 t a b c; exfalso; omega) (show zc_hid ((0 < c7.toInt → zp_L (zp_v σ0) (zp_f 15 σ0) (σ0.1 9 2).toInt p2.toInt)) by intro h9; exfalso; omega) (by omega))

set_option maxHeartbeats 1000000 in
set_option maxRecDepth 100000 in
theorem c_X7_foretell_9 (K : zc_K) (hi : zc_inj shX K.2.2.2.1) (σ0 : zc_S) (p1 : Int32) (p2 : Int32) (p3 : Int32) (p4 : Int32) (hO0 : zc_O okX σ0) (h4a : 0 ≤ p4.toInt) (h4b : p4.toInt ≤ 14) : zc_M shX K yX7_foretell cX7_foretell 5 (some .int) (zrm 3 83) σ0 [.ref (zk K 9), .int p1, .int p2, .int p3, .int p4] (zc_I (fun r9 σ9 => σ0 = σ9 ∧ (-4) ≤ r9.toInt ∧ r9.toInt ≤ 999 ∧ (r9.toInt = (-4) ∨ 0 ≤ r9.toInt) ∧ zc_hid (((p1.toInt = 2 ∨ 1 ≤ p2.toInt) → 1 ≤ p4.toInt → zp_o r9.toInt (zp_T (zp_v σ0) (zp_f 15 σ0) p1.toInt p2.toInt (σ0.1 9 2).toInt p4.toInt))))) := by
  refine zc_start RX7 hi pfX7_foretell rfl (Nat.le_of_ble_eq_true rfl) ?_
  intro G hG
  have hB := hG.1
  show zc_V 5 K G (zc_D shX K G σ0) [(0, .ref (zk K 9)), (1, .int p1), (2, .int p2), (3, .int p3), (4, .int p4)] 0 []
  refine zr_iload_n hB 1 dX7_foretell_0 rfl ?_
  by_cases c1 : p1.toInt = 0
  · refine zr_tabIn hB 0 dX7_foretell_1 (by omega) (by omega) (off := 31) rfl (tgt := 32) rfl ?_
    refine zr_aload_n hB 0 dX7_foretell_32 rfl ?_
    refine zr_iload_n hB 2 dX7_foretell_33 rfl ?_
    refine zr_iload hB 4 dX7_foretell_34 rfl ?_
    refine zr_callvi hG (rest := []) 9 dX7_foretell_36 wm_X7_35 rfl rfl (c_X7_bySame_9 K hG.2.2.2.2.2.1 σ0 p2 p4 hO0 (by omega) (by omega)) rfl rfl (Nat.le_of_ble_eq_true rfl) ⟨Nat.le_of_ble_eq_true rfl, Nat.le_of_ble_eq_true rfl, rfl, rfl⟩ (fun r2 σ3 h4 => ?_)
    obtain ⟨rfl, r2a, r2b, r2h, g5⟩ := h4
    exact zr_iret hG dX7_foretell_39 ⟨rfl, by omega, by omega, by omega, (fun h1 h2 => (g5 (by omega)).iff (zp_T0 (by omega)).symm)⟩
  by_cases c6 : p1.toInt = 1
  · refine zr_tabIn hB 1 dX7_foretell_1 (by omega) (by omega) (off := 39) rfl (tgt := 40) rfl ?_
    refine zr_aload_n hB 0 dX7_foretell_40 rfl ?_
    refine zr_iload_n hB 2 dX7_foretell_41 rfl ?_
    refine zr_callvi hG (rest := []) 9 dX7_foretell_42 wm_X7_38 rfl rfl (c_X7_byMean_9 K hG.2.2.2.2.2.1 σ0 p2 hO0 ) rfl rfl (Nat.le_of_ble_eq_true rfl) ⟨Nat.le_of_ble_eq_true rfl, Nat.le_of_ble_eq_true rfl, rfl, rfl⟩ (fun r7 σ8 h9 => ?_)
    obtain ⟨rfl, r7a, r7b, r7h, g10⟩ := h9
    exact zr_iret hG dX7_foretell_45 ⟨rfl, by omega, by omega, by omega, (fun h1 h2 => (g10 (by omega)).iff (zp_T1 (by omega)).symm)⟩
  by_cases c11 : p1.toInt = 2
  · refine zr_tabIn hB 2 dX7_foretell_1 (by omega) (by omega) (off := 45) rfl (tgt := 46) rfl ?_
    refine zr_aload_n hB 0 dX7_foretell_46 rfl ?_
    refine zr_iload_n hB 2 dX7_foretell_47 rfl ?_
    refine zr_iload_n hB 3 dX7_foretell_48 rfl ?_
    refine zr_iload hB 4 dX7_foretell_49 rfl ?_
    refine zr_callvi hG (rest := []) 9 dX7_foretell_51 wm_X7_42 rfl rfl (c_X7_byStep_9 K hG.2.2.2.2.2.1 σ0 p2 p3 p4 hO0 ) rfl rfl (Nat.le_of_ble_eq_true rfl) ⟨Nat.le_of_ble_eq_true rfl, Nat.le_of_ble_eq_true rfl, rfl, rfl⟩ (fun r12 σ13 h14 => ?_)
    obtain ⟨rfl, r12a, r12b, r12h, g15⟩ := h14
    exact zr_iret hG dX7_foretell_54 ⟨rfl, by omega, by omega, by omega, (fun h1 h2 => g15.iff (zp_T2 (by omega)).symm)⟩
  by_cases c16 : p1.toInt = 3
  · refine zr_tabIn hB 3 dX7_foretell_1 (by omega) (by omega) (off := 54) rfl (tgt := 55) rfl ?_
    refine zr_aload_n hB 0 dX7_foretell_55 rfl ?_
    refine zr_iload_n hB 2 dX7_foretell_56 rfl ?_
    refine zr_iload hB 4 dX7_foretell_57 rfl ?_
    refine zr_callvi hG (rest := []) 9 dX7_foretell_59 wm_X7_45 rfl rfl (c_X7_byLike_9 K hG.2.2.2.2.2.1 σ0 p2 p4 hO0 (by omega) (by omega)) rfl rfl (Nat.le_of_ble_eq_true rfl) ⟨Nat.le_of_ble_eq_true rfl, Nat.le_of_ble_eq_true rfl, rfl, rfl⟩ (fun r17 σ18 h19 => ?_)
    obtain ⟨rfl, r17a, r17b, r17h, g20⟩ := h19
    exact zr_iret hG dX7_foretell_62 ⟨rfl, by omega, by omega, by omega, (fun h1 h2 => (g20 (by omega) h2).iff (zp_T3 (by omega)).symm)⟩
  refine zr_tabOut hB dX7_foretell_1 (by omega) (tgt := 63) rfl ?_
  refine zr_bipush hB dX7_foretell_63 rfl (fun c21 ec21 => ?_)
  exact zr_iret hG dX7_foretell_65 ⟨rfl, by omega, by omega, by omega, (fun _ _ => zp_o.n (by omega) (zp_T4 (by omega)))⟩

set_option maxHeartbeats 1000000 in
set_option maxRecDepth 100000 in
theorem c_X7_bySame_10 (K : zc_K) (hi : zc_inj shX K.2.2.2.1) (σ0 : zc_S) (p1 : Int32) (p2 : Int32) (hO0 : zc_O okX σ0) (h2a : 0 ≤ p2.toInt) (h2b : p2.toInt ≤ 14) : zc_M shX K yX7_bySame cX7_bySame 4 (some .int) (zrm 0 0) σ0 [.ref (zk K 10), .int p1, .int p2] (zc_I (fun r9 σ9 => σ0 = σ9 ∧ (-4) ≤ r9.toInt ∧ r9.toInt ≤ 999 ∧ (r9.toInt = (-4) ∨ 0 ≤ r9.toInt))) := by
  refine zc_start RX7 hi pfX7_bySame rfl (Nat.le_of_ble_eq_true rfl) ?_
  intro G hG
  have hB := hG.1
  show zc_V 4 K G (zc_D shX K G σ0) [(0, .ref (zk K 10)), (1, .int p1), (2, .int p2)] 0 []
  refine zr_aload_n hB 0 dX7_bySame_0 rfl ?_
  refine zr_geti' hG 10 2 (σ0.1 10 2) dX7_bySame_1 rfl wf_X7_25 rfl rfl ?_
  have b1 : 0 ≤ (σ0.1 10 2).toInt ∧ (σ0.1 10 2).toInt ≤ 63 := ⟨(hO0 10 2).1, (hO0 10 2).2.1⟩
  refine zr_iload_n hB 2 dX7_bySame_4 rfl ?_
  refine zr_iadd hB dX7_bySame_5 (by omega) (by omega) (fun x2 ex2 => ?_)
  refine zr_iload_n hB 1 dX7_bySame_6 rfl ?_
  refine zr_isubw hB dX7_bySame_7 (fun x3 ex3 => ?_)
  refine zr_istore_n hB dX7_bySame_8 rfl (by decide) (lv' := [(3, .int x3), (0, .ref (zk K 10)), (1, .int p1), (2, .int p2)]) rfl ?_
  have L9_5 : ∀ (n9 : Nat) (y3_4 : Int32), -2147483648 ≤ y3_4.toInt → y3_4.toInt ≤ 2147483647 → y3_4.toInt + 2147483648 < (n9 : Int) → zc_V 4 K G (zc_D shX K G σ0) [(0, .ref (zk K 10)), (1, .int p1), (2, .int p2), (3, .int y3_4)] 9 [] := by
    intro n9
    induction n9 with
    | zero => intro y3_4 fa fb hn9; have vy3_4 := And.intro (zn_lo y3_4) (zn_hi y3_4); exfalso; omega
    | succ n9 ih9 =>
      intro y3_4 fa fb hn9
      have vy3_4 := And.intro (zn_lo y3_4) (zn_hi y3_4)
      refine zr_iload_n hB 3 dX7_bySame_9 rfl ?_
      refine zr_if_lt hB dX7_bySame_10 (tgt := 50) rfl (fun c6 => ?_) (fun c6 => ?_)
      · refine zr_bipush hB dX7_bySame_50 rfl (fun c7 ec7 => ?_)
        exact zr_iret hG dX7_bySame_52 ⟨rfl, by omega, by omega, by omega⟩
      refine zr_iload_n hB 1 dX7_bySame_13 rfl ?_
      refine zr_if_le hB dX7_bySame_14 (tgt := 50) rfl (fun c8 => ?_) (fun c8 => ?_)
      · refine zr_bipush hB dX7_bySame_50 rfl (fun c9 ec9 => ?_)
        exact zr_iret hG dX7_bySame_52 ⟨rfl, by omega, by omega, by omega⟩
      refine zr_iload_n hB 3 dX7_bySame_17 rfl ?_
      refine zr_aload_n hB 0 dX7_bySame_18 rfl ?_
      refine zr_geti' hG 10 2 (σ0.1 10 2) dX7_bySame_19 rfl wf_X7_25 rfl rfl ?_
      refine zr_icmp_gt hB dX7_bySame_22 (tgt := 43) rfl (fun c10 => ?_) (fun c10 => ?_)
      · refine zr_iload_n hB 3 dX7_bySame_43 rfl ?_
        refine zr_iload_n hB 1 dX7_bySame_44 rfl ?_
        have v12 := And.intro (zn_lo y3_4) (zn_hi y3_4)
        have v13 := And.intro (zn_lo p1) (zn_hi p1)
        refine zr_isub hB dX7_bySame_45 (by omega) (by omega) (fun x11 ex11 => ?_)
        refine zr_istore_n hB dX7_bySame_46 rfl (by decide) (lv' := [(3, .int x11), (0, .ref (zk K 10)), (1, .int p1), (2, .int p2)]) rfl ?_
        refine zr_goto hB dX7_bySame_47 (tgt := 9) rfl ?_
        exact zc_sub [1, 2, 3, 0] rfl (ih9 x11 (show -2147483648 ≤ x11.toInt by exact zn_lo _) (show x11.toInt ≤ 2147483647 by exact zn_hi _) (show x11.toInt + 2147483648 < (n9 : Int) by omega))
      refine zr_aload_n hB 0 dX7_bySame_25 rfl ?_
      refine zr_getr hG 10 1 dX7_bySame_26 rfl wf_X7_9 rfl ?_
      refine zr_iload_n hB 3 dX7_bySame_29 rfl ?_
      refine zr_iald hG 44 dX7_bySame_30 rfl (by omega) (by omega) (fun x14 ex14 => ?_)
      have bx14 : (-4) ≤ x14.toInt ∧ x14.toInt ≤ 999 ∧ (x14.toInt = (-4) ∨ 0 ≤ x14.toInt) := by rw [ex14]; exact hO0 44 _
      refine zr_bipush hB dX7_bySame_31 rfl (fun c15 ec15 => ?_)
      refine zr_icmp_eq hB dX7_bySame_33 (tgt := 43) rfl (fun c16 => ?_) (fun c16 => ?_)
      · refine zr_iload_n hB 3 dX7_bySame_43 rfl ?_
        refine zr_iload_n hB 1 dX7_bySame_44 rfl ?_
        have v18 := And.intro (zn_lo p1) (zn_hi p1)
        refine zr_isub hB dX7_bySame_45 (by omega) (by omega) (fun x17 ex17 => ?_)
        refine zr_istore_n hB dX7_bySame_46 rfl (by decide) (lv' := [(3, .int x17), (0, .ref (zk K 10)), (1, .int p1), (2, .int p2)]) rfl ?_
        refine zr_goto hB dX7_bySame_47 (tgt := 9) rfl ?_
        exact zc_sub [1, 2, 3, 0] rfl (ih9 x17 (show -2147483648 ≤ x17.toInt by exact zn_lo _) (show x17.toInt ≤ 2147483647 by exact zn_hi _) (show x17.toInt + 2147483648 < (n9 : Int) by omega))
      refine zr_aload_n hB 0 dX7_bySame_36 rfl ?_
      refine zr_getr hG 10 1 dX7_bySame_37 rfl wf_X7_9 rfl ?_
      refine zr_iload_n hB 3 dX7_bySame_40 rfl ?_
      refine zr_iald hG 44 dX7_bySame_41 rfl (by omega) (by omega) (fun x19 ex19 => ?_)
      obtain rfl : x14 = x19 := ex14.trans ex19.symm
      exact zr_iret hG dX7_bySame_42 ⟨rfl, by omega, by omega, by omega⟩
  have v20 := And.intro (zn_lo x3) (zn_hi x3)
  exact zc_sub [1, 2, 3, 0] rfl (L9_5 4294967298 x3 (show -2147483648 ≤ x3.toInt by exact zn_lo _) (show x3.toInt ≤ 2147483647 by exact zn_hi _) (show x3.toInt + 2147483648 < ((4294967298 : Nat) : Int) by omega))

set_option maxHeartbeats 1000000 in
set_option maxRecDepth 100000 in
theorem c_X7_byMean_10 (K : zc_K) (hi : zc_inj shX K.2.2.2.1) (σ0 : zc_S) (p1 : Int32) (hO0 : zc_O okX σ0)  : zc_M shX K yX7_byMean cX7_byMean 5 (some .int) (zrm 0 0) σ0 [.ref (zk K 10), .int p1] (zc_I (fun r9 σ9 => σ0 = σ9 ∧ (-4) ≤ r9.toInt ∧ r9.toInt ≤ 999 ∧ (r9.toInt = (-4) ∨ 0 ≤ r9.toInt))) := by
  refine zc_start RX7 hi pfX7_byMean rfl (Nat.le_of_ble_eq_true rfl) ?_
  intro G hG
  have hB := hG.1
  show zc_V 5 K G (zc_D shX K G σ0) [(0, .ref (zk K 10)), (1, .int p1)] 0 []
  refine zr_iconst hB dX7_byMean_0 rfl (fun c1 ec1 => ?_)
  refine zr_istore_n hB dX7_byMean_1 rfl (by decide) (lv' := [(2, .int c1), (0, .ref (zk K 10)), (1, .int p1)]) rfl ?_
  refine zr_iconst hB dX7_byMean_2 rfl (fun c2 ec2 => ?_)
  refine zr_istore_n hB dX7_byMean_3 rfl (by decide) (lv' := [(3, .int c2), (2, .int c1), (0, .ref (zk K 10)), (1, .int p1)]) rfl ?_
  refine zr_aload_n hB 2 dX7_byMean_4 rfl ?_
  refine zr_geti' hG 10 2 (σ0.1 10 2) dX7_byMean_5 rfl wf_X7_25 rfl rfl ?_
  have b3 : 0 ≤ (σ0.1 10 2).toInt ∧ (σ0.1 10 2).toInt ≤ 63 := ⟨(hO0 10 2).1, (hO0 10 2).2.1⟩
  refine zr_istore hB dX7_byMean_8 (by decide) (lv' := [(4, .int (σ0.1 10 2)), (3, .int c2), (2, .int c1), (0, .ref (zk K 10)), (1, .int p1)]) rfl ?_
  have L10_9 : ∀ (n10 : Nat) (y2_4 : Int32) (y3_5 : Int32) (y4_6 : Int32), 0 ≤ y2_4.toInt → y2_4.toInt ≤ 63936 → 0 ≤ y3_5.toInt → y3_5.toInt ≤ 64 → (-1) ≤ y4_6.toInt → y4_6.toInt ≤ 63 → y2_4.toInt ≤ 999 * y3_5.toInt → y3_5.toInt + y4_6.toInt ≤ 63 → y4_6.toInt - (-1) < (n10 : Int) → zc_V 5 K G (zc_D shX K G σ0) [(0, .ref (zk K 10)), (1, .int p1), (2, .int y2_4), (3, .int y3_5), (4, .int y4_6)] 10 [] := by
    intro n10
    induction n10 with
    | zero => intro y2_4 y3_5 y4_6 y2_4a y2_4b y3_5a y3_5b y4_6a y4_6b e7 e8 hn10; exfalso; omega
    | succ n10 ih10 =>
      intro y2_4 y3_5 y4_6 y2_4a y2_4b y3_5a y3_5b y4_6a y4_6b e7 e8 hn10
      refine zr_iload hB 4 dX7_byMean_10 rfl ?_
      have L51_10 : zc_V 5 K G (zc_D shX K G σ0) [(0, .ref (zk K 10)), (1, .int p1), (2, .int y2_4), (3, .int y3_5), (4, .int y4_6)] 51 [] := by
        refine zr_iload_n hB 3 dX7_byMean_51 rfl ?_
        refine zr_iload_n hB 1 dX7_byMean_52 rfl ?_
        refine zr_icmp_lt hB dX7_byMean_53 (tgt := 60) rfl (fun c11 => ?_) (fun c11 => ?_)
        · refine zr_bipush hB dX7_byMean_60 rfl (fun c12 ec12 => ?_)
          refine zr_goto hB dX7_byMean_62 (tgt := 68) rfl ?_
          exact zr_iret hG dX7_byMean_68 ⟨rfl, by omega, by omega, by omega⟩
        refine zr_iload_n hB 3 dX7_byMean_56 rfl ?_
        refine zr_if_ne hB dX7_byMean_57 (tgt := 65) rfl (fun c13 => ?_) (fun c13 => ?_)
        · refine zr_iload_n hB 2 dX7_byMean_65 rfl ?_
          refine zr_iload_n hB 3 dX7_byMean_66 rfl ?_
          refine zr_idiv hB dX7_byMean_67 (by omega) (by omega) (fun x14 ex14 ex14a ex14b ex14c => ?_)
          have ex14d := ex14c 999 (by omega)
          exact zr_iret hG dX7_byMean_68 ⟨rfl, by omega, by omega, by omega⟩
        refine zr_bipush hB dX7_byMean_60 rfl (fun c15 ec15 => ?_)
        refine zr_goto hB dX7_byMean_62 (tgt := 68) rfl ?_
        exact zr_iret hG dX7_byMean_68 ⟨rfl, by omega, by omega, by omega⟩
      refine zr_if_lt hB dX7_byMean_12 (tgt := 51) rfl (fun c16 => ?_) (fun c16 => ?_)
      · exact L51_10
      refine zr_iload_n hB 3 dX7_byMean_15 rfl ?_
      refine zr_iload_n hB 1 dX7_byMean_16 rfl ?_
      refine zr_icmp_ge hB dX7_byMean_17 (tgt := 51) rfl (fun c17 => ?_) (fun c17 => ?_)
      · exact L51_10
      refine zr_aload_n hB 0 dX7_byMean_20 rfl ?_
      refine zr_getr hG 10 1 dX7_byMean_21 rfl wf_X7_9 rfl ?_
      refine zr_iload hB 4 dX7_byMean_24 rfl ?_
      refine zr_iald hG 44 dX7_byMean_26 rfl (by omega) (by omega) (fun x18 ex18 => ?_)
      have bx18 : (-4) ≤ x18.toInt ∧ x18.toInt ≤ 999 ∧ (x18.toInt = (-4) ∨ 0 ≤ x18.toInt) := by rw [ex18]; exact hO0 44 _
      refine zr_bipush hB dX7_byMean_27 rfl (fun c19 ec19 => ?_)
      refine zr_icmp_eq hB dX7_byMean_29 (tgt := 45) rfl (fun c20 => ?_) (fun c20 => ?_)
      · refine zr_iinc hB 4 dX7_byMean_45 rfl (by decide) rfl (by omega) (by omega) (fun x21 ex21 lv' hlv => ?_)
        obtain rfl : [(4, .int x21), (0, .ref (zk K 10)), (1, .int p1), (2, .int y2_4), (3, .int y3_5)] = lv' := hlv
        refine zr_goto hB dX7_byMean_48 (tgt := 10) rfl ?_
        exact zc_sub [1, 2, 3, 4, 0] rfl (ih10 y2_4 y3_5 x21 (by omega) (by omega) (by omega) (by omega) (by omega) (by omega) (show y2_4.toInt ≤ 999 * y3_5.toInt by omega) (show y3_5.toInt + x21.toInt ≤ 63 by omega) (by omega))
      refine zr_iload_n hB 2 dX7_byMean_32 rfl ?_
      refine zr_aload_n hB 0 dX7_byMean_33 rfl ?_
      refine zr_getr hG 10 1 dX7_byMean_34 rfl wf_X7_9 rfl ?_
      refine zr_iload hB 4 dX7_byMean_37 rfl ?_
      refine zr_iald hG 44 dX7_byMean_39 rfl (by omega) (by omega) (fun x22 ex22 => ?_)
      obtain rfl : x18 = x22 := ex18.trans ex22.symm
      refine zr_iadd hB dX7_byMean_40 (by omega) (by omega) (fun x23 ex23 => ?_)
      refine zr_istore_n hB dX7_byMean_41 rfl (by decide) (lv' := [(2, .int x23), (0, .ref (zk K 10)), (1, .int p1), (3, .int y3_5), (4, .int y4_6)]) rfl ?_
      refine zr_iinc hB 3 dX7_byMean_42 rfl (by decide) rfl (by omega) (by omega) (fun x24 ex24 lv' hlv => ?_)
      obtain rfl : [(3, .int x24), (2, .int x23), (0, .ref (zk K 10)), (1, .int p1), (4, .int y4_6)] = lv' := hlv
      refine zr_iinc hB 4 dX7_byMean_45 rfl (by decide) rfl (by omega) (by omega) (fun x25 ex25 lv' hlv => ?_)
      obtain rfl : [(4, .int x25), (3, .int x24), (2, .int x23), (0, .ref (zk K 10)), (1, .int p1)] = lv' := hlv
      refine zr_goto hB dX7_byMean_48 (tgt := 10) rfl ?_
      exact zc_sub [3, 4, 2, 1, 0] rfl (ih10 x23 x24 x25 (by omega) (by omega) (by omega) (by omega) (by omega) (by omega) (show x23.toInt ≤ 999 * x24.toInt by omega) (show x24.toInt + x25.toInt ≤ 63 by omega) (by omega))
  exact zc_sub [3, 4, 2, 1, 0] rfl (L10_9 66 c1 c2 (σ0.1 10 2) (by omega) (by omega) (by omega) (by omega) (by omega) (by omega) (show c1.toInt ≤ 999 * c2.toInt by omega) (show c2.toInt + (σ0.1 10 2).toInt ≤ 63 by omega) (by omega))

set_option maxHeartbeats 1000000 in
set_option maxRecDepth 100000 in
theorem c_X7_byStep_10 (K : zc_K) (hi : zc_inj shX K.2.2.2.1) (σ0 : zc_S) (p1 : Int32) (p2 : Int32) (p3 : Int32) (hO0 : zc_O okX σ0)  : zc_M shX K yX7_byStep cX7_byStep 13 (some .int) (zrm 2 51) σ0 [.ref (zk K 10), .int p1, .int p2, .int p3] (zc_I (fun r9 σ9 => σ0 = σ9 ∧ (-4) ≤ r9.toInt ∧ r9.toInt ≤ 999 ∧ (r9.toInt = (-4) ∨ 0 ≤ r9.toInt))) := by
  refine zc_start RX7 hi pfX7_byStep rfl (Nat.le_of_ble_eq_true rfl) ?_
  intro G hG
  have hB := hG.1
  show zc_V 13 K G (zc_D shX K G σ0) [(0, .ref (zk K 10)), (1, .int p1), (2, .int p2), (3, .int p3)] 0 []
  refine zr_lconst hB dX7_byStep_0 (m := 0) rfl (fun c1 ec1 => ?_)
  refine zr_lstore hB dX7_byStep_1 (by decide) (lv' := [(4, .long c1), (0, .ref (zk K 10)), (1, .int p1), (2, .int p2), (3, .int p3)]) rfl ?_
  refine zr_lconst hB dX7_byStep_3 (m := 0) rfl (fun c2 ec2 => ?_)
  refine zr_lstore hB dX7_byStep_4 (by decide) (lv' := [(6, .long c2), (4, .long c1), (0, .ref (zk K 10)), (1, .int p1), (2, .int p2), (3, .int p3)]) rfl ?_
  refine zr_iconst hB dX7_byStep_6 rfl (fun c3 ec3 => ?_)
  refine zr_istore hB dX7_byStep_7 (by decide) (lv' := [(8, .int c3), (6, .long c2), (4, .long c1), (0, .ref (zk K 10)), (1, .int p1), (2, .int p2), (3, .int p3)]) rfl ?_
  refine zr_iconst hB dX7_byStep_9 rfl (fun c4 ec4 => ?_)
  refine zr_istore hB dX7_byStep_10 (by decide) (lv' := [(9, .int c4), (8, .int c3), (6, .long c2), (4, .long c1), (0, .ref (zk K 10)), (1, .int p1), (2, .int p2), (3, .int p3)]) rfl ?_
  have L12_9 : ∀ (n12 : Nat) (y4_5 : Int64) (y6_6 : Int64) (y8_7 : Int32) (y9_8 : Int32), 0 ≤ y9_8.toInt → y9_8.toInt ≤ 64 → 64 - y9_8.toInt < (n12 : Int) → zc_V 13 K G (zc_D shX K G σ0) [(0, .ref (zk K 10)), (1, .int p1), (2, .int p2), (3, .int p3), (4, .long y4_5), (6, .long y6_6), (8, .int y8_7), (9, .int y9_8)] 12 [] := by
    intro n12
    induction n12 with
    | zero => intro y4_5 y6_6 y8_7 y9_8 y9_8a y9_8b hn12; have vy8_7 := And.intro (zn_lo y8_7) (zn_hi y8_7); exfalso; omega
    | succ n12 ih12 =>
      intro y4_5 y6_6 y8_7 y9_8 y9_8a y9_8b hn12
      have vy8_7 := And.intro (zn_lo y8_7) (zn_hi y8_7)
      refine zr_iload hB 7 dX7_byStep_12 rfl ?_
      refine zr_aload_n hB 0 dX7_byStep_14 rfl ?_
      refine zr_geti' hG 10 2 (σ0.1 10 2) dX7_byStep_15 rfl wf_X7_25 rfl rfl ?_
      have b10 : 0 ≤ (σ0.1 10 2).toInt ∧ (σ0.1 10 2).toInt ≤ 63 := ⟨(hO0 10 2).1, (hO0 10 2).2.1⟩
      refine zr_icmp_gt hB dX7_byStep_18 (tgt := 88) rfl (fun c11 => ?_) (fun c11 => ?_)
      · refine zr_iload hB 6 dX7_byStep_88 rfl ?_
        refine zr_iconst hB dX7_byStep_90 rfl (fun c12 ec12 => ?_)
        refine zr_icmp_ge hB dX7_byStep_91 (tgt := 99) rfl (fun c13 => ?_) (fun c13 => ?_)
        · refine zr_lload hB 4 dX7_byStep_99 rfl ?_
          refine zr_lload hB 5 dX7_byStep_101 rfl ?_
          refine zr_iload_n hB 3 dX7_byStep_103 rfl ?_
          refine zr_callsi hG (rest := []) dX7_byStep_104 wm_X7_55 (c_X7_toldByStep K hG.2.2.2.2.2.1 σ0 y4_5 y6_6 p3 hO0 ) rfl rfl (Nat.le_of_ble_eq_true rfl) ⟨Nat.le_of_ble_eq_true rfl, Nat.le_of_ble_eq_true rfl, rfl, rfl⟩ (fun r14 σ15 h16 => ?_)
          obtain ⟨rfl, r14a, r14b⟩ := h16
          exact zr_iret hG dX7_byStep_107 ⟨rfl, by omega, by omega, by omega⟩
        refine zr_bipush hB dX7_byStep_94 rfl (fun c17 ec17 => ?_)
        refine zr_goto hB dX7_byStep_96 (tgt := 107) rfl ?_
        exact zr_iret hG dX7_byStep_107 ⟨rfl, by omega, by omega, by omega⟩
      refine zr_aload_n hB 0 dX7_byStep_21 rfl ?_
      refine zr_getr hG 10 1 dX7_byStep_22 rfl wf_X7_9 rfl ?_
      refine zr_iload hB 7 dX7_byStep_25 rfl ?_
      refine zr_iald hG 44 dX7_byStep_27 rfl (by omega) (by omega) (fun x18 ex18 => ?_)
      have bx18 : (-4) ≤ x18.toInt ∧ x18.toInt ≤ 999 ∧ (x18.toInt = (-4) ∨ 0 ≤ x18.toInt) := by rw [ex18]; exact hO0 44 _
      refine zr_istore hB dX7_byStep_28 (by decide) (lv' := [(10, .int x18), (0, .ref (zk K 10)), (1, .int p1), (2, .int p2), (3, .int p3), (4, .long y4_5), (6, .long y6_6), (8, .int y8_7), (9, .int y9_8)]) rfl ?_
      refine zr_lload hB 5 dX7_byStep_30 rfl ?_
      refine zr_lstore hB dX7_byStep_32 (by decide) (lv' := [(11, .long y4_5), (10, .int x18), (0, .ref (zk K 10)), (1, .int p1), (2, .int p2), (3, .int p3), (4, .long y4_5), (6, .long y6_6), (8, .int y8_7), (9, .int y9_8)]) rfl ?_
      refine zr_iload_n hB 3 dX7_byStep_34 rfl ?_
      refine zr_iload hB 1 dX7_byStep_35 rfl ?_
      refine zr_lload hB 6 dX7_byStep_37 rfl ?_
      refine zr_lload hB 7 dX7_byStep_39 rfl ?_
      refine zr_iload hB 8 dX7_byStep_41 rfl ?_
      refine zr_callsl hG (rest := []) dX7_byStep_43 wm_X7_48 (c_X7_levelAfter K hG.2.2.2.2.2.1 σ0 p1 x18 y4_5 y6_6 y8_7 hO0 ) rfl rfl (Nat.le_of_ble_eq_true rfl) ⟨Nat.le_of_ble_eq_true rfl, Nat.le_of_ble_eq_true rfl, rfl, rfl⟩ (fun r19 σ20 h21 => ?_)
      obtain rfl := h21
      refine zr_lstore hB dX7_byStep_46 (by decide) (lv' := [(4, .long r19), (11, .long y4_5), (10, .int x18), (0, .ref (zk K 10)), (1, .int p1), (2, .int p2), (3, .int p3), (6, .long y6_6), (8, .int y8_7), (9, .int y9_8)]) rfl ?_
      refine zr_iload_n hB 5 dX7_byStep_48 rfl ?_
      refine zr_iload hB 2 dX7_byStep_49 rfl ?_
      refine zr_lload hB 0 dX7_byStep_51 rfl ?_
      refine zr_lload hB 1 dX7_byStep_53 rfl ?_
      refine zr_lsubw hB dX7_byStep_55 (fun l22 el22 => ?_)
      refine zr_lload hB 7 dX7_byStep_56 rfl ?_
      refine zr_iload hB 8 dX7_byStep_58 rfl ?_
      refine zr_callsl hG (rest := []) dX7_byStep_60 wm_X7_52 (c_X7_slopeAfter K hG.2.2.2.2.2.1 σ0 p2 x18 l22 y6_6 y8_7 hO0 ) rfl rfl (Nat.le_of_ble_eq_true rfl) ⟨Nat.le_of_ble_eq_true rfl, Nat.le_of_ble_eq_true rfl, rfl, rfl⟩ (fun r23 σ24 h25 => ?_)
      obtain rfl := h25
      refine zr_lstore hB dX7_byStep_63 (by decide) (lv' := [(6, .long r23), (4, .long r19), (11, .long y4_5), (10, .int x18), (0, .ref (zk K 10)), (1, .int p1), (2, .int p2), (3, .int p3), (8, .int y8_7), (9, .int y9_8)]) rfl ?_
      refine zr_iload hB 8 dX7_byStep_65 rfl ?_
      refine zr_iload hB 3 dX7_byStep_67 rfl ?_
      refine zr_bipush hB dX7_byStep_69 rfl (fun c26 ec26 => ?_)
      refine zr_icmp_ne hB dX7_byStep_71 (tgt := 78) rfl (fun c27 => ?_) (fun c27 => ?_)
      · refine zr_iconst hB dX7_byStep_78 rfl (fun c28 ec28 => ?_)
        refine zr_iaddw hB dX7_byStep_79 (fun x29 ex29 => ?_)
        refine zr_istore hB dX7_byStep_80 (by decide) (lv' := [(8, .int x29), (6, .long r23), (4, .long r19), (11, .long y4_5), (10, .int x18), (0, .ref (zk K 10)), (1, .int p1), (2, .int p2), (3, .int p3), (9, .int y9_8)]) rfl ?_
        refine zr_iinc hB 9 dX7_byStep_82 rfl (by decide) rfl (by omega) (by omega) (fun x30 ex30 lv' hlv => ?_)
        obtain rfl : [(9, .int x30), (8, .int x29), (6, .long r23), (4, .long r19), (11, .long y4_5), (10, .int x18), (0, .ref (zk K 10)), (1, .int p1), (2, .int p2), (3, .int p3)] = lv' := hlv
        refine zr_goto hB dX7_byStep_85 (tgt := 12) rfl ?_
        exact zc_sub [6, 7, 8, 9, 3, 2, 1, 0] rfl (ih12 r19 r23 x29 x30 (by omega) (by omega) (by omega))
      refine zr_iconst hB dX7_byStep_74 rfl (fun c31 ec31 => ?_)
      refine zr_goto hB dX7_byStep_75 (tgt := 79) rfl ?_
      have v33 := And.intro (zn_lo y8_7) (zn_hi y8_7)
      refine zr_iadd hB dX7_byStep_79 (by omega) (by omega) (fun x32 ex32 => ?_)
      refine zr_istore hB dX7_byStep_80 (by decide) (lv' := [(8, .int x32), (6, .long r23), (4, .long r19), (11, .long y4_5), (10, .int x18), (0, .ref (zk K 10)), (1, .int p1), (2, .int p2), (3, .int p3), (9, .int y9_8)]) rfl ?_
      refine zr_iinc hB 9 dX7_byStep_82 rfl (by decide) rfl (by omega) (by omega) (fun x34 ex34 lv' hlv => ?_)
      obtain rfl : [(9, .int x34), (8, .int x32), (6, .long r23), (4, .long r19), (11, .long y4_5), (10, .int x18), (0, .ref (zk K 10)), (1, .int p1), (2, .int p2), (3, .int p3)] = lv' := hlv
      refine zr_goto hB dX7_byStep_85 (tgt := 12) rfl ?_
      exact zc_sub [6, 7, 8, 9, 3, 2, 1, 0] rfl (ih12 r19 r23 x32 x34 (by omega) (by omega) (by omega))
  exact zc_sub [4, 5, 6, 7, 3, 2, 1, 0] rfl (L12_9 66 c1 c2 c3 c4 (by omega) (by omega) (by omega))
