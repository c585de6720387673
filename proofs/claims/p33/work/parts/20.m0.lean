def shM : List zc_H := [.inl (9, [some 1, none, none, some 2, some 3, some 4, none, none, none, none, none, none, none, none, some 5, some 6, some 7, none, some 8, some 9, some 10, none, some 11, some 12, some 13, some 14, some 15, some 16, none, some 17, some 18, some 19, some 20, some 21, some 22, some 23, some 24, some 25, some 26, none]), .inr (0, 16384, false), .inr (1, 64, false), .inr (1, 64, false), .inr (0, 120, false), .inr (0, 6, false), .inr (0, 22, false), .inr (0, 5, false), .inr (0, 6, false), .inr (0, 6, false), .inr (0, 6, false), .inr (0, 6, false), .inr (0, 6, false), .inr (0, 6, false), .inr (0, 64, false), .inr (1, 64, false), .inr (0, 64, false), .inr (0, 24, false), .inr (0, 24, false), .inr (0, 24, false), .inr (0, 24, false), .inr (0, 24, false), .inr (0, 24, false), .inr (0, 24, false), .inr (0, 4, false), .inr (0, 4, false), .inr (0, 256, false)]
def okM : zc_tb := [[(-2147483648, 2147483647, -2147483648), (0, 63, 0), (0, 200, 0), (-2147483648, 2147483647, -2147483648), (-2147483648, 2147483647, -2147483648), (-2147483648, 2147483647, -2147483648), (0, 120, 0), (0, 5, 0), (0, 5, 0), (0, 120, 0), (0, 120, 0), (0, 120, 0), (0, 3, 0), (0, 99, 0), (-2147483648, 2147483647, -2147483648), (-2147483648, 2147483647, -2147483648), (-2147483648, 2147483647, -2147483648), (0, 6, 0), (-2147483648, 2147483647, -2147483648), (-2147483648, 2147483647, -2147483648), (-2147483648, 2147483647, -2147483648), (0, 6, 0), (-2147483648, 2147483647, -2147483648), (-2147483648, 2147483647, -2147483648), (-2147483648, 2147483647, -2147483648), (-2147483648, 2147483647, -2147483648), (-2147483648, 2147483647, -2147483648), (-2147483648, 2147483647, -2147483648), (0, 24, 0), (-2147483648, 2147483647, -2147483648), (-2147483648, 2147483647, -2147483648), (-2147483648, 2147483647, -2147483648), (-2147483648, 2147483647, -2147483648), (-2147483648, 2147483647, -2147483648), (-2147483648, 2147483647, -2147483648), (-2147483648, 2147483647, -2147483648), (-2147483648, 2147483647, -2147483648), (-2147483648, 2147483647, -2147483648), (-2147483648, 2147483647, -2147483648), (0, 3, 0)], [(0, 1000, 0)], [(0, 1, 0)], [(0, 1, 0)], [(0, 255, 0)], [(0, 22, 0)], [], [(0, 30, 0)], [(0, 4, 0)], [], [], [(0, 4, 0)], [], [], [(-999, 999, -999)], [(0, 1, 0)], [(-999, 999, -999)], [(0, 3, 0)], [(0, 5, 0)], [(0, 63, 0)], [(0, 77, 0)], [(0, 999, 0)], [(0, 999, 0)], [(0, 1, 0)], [(-4, 2, -4)], [(0, 64, 0)], []]
/-- the tellers' numbers: where the kind isn't step, the first is at least 1 -/
def zm_T (σ : zc_S) : Prop := ∀ i : Int, 0 ≤ i → i < (σ.1 0 17).toInt → (σ.1 8 i.toNat).toInt = 2 ∨ 1 ≤ (σ.1 9 i.toNat).toInt
def zm_N (σ : zc_S) : Prop := ∀ i : Int, 0 ≤ i → i < (σ.1 0 21).toInt → (σ.1 11 i.toNat).toInt = 2 ∨ 1 ≤ (σ.1 12 i.toNat).toInt
theorem zm_T.ag {M : zc_ms} {σ σ' : zc_S} (h : zm_T σ) (hA : zc_Ag M σ σ') (h1 : zc_im M 0 17 = false) (h2 : ∀ j, zc_im M 8 j = false) (h3 : ∀ j, zc_im M 9 j = false) : zm_T σ' := by
  intro i h0 hi
  rw [(hA 0 17 h1).1] at hi
  rw [(hA 8 _ (h2 _)).1, (hA 9 _ (h3 _)).1]
  exact h i h0 hi
theorem zm_N.ag {M : zc_ms} {σ σ' : zc_S} (h : zm_N σ) (hA : zc_Ag M σ σ') (h1 : zc_im M 0 21 = false) (h2 : ∀ j, zc_im M 11 j = false) (h3 : ∀ j, zc_im M 12 j = false) : zm_N σ' := by
  intro i h0 hi
  rw [(hA 0 21 h1).1] at hi
  rw [(hA 11 _ (h2 _)).1, (hA 12 _ (h3 _)).1]
  exact h i h0 hi
theorem zm_N0 {σ : zc_S} (h : (σ.1 0 21).toInt ≤ 0) : zm_N σ := fun i h0 hi => by omega
theorem zm_N_add {σ : zc_S} {k f w n : Int32} (h : zm_N σ) (h0 : 0 ≤ (σ.1 0 21).toInt) (hn : n.toInt = (σ.1 0 21).toInt + 1) (hk : k.toInt = 2 ∨ 1 ≤ f.toInt) : zm_N (zc_u (zc_u (zc_u (zc_u σ 11 (σ.1 0 21).toInt.toNat k) 12 (σ.1 0 21).toInt.toNat f) 13 (σ.1 0 21).toInt.toNat w) 0 21 n) := by
  intro i hi0 hi
  have hi : i < n.toInt := hi
  by_cases e : i = (σ.1 0 21).toInt
  · subst e
    show ((if (11 : Nat) = 11 ∧ (σ.1 0 21).toInt.toNat = (σ.1 0 21).toInt.toNat then k else _) : Int32).toInt = 2 ∨ 1 ≤ ((if (12 : Nat) = 12 ∧ (σ.1 0 21).toInt.toNat = (σ.1 0 21).toInt.toNat then f else _) : Int32).toInt
    rw [if_pos ⟨rfl, rfl⟩, if_pos ⟨rfl, rfl⟩]
    exact hk
  · have e2 : ¬ i.toNat = (σ.1 0 21).toInt.toNat := by omega
    show ((if (11 : Nat) = 11 ∧ i.toNat = (σ.1 0 21).toInt.toNat then k else σ.1 11 i.toNat) : Int32).toInt = 2 ∨ 1 ≤ ((if (12 : Nat) = 12 ∧ i.toNat = (σ.1 0 21).toInt.toNat then f else σ.1 12 i.toNat) : Int32).toInt
    rw [if_neg (fun q => e2 q.2), if_neg (fun q => e2 q.2)]
    exact h i hi0 (by omega)
def zm_C (σ : zc_S) (n : Int) : Prop := ∀ i : Int, 0 ≤ i → i < n → σ.1 8 i.toNat = σ.1 11 i.toNat ∧ σ.1 9 i.toNat = σ.1 12 i.toNat
theorem zm_C0 {σ : zc_S} {n : Int} (h : n ≤ 0) : zm_C σ n := fun i h0 hi => by omega
theorem zm_C_add {σ : zc_S} {n m : Int} {j : Nat} {x y w : Int32} (h : zm_C σ n) (hj : j = n.toNat) (h0 : 0 ≤ n) (hm : m = n + 1) (hx : x = σ.1 11 j) (hy : y = σ.1 12 j) : zm_C (zc_u (zc_u (zc_u σ 8 j x) 9 j y) 10 j w) m := by
  intro i hi0 hi
  show (if (8 : Nat) = 8 ∧ i.toNat = j then x else σ.1 8 i.toNat) = σ.1 11 i.toNat ∧ (if (9 : Nat) = 9 ∧ i.toNat = j then y else σ.1 9 i.toNat) = σ.1 12 i.toNat
  by_cases e : i.toNat = j
  · rw [if_pos ⟨rfl, e⟩, if_pos ⟨rfl, e⟩, hx, hy, e]
    exact ⟨rfl, rfl⟩
  · rw [if_neg (fun q => e q.2), if_neg (fun q => e q.2)]
    exact h i hi0 (by omega)
theorem zm_TN {σ : zc_S} (h : zm_N σ) (hc : zm_C σ 6) (h1 : (σ.1 0 17).toInt = (σ.1 0 21).toInt) (h2 : (σ.1 0 21).toInt ≤ 6) : zm_T σ := by
  intro i hi0 hi
  rw [(hc i hi0 (by omega)).1, (hc i hi0 (by omega)).2]
  exact h i hi0 (by omega)
/-- how many of the n days from t on have a miss -/
def zm_mn (σ : zc_S) (t : Int) : Nat → Int
  | 0 => 0
  | n + 1 => zm_mn σ t n + (if (σ.1 15 (t + n).toNat).toInt = 0 then 0 else 1)
theorem zm_mn_s (σ : zc_S) (t : Int) {n m : Nat} (h : m = n + 1) : zm_mn σ t m = zm_mn σ t n + (if (σ.1 15 (t + n).toNat).toInt = 0 then 0 else 1) := by
  subst h; rfl
set_option maxHeartbeats 1000000 in
set_option maxRecDepth 100000 in
theorem c_M_in (K : zc_K) (hi : zc_inj shM K.2.2.2.1) (σ0 : zc_S) (p0 : Int64) (p2 : Int64) (p4 : Int64) (hO0 : zc_O okM σ0)  : zc_M shM K yX9_in cX9_in 6 (some .boolean) (zrm 0 0) σ0 [.long p0, .long p2, .long p4] (zc_I (fun r9 σ9 => σ0 = σ9 ∧ zc_if r9 (p2.toInt ≤ p0.toInt ∧ p0.toInt ≤ p4.toInt))) := by
  refine zc_start RX9 hi pfX9_in rfl (Nat.le_of_ble_eq_true rfl) ?_
  intro G hG
  have hB := hG.1
  show zc_V 6 K G (zc_D shM K G σ0) [(0, .long p0), (2, .long p2), (4, .long p4)] 0 []
  refine zr_lload_n hB 0 dX9_in_0 rfl ?_
  refine zr_lload_n hB 1 dX9_in_1 rfl ?_
  refine zr_lcmp_lt hB dX9_in_2 dX9_in_3 (tgt := 17) rfl (fun c1 => ?_) (fun c1 => ?_)
  · refine zr_iconst hB dX9_in_17 rfl (fun c2 ec2 => ?_)
    exact zr_zret hG dX9_in_18 (by omega) (by omega) ⟨rfl, zc_if.mf (by omega) (by omega)⟩
  refine zr_lload_n hB 0 dX9_in_6 rfl ?_
  refine zr_lload hB 2 dX9_in_7 rfl ?_
  refine zr_lcmp_gt hB dX9_in_9 dX9_in_10 (tgt := 17) rfl (fun c3 => ?_) (fun c3 => ?_)
  · refine zr_iconst hB dX9_in_17 rfl (fun c4 ec4 => ?_)
    exact zr_zret hG dX9_in_18 (by omega) (by omega) ⟨rfl, zc_if.mf (by omega) (by omega)⟩
  refine zr_iconst hB dX9_in_13 rfl (fun c5 ec5 => ?_)
  refine zr_goto hB dX9_in_14 (tgt := 18) rfl ?_
  exact zr_zret hG dX9_in_18 (by omega) (by omega) ⟨rfl, zc_if.mt (by omega) (by omega)⟩

set_option maxHeartbeats 1000000 in
set_option maxRecDepth 100000 in
theorem c_M_isShop (K : zc_K) (hi : zc_inj shM K.2.2.2.1) (σ0 : zc_S) (p0 : Int32) (hO0 : zc_O okM σ0)  : zc_M shM K yX9_isShop cX9_isShop 1 (some .boolean) (zrm 1 25) σ0 [.int p0] (zc_I (fun r9 σ9 => σ0 = σ9 ∧ zc_if r9 (0 ≤ p0.toInt ∧ p0.toInt ≤ 3))) := by
  refine zc_start RX9 hi pfX9_isShop rfl (Nat.le_of_ble_eq_true rfl) ?_
  intro G hG
  have hB := hG.1
  show zc_V 1 K G (zc_D shM K G σ0) [(0, .int p0)] 0 []
  refine zr_iload_n hB 0 dX9_isShop_0 rfl ?_
  have v2 := And.intro (zn_lo p0) (zn_hi p0)
  refine zr_i2l hB dX9_isShop_1 (fun l1 el1 => ?_)
  refine zr_lconst hB dX9_isShop_2 (m := 0) rfl (fun c3 ec3 => ?_)
  refine zr_ldc2 hB dX9_isShop_3 wc_X9_89 (n := 3) rfl (fun c4 ec4 => ?_)
  refine zr_callsi hG (rest := []) dX9_isShop_6 wm_X9_91 (c_M_in K hG.2.2.2.2.2.1 σ0 l1 c3 c4 hO0 ) rfl rfl (Nat.le_of_ble_eq_true rfl) ⟨Nat.le_of_ble_eq_true rfl, Nat.le_of_ble_eq_true rfl, rfl, rfl⟩ (fun r5 σ6 h7 => ?_)
  obtain ⟨rfl, r5q⟩ := h7
  have r5z := r5q.b
  exact zr_zret hG dX9_isShop_9 (by omega) (by omega) ⟨rfl, zc_if.to r5q ⟨fun hq9 => by omega, fun hq9 => by omega⟩⟩

set_option maxHeartbeats 1000000 in
set_option maxRecDepth 100000 in
theorem c_M_isDay (K : zc_K) (hi : zc_inj shM K.2.2.2.1) (σ0 : zc_S) (p0 : Int32) (hO0 : zc_O okM σ0)  : zc_M shM K yX9_isDay cX9_isDay 1 (some .boolean) (zrm 1 25) σ0 [.int p0] (zc_I (fun r9 σ9 => σ0 = σ9 ∧ zc_if r9 (0 ≤ p0.toInt ∧ p0.toInt ≤ 63))) := by
  refine zc_start RX9 hi pfX9_isDay rfl (Nat.le_of_ble_eq_true rfl) ?_
  intro G hG
  have hB := hG.1
  show zc_V 1 K G (zc_D shM K G σ0) [(0, .int p0)] 0 []
  refine zr_iload_n hB 0 dX9_isDay_0 rfl ?_
  have v2 := And.intro (zn_lo p0) (zn_hi p0)
  refine zr_i2l hB dX9_isDay_1 (fun l1 el1 => ?_)
  refine zr_lconst hB dX9_isDay_2 (m := 0) rfl (fun c3 ec3 => ?_)
  refine zr_ldc2 hB dX9_isDay_3 wc_X9_95 (n := 63) rfl (fun c4 ec4 => ?_)
  refine zr_callsi hG (rest := []) dX9_isDay_6 wm_X9_91 (c_M_in K hG.2.2.2.2.2.1 σ0 l1 c3 c4 hO0 ) rfl rfl (Nat.le_of_ble_eq_true rfl) ⟨Nat.le_of_ble_eq_true rfl, Nat.le_of_ble_eq_true rfl, rfl, rfl⟩ (fun r5 σ6 h7 => ?_)
  obtain ⟨rfl, r5q⟩ := h7
  have r5z := r5q.b
  exact zr_zret hG dX9_isDay_9 (by omega) (by omega) ⟨rfl, zc_if.to r5q ⟨fun hq9 => by omega, fun hq9 => by omega⟩⟩

set_option maxHeartbeats 1000000 in
set_option maxRecDepth 100000 in
theorem c_M_isAhead (K : zc_K) (hi : zc_inj shM K.2.2.2.1) (σ0 : zc_S) (p0 : Int32) (hO0 : zc_O okM σ0)  : zc_M shM K yX9_isAhead cX9_isAhead 1 (some .boolean) (zrm 1 25) σ0 [.int p0] (zc_I (fun r9 σ9 => σ0 = σ9 ∧ zc_if r9 (1 ≤ p0.toInt ∧ p0.toInt ≤ 14))) := by
  refine zc_start RX9 hi pfX9_isAhead rfl (Nat.le_of_ble_eq_true rfl) ?_
  intro G hG
  have hB := hG.1
  show zc_V 1 K G (zc_D shM K G σ0) [(0, .int p0)] 0 []
  refine zr_iload_n hB 0 dX9_isAhead_0 rfl ?_
  have v2 := And.intro (zn_lo p0) (zn_hi p0)
  refine zr_i2l hB dX9_isAhead_1 (fun l1 el1 => ?_)
  refine zr_lconst hB dX9_isAhead_2 (m := 1) rfl (fun c3 ec3 => ?_)
  refine zr_ldc2 hB dX9_isAhead_3 wc_X9_217 (n := 14) rfl (fun c4 ec4 => ?_)
  refine zr_callsi hG (rest := []) dX9_isAhead_6 wm_X9_91 (c_M_in K hG.2.2.2.2.2.1 σ0 l1 c3 c4 hO0 ) rfl rfl (Nat.le_of_ble_eq_true rfl) ⟨Nat.le_of_ble_eq_true rfl, Nat.le_of_ble_eq_true rfl, rfl, rfl⟩ (fun r5 σ6 h7 => ?_)
  obtain ⟨rfl, r5q⟩ := h7
  have r5z := r5q.b
  exact zr_zret hG dX9_isAhead_9 (by omega) (by omega) ⟨rfl, zc_if.to r5q ⟨fun hq9 => by omega, fun hq9 => by omega⟩⟩

set_option maxHeartbeats 1000000 in
set_option maxRecDepth 100000 in
theorem c_M_areDays (K : zc_K) (hi : zc_inj shM K.2.2.2.1) (σ0 : zc_S) (p0 : Int32) (p1 : Int32) (hO0 : zc_O okM σ0)  : zc_M shM K yX9_areDays cX9_areDays 2 (some .boolean) (zrm 2 45) σ0 [.int p0, .int p1] (zc_I (fun r9 σ9 => σ0 = σ9 ∧ zc_if r9 (0 ≤ p0.toInt ∧ p0.toInt ≤ p1.toInt ∧ p1.toInt ≤ 63 ∧ p0.toInt ≤ 63 ∧ 0 ≤ p1.toInt))) := by
  refine zc_start RX9 hi pfX9_areDays rfl (Nat.le_of_ble_eq_true rfl) ?_
  intro G hG
  have hB := hG.1
  show zc_V 2 K G (zc_D shM K G σ0) [(0, .int p0), (1, .int p1)] 0 []
  refine zr_iload_n hB 0 dX9_areDays_0 rfl ?_
  refine zr_callsi hG (rest := []) dX9_areDays_1 wm_X9_97 (c_M_isDay K hG.2.2.2.2.2.1 σ0 p0 hO0 ) rfl rfl (Nat.le_of_ble_eq_true rfl) ⟨Nat.le_of_ble_eq_true rfl, Nat.le_of_ble_eq_true rfl, rfl, rfl⟩ (fun r1 σ2 h3 => ?_)
  obtain ⟨rfl, r1q⟩ := h3
  have r1z := r1q.b
  refine zr_if_eq hB dX9_areDays_4 (tgt := 24) rfl (fun c4 => ?_) (fun c4 => ?_)
  · have q5 := r1q.f c4
    refine zr_iconst hB dX9_areDays_24 rfl (fun c6 ec6 => ?_)
    exact zr_zret hG dX9_areDays_25 (by omega) (by omega) ⟨rfl, zc_if.mf (by omega) (by omega)⟩
  have q7 := r1q.t c4
  refine zr_iload_n hB 1 dX9_areDays_7 rfl ?_
  have v9 := And.intro (zn_lo p1) (zn_hi p1)
  refine zr_i2l hB dX9_areDays_8 (fun l8 el8 => ?_)
  refine zr_iload_n hB 0 dX9_areDays_9 rfl ?_
  refine zr_i2l hB dX9_areDays_10 (fun l10 el10 => ?_)
  refine zr_ldc2 hB dX9_areDays_11 wc_X9_95 (n := 63) rfl (fun c11 ec11 => ?_)
  refine zr_callsi hG (rest := []) dX9_areDays_14 wm_X9_91 (c_M_in K hG.2.2.2.2.2.1 σ0 l8 l10 c11 hO0 ) rfl rfl (Nat.le_of_ble_eq_true rfl) ⟨Nat.le_of_ble_eq_true rfl, Nat.le_of_ble_eq_true rfl, rfl, rfl⟩ (fun r12 σ13 h14 => ?_)
  obtain ⟨rfl, r12q⟩ := h14
  have r12z := r12q.b
  refine zr_if_eq hB dX9_areDays_17 (tgt := 24) rfl (fun c15 => ?_) (fun c15 => ?_)
  · have q16 := r12q.f c15
    refine zr_iconst hB dX9_areDays_24 rfl (fun c17 ec17 => ?_)
    exact zr_zret hG dX9_areDays_25 (by omega) (by omega) ⟨rfl, zc_if.mf (by omega) (by omega)⟩
  have q18 := r12q.t c15
  refine zr_iconst hB dX9_areDays_20 rfl (fun c19 ec19 => ?_)
  refine zr_goto hB dX9_areDays_21 (tgt := 25) rfl ?_
  exact zr_zret hG dX9_areDays_25 (by omega) (by omega) ⟨rfl, zc_if.mt (by omega) (by omega)⟩

set_option maxHeartbeats 1000000 in
set_option maxRecDepth 100000 in
theorem c_M_knownOn (K : zc_K) (hi : zc_inj shM K.2.2.2.1) (σ0 : zc_S) (p1 : Int32) (p2 : Int32) (p3 : Int32) (hO0 : zc_O okM σ0) (h1a : 0 ≤ p1.toInt) (h1b : p1.toInt ≤ 3) (h3a : 0 ≤ p3.toInt) (h3b : p3.toInt ≤ 63) : zc_M shM K yX9_knownOn cX9_knownOn 4 (some .int) (zrm 2 45) σ0 [.ref (zk K 0), .int p1, .int p2, .int p3] (zc_I (fun r9 σ9 => σ0 = σ9 ∧ (-1) ≤ r9.toInt ∧ r9.toInt ≤ 999 ∧ ((¬ (0 ≤ p2.toInt ∧ p2.toInt ≤ 63) ∧ r9.toInt = -1) ∨ ((0 ≤ p2.toInt ∧ p2.toInt ≤ 63) ∧ r9.toInt = (σ0.1 1 (256 * p3.toInt + 64 * p1.toInt + p2.toInt).toNat).toInt - 1)))) := by
  refine zc_start RX9 hi pfX9_knownOn rfl (Nat.le_of_ble_eq_true rfl) ?_
  intro G hG
  have hB := hG.1
  show zc_V 4 K G (zc_D shM K G σ0) [(0, .ref (zk K 0)), (1, .int p1), (2, .int p2), (3, .int p3)] 0 []
  refine zr_iload_n hB 2 dX9_knownOn_0 rfl ?_
  refine zr_callsi hG (rest := []) dX9_knownOn_1 wm_X9_97 (c_M_isDay K hG.2.2.2.2.2.1 σ0 p2 hO0 ) rfl rfl (Nat.le_of_ble_eq_true rfl) ⟨Nat.le_of_ble_eq_true rfl, Nat.le_of_ble_eq_true rfl, rfl, rfl⟩ (fun r1 σ2 h3 => ?_)
  obtain ⟨rfl, r1q⟩ := h3
  have r1z := r1q.b
  refine zr_if_eq hB dX9_knownOn_4 (tgt := 29) rfl (fun c4 => ?_) (fun c4 => ?_)
  · have q5 := r1q.f c4
    refine zr_iconst hB dX9_knownOn_29 rfl (fun c6 ec6 => ?_)
    exact zr_iret hG dX9_knownOn_30 ⟨rfl, by omega, by omega, (by omega)⟩
  have q7 := r1q.t c4
  refine zr_aload_n hB 0 dX9_knownOn_7 rfl ?_
  refine zr_getr hG 0 0 dX9_knownOn_8 rfl wf_X9_7 rfl ?_
  refine zr_sipush hB dX9_knownOn_11 rfl (fun c8 ec8 => ?_)
  refine zr_iload_n hB 3 dX9_knownOn_14 rfl ?_
  refine zr_imuld hB dX9_knownOn_15 ec8 (by omega) (by omega) (fun x9 ex9 => ?_)
  refine zr_bipush hB dX9_knownOn_16 rfl (fun c10 ec10 => ?_)
  refine zr_iload_n hB 1 dX9_knownOn_18 rfl ?_
  refine zr_imuld hB dX9_knownOn_19 ec10 (by omega) (by omega) (fun x11 ex11 => ?_)
  refine zr_iadd hB dX9_knownOn_20 (by omega) (by omega) (fun x12 ex12 => ?_)
  refine zr_iload_n hB 2 dX9_knownOn_21 rfl ?_
  refine zr_iadd hB dX9_knownOn_22 (by omega) (by omega) (fun x13 ex13 => ?_)
  refine zr_iald hG 1 dX9_knownOn_23 rfl (by omega) (by omega) (fun x14 ex14 => ?_)
  have bx14 : 0 ≤ x14.toInt ∧ x14.toInt ≤ 1000 := by rw [ex14]; exact ⟨(hO0 1 _).1, (hO0 1 _).2.1⟩
  refine zr_iconst hB dX9_knownOn_24 rfl (fun c15 ec15 => ?_)
  refine zr_isub hB dX9_knownOn_25 (by omega) (by omega) (fun x16 ex16 => ?_)
  refine zr_goto hB dX9_knownOn_26 (tgt := 30) rfl ?_
  exact zr_iret hG dX9_knownOn_30 ⟨rfl, by omega, by omega, (by have hq9 := congrArg Int32.toInt ex14; rw [show x13.toInt.toNat = (256 * p3.toInt + 64 * p1.toInt + p2.toInt).toNat by omega] at hq9; omega)⟩

def m_M_now : zc_ms := [(0, some 1)]
set_option maxHeartbeats 1000000 in
set_option maxRecDepth 100000 in
theorem c_M_now (K : zc_K) (hi : zc_inj shM K.2.2.2.1) (σ0 : zc_S) (p1 : Int32) (hO0 : zc_O okM σ0)  : zc_M shM K yX9_now cX9_now 3 (some .int) (zrm 1 25) σ0 [.ref (zk K 0), .int p1] (zc_I (fun r9 σ9 => zc_O okM σ9 ∧ zc_Ag m_M_now σ0 σ9 ∧ (-1) ≤ r9.toInt ∧ r9.toInt ≤ 63 ∧ (((p1.toInt < 0 ∨ p1.toInt < (σ0.1 0 1).toInt ∨ 63 < p1.toInt) ∧ r9.toInt = -1 ∧ (σ9.1 0 1).toInt = (σ0.1 0 1).toInt) ∨ (0 ≤ p1.toInt ∧ (σ0.1 0 1).toInt ≤ p1.toInt ∧ p1.toInt ≤ 63 ∧ r9.toInt = (σ0.1 0 1).toInt ∧ (σ9.1 0 1).toInt = p1.toInt)))) := by
  refine zc_start RX9 hi pfX9_now rfl (Nat.le_of_ble_eq_true rfl) ?_
  intro G hG
  have hB := hG.1
  have hA0 : zc_Ag m_M_now σ0 σ0 := zc_Ag.rf
  show zc_V 3 K G (zc_D shM K G σ0) [(0, .ref (zk K 0)), (1, .int p1)] 0 []
  refine zr_iload_n hB 1 dX9_now_0 rfl ?_
  have v2 := And.intro (zn_lo p1) (zn_hi p1)
  refine zr_i2l hB dX9_now_1 (fun l1 el1 => ?_)
  refine zr_aload_n hB 0 dX9_now_2 rfl ?_
  refine zr_geti' hG 0 1 (σ0.1 0 1) dX9_now_3 rfl wf_X9_101 rfl rfl ?_
  have b3 : 0 ≤ (σ0.1 0 1).toInt ∧ (σ0.1 0 1).toInt ≤ 63 := ⟨(hO0 0 1).1, (hO0 0 1).2.1⟩
  refine zr_i2l hB dX9_now_6 (fun l4 el4 => ?_)
  refine zr_ldc2 hB dX9_now_7 wc_X9_95 (n := 63) rfl (fun c5 ec5 => ?_)
  refine zr_callsi hG (rest := []) dX9_now_10 wm_X9_91 (c_M_in K hG.2.2.2.2.2.1 σ0 l1 l4 c5 hO0 ) rfl rfl (Nat.le_of_ble_eq_true rfl) ⟨Nat.le_of_ble_eq_true rfl, Nat.le_of_ble_eq_true rfl, rfl, rfl⟩ (fun r6 σ7 h8 => ?_)
  obtain ⟨rfl, r6q⟩ := h8
  have r6z := r6q.b
  refine zr_if_ne hB dX9_now_13 (tgt := 18) rfl (fun c9 => ?_) (fun c9 => ?_)
  · have q10 := r6q.t c9
    refine zr_aload_n hB 0 dX9_now_18 rfl ?_
    refine zr_geti' hG 0 1 (σ0.1 0 1) dX9_now_19 rfl wf_X9_101 rfl rfl ?_
    refine zr_istore_n hB dX9_now_22 rfl (by decide) (lv' := [(2, .int (σ0.1 0 1)), (0, .ref (zk K 0)), (1, .int p1)]) rfl ?_
    refine zr_aload_n hB 1 dX9_now_23 rfl ?_
    refine zr_iload_n hB 2 dX9_now_24 rfl ?_
    refine zr_puti hG 0 1 dX9_now_25 rfl wp_X9_101 rfl ?_
    have hOw11 := zc_O.u hO0 0 1 (v := p1) (show 0 ≤ p1.toInt by omega) (show p1.toInt ≤ 63 by omega) (Or.inr (show 0 ≤ p1.toInt by omega))
    have hAw11 := zc_Ag.u hA0 0 1 p1 rfl
    refine zr_iload_n hB 0 dX9_now_28 rfl ?_
    exact zr_iret hG dX9_now_29 ⟨hOw11, hAw11, by omega, by omega, (show (((p1.toInt < 0 ∨ p1.toInt < (σ0.1 0 1).toInt ∨ 63 < p1.toInt) ∧ (σ0.1 0 1).toInt = -1 ∧ p1.toInt = (σ0.1 0 1).toInt) ∨ (0 ≤ p1.toInt ∧ (σ0.1 0 1).toInt ≤ p1.toInt ∧ p1.toInt ≤ 63 ∧ (σ0.1 0 1).toInt = (σ0.1 0 1).toInt ∧ p1.toInt = p1.toInt)) by omega)⟩
  have q12 := r6q.f c9
  refine zr_iconst hB dX9_now_16 rfl (fun c13 ec13 => ?_)
  exact zr_iret hG dX9_now_17 ⟨hO0, hA0, by omega, by omega, (show (((p1.toInt < 0 ∨ p1.toInt < (σ0.1 0 1).toInt ∨ 63 < p1.toInt) ∧ c13.toInt = -1 ∧ (σ0.1 0 1).toInt = (σ0.1 0 1).toInt) ∨ (0 ≤ p1.toInt ∧ (σ0.1 0 1).toInt ≤ p1.toInt ∧ p1.toInt ≤ 63 ∧ c13.toInt = (σ0.1 0 1).toInt ∧ (σ0.1 0 1).toInt = p1.toInt)) by omega)⟩

def m_M_tellFigure : zc_ms := [(1, none), (0, some 2)]
set_option maxHeartbeats 1000000 in
set_option maxRecDepth 100000 in
theorem c_M_tellFigure (K : zc_K) (hi : zc_inj shM K.2.2.2.1) (σ0 : zc_S) (p1 : Int32) (p2 : Int32) (p3 : Int32) (hO0 : zc_O okM σ0) (h1a : 0 ≤ p1.toInt) (h1b : p1.toInt ≤ 3) (h2a : 0 ≤ p2.toInt) (h2b : p2.toInt ≤ 63) (h3a : (-1) ≤ p3.toInt) (h3b : p3.toInt ≤ 999) (hx0 : (σ0.1 0 2).toInt < 200) : zc_M shM K yX9_tellFigure cX9_tellFigure 5 none (zrm 0 0) σ0 [.ref (zk K 0), .int p1, .int p2, .int p3] (zc_N (fun σ9 => zc_O okM σ9 ∧ zc_Ag m_M_tellFigure σ0 σ9 ∧ ((σ9.1 0 2).toInt = (σ0.1 0 2).toInt + 1 ∧ zy_I σ0 σ9 (64 * p1.toInt + p2.toInt).toNat (p3.toInt + 1) (σ0.1 0 1).toInt 64))) := by
  refine zc_start RX9 hi pfX9_tellFigure rfl (Nat.le_of_ble_eq_true rfl) ?_
  intro G hG
  have hB := hG.1
  have hA0 : zc_Ag m_M_tellFigure σ0 σ0 := zc_Ag.rf
  show zc_V 5 K G (zc_D shM K G σ0) [(0, .ref (zk K 0)), (1, .int p1), (2, .int p2), (3, .int p3)] 0 []
  refine zr_aload_n hB 0 dX9_tellFigure_0 rfl ?_
  refine zr_geti' hG 0 1 (σ0.1 0 1) dX9_tellFigure_1 rfl wf_X9_101 rfl rfl ?_
  have b1 : 0 ≤ (σ0.1 0 1).toInt ∧ (σ0.1 0 1).toInt ≤ 63 := ⟨(hO0 0 1).1, (hO0 0 1).2.1⟩
  refine zr_istore hB dX9_tellFigure_4 (by decide) (lv' := [(4, .int (σ0.1 0 1)), (0, .ref (zk K 0)), (1, .int p1), (2, .int p2), (3, .int p3)]) rfl ?_
  have L6_6 : ∀ (n6 : Nat) (σ3 : zc_S) (y4_2 : Int32), zc_O okM σ3 → zc_Ag m_M_tellFigure σ0 σ3 → 0 ≤ y4_2.toInt → y4_2.toInt ≤ 64 → (σ0.1 0 1).toInt ≤ y4_2.toInt → (σ3.1 0 2).toInt = (σ0.1 0 2).toInt → zy_I σ0 σ3 (64 * p1.toInt + p2.toInt).toNat (p3.toInt + 1) (σ0.1 0 1).toInt y4_2.toInt → 64 - y4_2.toInt < (n6 : Int) → zc_V 5 K G (zc_D shM K G σ3) [(0, .ref (zk K 0)), (1, .int p1), (2, .int p2), (3, .int p3), (4, .int y4_2)] 6 [] := by
    intro n6
    induction n6 with
    | zero => intro σ3 y4_2 hO3 hA3 y4_2a y4_2b e4 e5 hzy hn6; exfalso; omega
    | succ n6 ih6 =>
      intro σ3 y4_2 hO3 hA3 y4_2a y4_2b e4 e5 hzy hn6
      refine zr_iload hB 4 dX9_tellFigure_6 rfl ?_
      refine zr_bipush hB dX9_tellFigure_8 rfl (fun c7 ec7 => ?_)
      refine zr_icmp_ge hB dX9_tellFigure_10 (tgt := 40) rfl (fun c8 => ?_) (fun c8 => ?_)
      · refine zr_aload_n hB 0 dX9_tellFigure_40 rfl ?_
        refine zr_dup hB dX9_tellFigure_41 rfl ?_
        refine zr_geti' hG 0 2 (σ3.1 0 2) dX9_tellFigure_42 rfl wf_X9_105 rfl rfl ?_
        have b9 : 0 ≤ (σ3.1 0 2).toInt ∧ (σ3.1 0 2).toInt ≤ 200 := ⟨(hO3 0 2).1, (hO3 0 2).2.1⟩
        refine zr_iconst hB dX9_tellFigure_45 rfl (fun c10 ec10 => ?_)
        refine zr_iadd hB dX9_tellFigure_46 (by omega) (by omega) (fun x11 ex11 => ?_)
        refine zr_puti hG 0 2 dX9_tellFigure_47 rfl wp_X9_105 rfl ?_
        have hOw12 := zc_O.u hO3 0 2 (v := x11) (show 0 ≤ x11.toInt by omega) (show x11.toInt ≤ 200 by omega) (Or.inr (show 0 ≤ x11.toInt by omega))
        have hAw12 := zc_Ag.u hA3 0 2 x11 rfl
        exact zr_vret hG dX9_tellFigure_50 ⟨hOw12, hAw12, (⟨(show x11.toInt = (σ0.1 0 2).toInt + 1 by omega), by have q9 := zy_In (k := 0) (j := 2) (x := x11) hzy (by decide); rw [show y4_2.toInt = 64 by omega] at q9; exact q9⟩)⟩
      refine zr_aload_n hB 0 dX9_tellFigure_13 rfl ?_
      refine zr_getr hG 0 0 dX9_tellFigure_14 rfl wf_X9_7 rfl ?_
      refine zr_sipush hB dX9_tellFigure_17 rfl (fun c13 ec13 => ?_)
      refine zr_iload hB 4 dX9_tellFigure_20 rfl ?_
      refine zr_imuld hB dX9_tellFigure_22 ec13 (by omega) (by omega) (fun x14 ex14 => ?_)
      refine zr_bipush hB dX9_tellFigure_23 rfl (fun c15 ec15 => ?_)
      refine zr_iload_n hB 1 dX9_tellFigure_25 rfl ?_
      refine zr_imuld hB dX9_tellFigure_26 ec15 (by omega) (by omega) (fun x16 ex16 => ?_)
      refine zr_iadd hB dX9_tellFigure_27 (by omega) (by omega) (fun x17 ex17 => ?_)
      refine zr_iload_n hB 2 dX9_tellFigure_28 rfl ?_
      refine zr_iadd hB dX9_tellFigure_29 (by omega) (by omega) (fun x18 ex18 => ?_)
      refine zr_iload_n hB 3 dX9_tellFigure_30 rfl ?_
      refine zr_iconst hB dX9_tellFigure_31 rfl (fun c19 ec19 => ?_)
      refine zr_iadd hB dX9_tellFigure_32 (by omega) (by omega) (fun x20 ex20 => ?_)
      refine zr_iast hG 1 dX9_tellFigure_33 rfl (by omega) (by omega)  ?_
      have hOw21 := zc_O.u hO3 1 x18.toInt.toNat (v := x20) (show 0 ≤ x20.toInt by omega) (show x20.toInt ≤ 1000 by omega) (Or.inr (show 0 ≤ x20.toInt by omega))
      have hAw21 := zc_Ag.u hA3 1 x18.toInt.toNat x20 rfl
      refine zr_iinc hB 4 dX9_tellFigure_34 rfl (by decide) rfl (by omega) (by omega) (fun x22 ex22 lv' hlv => ?_)
      obtain rfl : [(4, .int x22), (0, .ref (zk K 0)), (1, .int p1), (2, .int p2), (3, .int p3)] = lv' := hlv
      refine zr_goto hB dX9_tellFigure_37 (tgt := 6) rfl ?_
      have b23 : 0 ≤ (σ3.1 0 2).toInt ∧ (σ3.1 0 2).toInt ≤ 200 := ⟨(hOw21 0 2).1, (hOw21 0 2).2.1⟩
      exact zc_sub [1, 2, 3, 4, 0] rfl (ih6 (zc_u σ3 1 x18.toInt.toNat x20) x22 hOw21 hAw21 (by omega) (by omega) (show (σ0.1 0 1).toInt ≤ x22.toInt by omega) (show (σ3.1 0 2).toInt = (σ0.1 0 2).toInt by omega) (show zy_I σ0 (zc_u σ3 1 x18.toInt.toNat x20) (64 * p1.toInt + p2.toInt).toNat (p3.toInt + 1) (σ0.1 0 1).toInt x22.toInt by have q9 := zy_Iu (q := x18.toInt.toNat) (x := x20) hzy (by omega) (by omega) (by omega) (by omega) (by omega); rw [show x22.toInt = y4_2.toInt + 1 by omega]; exact q9) (by omega))
  have b24 : 0 ≤ (σ0.1 0 2).toInt ∧ (σ0.1 0 2).toInt ≤ 200 := ⟨(hO0 0 2).1, (hO0 0 2).2.1⟩
  exact zc_sub [1, 2, 3, 4, 0] rfl (L6_6 66 σ0 (σ0.1 0 1) hO0 hA0 (by omega) (by omega) (show (σ0.1 0 1).toInt ≤ (σ0.1 0 1).toInt by omega) (show (σ0.1 0 2).toInt = (σ0.1 0 2).toInt by omega) (show zy_I σ0 σ0 (64 * p1.toInt + p2.toInt).toNat (p3.toInt + 1) (σ0.1 0 1).toInt (σ0.1 0 1).toInt by exact zy_I0 (by omega)) (by omega))

set_option maxHeartbeats 1000000 in
set_option maxRecDepth 100000 in
theorem c_M_orNone (K : zc_K) (hi : zc_inj shM K.2.2.2.1) (σ0 : zc_S) (p0 : Int32) (hO0 : zc_O okM σ0) (h0a : (-1) ≤ p0.toInt) (h0b : p0.toInt ≤ 999) : zc_M shM K yX9_orNone cX9_orNone 1 (some .int) (zrm 0 0) σ0 [.int p0] (zc_I (fun r9 σ9 => σ0 = σ9 ∧ (-4) ≤ r9.toInt ∧ r9.toInt ≤ 999 ∧ ((p0.toInt < 0 ∧ r9.toInt = -4) ∨ (0 ≤ p0.toInt ∧ r9.toInt = p0.toInt)))) := by
  refine zc_start RX9 hi pfX9_orNone rfl (Nat.le_of_ble_eq_true rfl) ?_
  intro G hG
  have hB := hG.1
  show zc_V 1 K G (zc_D shM K G σ0) [(0, .int p0)] 0 []
  refine zr_iload_n hB 0 dX9_orNone_0 rfl ?_
  refine zr_if_ge hB dX9_orNone_1 (tgt := 9) rfl (fun c1 => ?_) (fun c1 => ?_)
  · refine zr_iload_n hB 0 dX9_orNone_9 rfl ?_
    exact zr_iret hG dX9_orNone_10 ⟨rfl, by omega, by omega, by omega⟩
  refine zr_bipush hB dX9_orNone_4 rfl (fun c2 ec2 => ?_)
  refine zr_goto hB dX9_orNone_6 (tgt := 10) rfl ?_
  exact zr_iret hG dX9_orNone_10 ⟨rfl, by omega, by omega, by omega⟩

def m_M_figure : zc_ms := [(1, none), (0, some 2)]
set_option maxHeartbeats 1000000 in
set_option maxRecDepth 100000 in
theorem c_M_figure (K : zc_K) (hi : zc_inj shM K.2.2.2.1) (σ0 : zc_S) (p1 : Int32) (p2 : Int32) (p3 : Int32) (hO0 : zc_O okM σ0)  : zc_M shM K yX9_figure cX9_figure 5 (some .int) (zrm 3 68) σ0 [.ref (zk K 0), .int p1, .int p2, .int p3] (zc_I (fun r9 σ9 => zc_O okM σ9 ∧ zc_Ag m_M_figure σ0 σ9 ∧ (-7) ≤ r9.toInt ∧ r9.toInt ≤ 999 ∧ ((¬ (0 ≤ p1.toInt ∧ p1.toInt ≤ 3 ∧ 0 ≤ p2.toInt ∧ p2.toInt ≤ 63 ∧ p2.toInt ≤ (σ0.1 0 1).toInt ∧ (p3.toInt = -4 ∨ (0 ≤ p3.toInt ∧ p3.toInt ≤ 999))) ∧ r9.toInt = -5 ∧ σ9 = σ0) ∨ ((0 ≤ p1.toInt ∧ p1.toInt ≤ 3 ∧ 0 ≤ p2.toInt ∧ p2.toInt ≤ 63 ∧ p2.toInt ≤ (σ0.1 0 1).toInt ∧ (p3.toInt = -4 ∨ (0 ≤ p3.toInt ∧ p3.toInt ≤ 999))) ∧ (σ0.1 0 2).toInt = 200 ∧ r9.toInt = -7 ∧ σ9 = σ0) ∨ ((0 ≤ p1.toInt ∧ p1.toInt ≤ 3 ∧ 0 ≤ p2.toInt ∧ p2.toInt ≤ 63 ∧ p2.toInt ≤ (σ0.1 0 1).toInt ∧ (p3.toInt = -4 ∨ (0 ≤ p3.toInt ∧ p3.toInt ≤ 999))) ∧ ¬ (σ0.1 0 2).toInt = 200 ∧ (((σ0.1 1 (256 * (σ0.1 0 1).toInt + 64 * p1.toInt + p2.toInt).toNat).toInt ≤ 0 ∧ r9.toInt = -4) ∨ (0 < (σ0.1 1 (256 * (σ0.1 0 1).toInt + 64 * p1.toInt + p2.toInt).toNat).toInt ∧ r9.toInt = (σ0.1 1 (256 * (σ0.1 0 1).toInt + 64 * p1.toInt + p2.toInt).toNat).toInt - 1)) ∧ ((p3.toInt = -4 ∧ zy_T σ0 σ9 (64 * p1.toInt + p2.toInt).toNat (-1)) ∨ (¬ p3.toInt = -4 ∧ zy_T σ0 σ9 (64 * p1.toInt + p2.toInt).toNat p3.toInt)))))) := by
  refine zc_start RX9 hi pfX9_figure rfl (Nat.le_of_ble_eq_true rfl) ?_
  intro G hG
  have hB := hG.1
  have hA0 : zc_Ag m_M_figure σ0 σ0 := zc_Ag.rf
  show zc_V 5 K G (zc_D shM K G σ0) [(0, .ref (zk K 0)), (1, .int p1), (2, .int p2), (3, .int p3)] 0 []
  refine zr_iload_n hB 1 dX9_figure_0 rfl ?_
  refine zr_callsi hG (rest := []) dX9_figure_1 wm_X9_108 (c_M_isShop K hG.2.2.2.2.2.1 σ0 p1 hO0 ) rfl rfl (Nat.le_of_ble_eq_true rfl) ⟨Nat.le_of_ble_eq_true rfl, Nat.le_of_ble_eq_true rfl, rfl, rfl⟩ (fun r1 σ2 h3 => ?_)
  obtain ⟨rfl, r1q⟩ := h3
  have r1z := r1q.b
  refine zr_if_eq hB dX9_figure_4 (tgt := 39) rfl (fun c4 => ?_) (fun c4 => ?_)
  · have q5 := r1q.f c4
    refine zr_bipush hB dX9_figure_39 rfl (fun c6 ec6 => ?_)
    exact zr_iret hG dX9_figure_41 ⟨hO0, hA0, by omega, by omega, (by first | (exfalso; omega) | exact Or.inl ⟨by omega, by omega, by first | rfl | assumption⟩ | exact Or.inr (Or.inl ⟨by omega, by omega, by omega, by first | rfl | assumption⟩) | exact Or.inr (Or.inr (⟨by omega, by omega, by omega, by first | rfl | assumption⟩)))⟩
  have q7 := r1q.t c4
  refine zr_iload_n hB 2 dX9_figure_7 rfl ?_
  have v9 := And.intro (zn_lo p2) (zn_hi p2)
  refine zr_i2l hB dX9_figure_8 (fun l8 el8 => ?_)
  refine zr_lconst hB dX9_figure_9 (m := 0) rfl (fun c10 ec10 => ?_)
  refine zr_aload_n hB 0 dX9_figure_10 rfl ?_
  refine zr_geti' hG 0 1 (σ0.1 0 1) dX9_figure_11 rfl wf_X9_101 rfl rfl ?_
  have b11 : 0 ≤ (σ0.1 0 1).toInt ∧ (σ0.1 0 1).toInt ≤ 63 := ⟨(hO0 0 1).1, (hO0 0 1).2.1⟩
  refine zr_i2l hB dX9_figure_14 (fun l12 el12 => ?_)
  refine zr_callsi hG (rest := []) dX9_figure_15 wm_X9_91 (c_M_in K hG.2.2.2.2.2.1 σ0 l8 c10 l12 hO0 ) rfl rfl (Nat.le_of_ble_eq_true rfl) ⟨Nat.le_of_ble_eq_true rfl, Nat.le_of_ble_eq_true rfl, rfl, rfl⟩ (fun r13 σ14 h15 => ?_)
  obtain ⟨rfl, r13q⟩ := h15
  have r13z := r13q.b
  refine zr_if_eq hB dX9_figure_18 (tgt := 39) rfl (fun c16 => ?_) (fun c16 => ?_)
  · have q17 := r13q.f c16
    refine zr_bipush hB dX9_figure_39 rfl (fun c18 ec18 => ?_)
    exact zr_iret hG dX9_figure_41 ⟨hO0, hA0, by omega, by omega, (by first | (exfalso; omega) | exact Or.inl ⟨by omega, by omega, by first | rfl | assumption⟩ | exact Or.inr (Or.inl ⟨by omega, by omega, by omega, by first | rfl | assumption⟩) | exact Or.inr (Or.inr (⟨by omega, by omega, by omega, by first | rfl | assumption⟩)))⟩
  have q19 := r13q.t c16
  refine zr_iload_n hB 3 dX9_figure_21 rfl ?_
  have v21 := And.intro (zn_lo p3) (zn_hi p3)
  refine zr_i2l hB dX9_figure_22 (fun l20 el20 => ?_)
  refine zr_lconst hB dX9_figure_23 (m := 0) rfl (fun c22 ec22 => ?_)
  refine zr_ldc2 hB dX9_figure_24 wc_X9_111 (n := 999) rfl (fun c23 ec23 => ?_)
  refine zr_callsi hG (rest := []) dX9_figure_27 wm_X9_91 (c_M_in K hG.2.2.2.2.2.1 σ0 l20 c22 c23 hO0 ) rfl rfl (Nat.le_of_ble_eq_true rfl) ⟨Nat.le_of_ble_eq_true rfl, Nat.le_of_ble_eq_true rfl, rfl, rfl⟩ (fun r24 σ25 h26 => ?_)
  obtain ⟨rfl, r24q⟩ := h26
  have r24z := r24q.b
  have L42_28 : zc_hid (((p3.toInt = -4 ∨ (0 ≤ p3.toInt ∧ p3.toInt ≤ 999))) → zc_V 5 K G (zc_D shM K G σ0) [(0, .ref (zk K 0)), (1, .int p1), (2, .int p2), (3, .int p3)] 42 []) := by
    intro e27
    refine zr_aload_n hB 0 dX9_figure_42 rfl ?_
    refine zr_geti' hG 0 2 (σ0.1 0 2) dX9_figure_43 rfl wf_X9_105 rfl rfl ?_
    have b29 : 0 ≤ (σ0.1 0 2).toInt ∧ (σ0.1 0 2).toInt ≤ 200 := ⟨(hO0 0 2).1, (hO0 0 2).2.1⟩
    refine zr_sipush hB dX9_figure_46 rfl (fun c30 ec30 => ?_)
    refine zr_icmp_ne hB dX9_figure_49 (tgt := 55) rfl (fun c31 => ?_) (fun c31 => ?_)
    · refine zr_aload_n hB 0 dX9_figure_55 rfl ?_
      refine zr_iload_n hB 1 dX9_figure_56 rfl ?_
      refine zr_iload_n hB 2 dX9_figure_57 rfl ?_
      refine zr_aload_n hB 0 dX9_figure_58 rfl ?_
      refine zr_geti' hG 0 1 (σ0.1 0 1) dX9_figure_59 rfl wf_X9_101 rfl rfl ?_
      refine zr_callvi hG (rest := []) 0 dX9_figure_62 wm_X9_113 rfl rfl (c_M_knownOn K hG.2.2.2.2.2.1 σ0 p1 p2 (σ0.1 0 1) hO0 (by omega) (by omega) (by omega) (by omega)) rfl rfl (Nat.le_of_ble_eq_true rfl) ⟨Nat.le_of_ble_eq_true rfl, Nat.le_of_ble_eq_true rfl, rfl, rfl⟩ (fun r32 σ33 h34 => ?_)
      obtain ⟨rfl, r32a, r32b, g35⟩ := h34
      refine zr_callsi hG (rest := []) dX9_figure_65 wm_X9_117 (c_M_orNone K hG.2.2.2.2.2.1 σ0 r32 hO0 (by omega) (by omega)) rfl rfl (Nat.le_of_ble_eq_true rfl) ⟨Nat.le_of_ble_eq_true rfl, Nat.le_of_ble_eq_true rfl, rfl, rfl⟩ (fun r36 σ37 h38 => ?_)
      obtain ⟨rfl, r36a, r36b, g39⟩ := h38
      refine zr_istore hB dX9_figure_68 (by decide) (lv' := [(4, .int r36), (0, .ref (zk K 0)), (1, .int p1), (2, .int p2), (3, .int p3)]) rfl ?_
      refine zr_aload_n hB 1 dX9_figure_70 rfl ?_
      refine zr_iload_n hB 2 dX9_figure_71 rfl ?_
      refine zr_iload_n hB 3 dX9_figure_72 rfl ?_
      refine zr_iload_n hB 4 dX9_figure_73 rfl ?_
      refine zr_bipush hB dX9_figure_74 rfl (fun c40 ec40 => ?_)
      refine zr_icmp_ne hB dX9_figure_76 (tgt := 83) rfl (fun c41 => ?_) (fun c41 => ?_)
      · refine zr_iload_n hB 4 dX9_figure_83 rfl ?_
        refine zr_callvn hG (rest := []) 0 dX9_figure_84 wm_X9_121 rfl rfl (c_M_tellFigure K hG.2.2.2.2.2.1 σ0 p1 p2 p3 hO0 (by omega) (by omega) (by omega) (by omega) (by omega) (by omega) (by omega)) rfl rfl (Nat.le_of_ble_eq_true rfl) ⟨Nat.le_of_ble_eq_true rfl, Nat.le_of_ble_eq_true rfl, rfl, rfl⟩ (fun σ43 h44 => ?_)
        obtain ⟨hO45, hAc46, g47⟩ := h44
        have hA48 := zc_Ag.tr hA0 hAc46 rfl
        have q49 : (σ43.1 0 1).toInt = (σ0.1 0 1).toInt := congrArg Int32.toInt (hAc46 0 1 rfl).1
        refine zr_iload hB 0 dX9_figure_87 rfl ?_
        exact zr_iret hG dX9_figure_89 ⟨hO45, hA48, by omega, by omega, (Or.inr (Or.inr ⟨by omega, by omega, by omega, Or.inr ⟨by omega, g47⟩⟩))⟩
      refine zr_iconst hB dX9_figure_79 rfl (fun c50 ec50 => ?_)
      refine zr_goto hB dX9_figure_80 (tgt := 84) rfl ?_
      refine zr_callvn hG (rest := []) 0 dX9_figure_84 wm_X9_121 rfl rfl (c_M_tellFigure K hG.2.2.2.2.2.1 σ0 p1 p2 c50 hO0 (by omega) (by omega) (by omega) (by omega) (by omega) (by omega) (by omega)) rfl rfl (Nat.le_of_ble_eq_true rfl) ⟨Nat.le_of_ble_eq_true rfl, Nat.le_of_ble_eq_true rfl, rfl, rfl⟩ (fun σ52 h53 => ?_)
      obtain ⟨hO54, hAc55, g56⟩ := h53
      have hA57 := zc_Ag.tr hA0 hAc55 rfl
      have q58 : (σ52.1 0 1).toInt = (σ0.1 0 1).toInt := congrArg Int32.toInt (hAc55 0 1 rfl).1
      refine zr_iload hB 0 dX9_figure_87 rfl ?_
      exact zr_iret hG dX9_figure_89 ⟨hO54, hA57, by omega, by omega, (Or.inr (Or.inr ⟨by omega, by omega, by omega, Or.inl ⟨by omega, by have h9 := g56; rw [ec50] at h9; exact h9⟩⟩))⟩
    refine zr_bipush hB dX9_figure_52 rfl (fun c59 ec59 => ?_)
    exact zr_iret hG dX9_figure_54 ⟨hO0, hA0, by omega, by omega, (by first | (exfalso; omega) | exact Or.inl ⟨by omega, by omega, by first | rfl | assumption⟩ | exact Or.inr (Or.inl ⟨by omega, by omega, by omega, by first | rfl | assumption⟩) | exact Or.inr (Or.inr (⟨by omega, by omega, by omega, by first | rfl | assumption⟩)))⟩
  refine zr_if_ne hB dX9_figure_30 (tgt := 42) rfl (fun c60 => ?_) (fun c60 => ?_)
  · have q61 := r24q.t c60
    exact L42_28 (show (p3.toInt = -4 ∨ (0 ≤ p3.toInt ∧ p3.toInt ≤ 999)) by omega)
  have q62 := r24q.f c60
  refine zr_iload_n hB 3 dX9_figure_33 rfl ?_
  refine zr_bipush hB dX9_figure_34 rfl (fun c63 ec63 => ?_)
  refine zr_icmp_eq hB dX9_figure_36 (tgt := 42) rfl (fun c64 => ?_) (fun c64 => ?_)
  · exact L42_28 (show (p3.toInt = -4 ∨ (0 ≤ p3.toInt ∧ p3.toInt ≤ 999)) by omega)
  refine zr_bipush hB dX9_figure_39 rfl (fun c65 ec65 => ?_)
  exact zr_iret hG dX9_figure_41 ⟨hO0, hA0, by omega, by omega, (by first | (exfalso; omega) | exact Or.inl ⟨by omega, by omega, by first | rfl | assumption⟩ | exact Or.inr (Or.inl ⟨by omega, by omega, by omega, by first | rfl | assumption⟩) | exact Or.inr (Or.inr (⟨by omega, by omega, by omega, by first | rfl | assumption⟩)))⟩

set_option maxHeartbeats 1000000 in
set_option maxRecDepth 100000 in
theorem c_M_known (K : zc_K) (hi : zc_inj shM K.2.2.2.1) (σ0 : zc_S) (p1 : Int32) (p2 : Int32) (p3 : Int32) (hO0 : zc_O okM σ0)  : zc_M shM K yX9_known cX9_known 4 (some .int) (zrm 3 68) σ0 [.ref (zk K 0), .int p1, .int p2, .int p3] (zc_I (fun r9 σ9 => σ0 = σ9 ∧ (-4) ≤ r9.toInt ∧ r9.toInt ≤ 999 ∧ ((¬ (0 ≤ p1.toInt ∧ p1.toInt ≤ 3 ∧ 0 ≤ p2.toInt ∧ p2.toInt ≤ 63 ∧ 0 ≤ p3.toInt ∧ p3.toInt ≤ 63) ∧ r9.toInt = -1) ∨ ((0 ≤ p1.toInt ∧ p1.toInt ≤ 3 ∧ 0 ≤ p2.toInt ∧ p2.toInt ≤ 63 ∧ 0 ≤ p3.toInt ∧ p3.toInt ≤ 63) ∧ (σ0.1 1 (256 * p3.toInt + 64 * p1.toInt + p2.toInt).toNat).toInt ≤ 0 ∧ r9.toInt = -4) ∨ ((0 ≤ p1.toInt ∧ p1.toInt ≤ 3 ∧ 0 ≤ p2.toInt ∧ p2.toInt ≤ 63 ∧ 0 ≤ p3.toInt ∧ p3.toInt ≤ 63) ∧ 0 < (σ0.1 1 (256 * p3.toInt + 64 * p1.toInt + p2.toInt).toNat).toInt ∧ r9.toInt = (σ0.1 1 (256 * p3.toInt + 64 * p1.toInt + p2.toInt).toNat).toInt - 1)))) := by
  refine zc_start RX9 hi pfX9_known rfl (Nat.le_of_ble_eq_true rfl) ?_
  intro G hG
  have hB := hG.1
  show zc_V 4 K G (zc_D shM K G σ0) [(0, .ref (zk K 0)), (1, .int p1), (2, .int p2), (3, .int p3)] 0 []
  refine zr_iload_n hB 1 dX9_known_0 rfl ?_
  refine zr_callsi hG (rest := []) dX9_known_1 wm_X9_108 (c_M_isShop K hG.2.2.2.2.2.1 σ0 p1 hO0 ) rfl rfl (Nat.le_of_ble_eq_true rfl) ⟨Nat.le_of_ble_eq_true rfl, Nat.le_of_ble_eq_true rfl, rfl, rfl⟩ (fun r1 σ2 h3 => ?_)
  obtain ⟨rfl, r1q⟩ := h3
  have r1z := r1q.b
  refine zr_if_eq hB dX9_known_4 (tgt := 34) rfl (fun c4 => ?_) (fun c4 => ?_)
  · have q5 := r1q.f c4
    refine zr_iconst hB dX9_known_34 rfl (fun c6 ec6 => ?_)
    exact zr_iret hG dX9_known_35 ⟨rfl, by omega, by omega, by omega⟩
  have q7 := r1q.t c4
  refine zr_iload_n hB 2 dX9_known_7 rfl ?_
  refine zr_callsi hG (rest := []) dX9_known_8 wm_X9_97 (c_M_isDay K hG.2.2.2.2.2.1 σ0 p2 hO0 ) rfl rfl (Nat.le_of_ble_eq_true rfl) ⟨Nat.le_of_ble_eq_true rfl, Nat.le_of_ble_eq_true rfl, rfl, rfl⟩ (fun r8 σ9 h10 => ?_)
  obtain ⟨rfl, r8q⟩ := h10
  have r8z := r8q.b
  refine zr_if_eq hB dX9_known_11 (tgt := 34) rfl (fun c11 => ?_) (fun c11 => ?_)
  · have q12 := r8q.f c11
    refine zr_iconst hB dX9_known_34 rfl (fun c13 ec13 => ?_)
    exact zr_iret hG dX9_known_35 ⟨rfl, by omega, by omega, by omega⟩
  have q14 := r8q.t c11
  refine zr_iload_n hB 3 dX9_known_14 rfl ?_
  refine zr_callsi hG (rest := []) dX9_known_15 wm_X9_97 (c_M_isDay K hG.2.2.2.2.2.1 σ0 p3 hO0 ) rfl rfl (Nat.le_of_ble_eq_true rfl) ⟨Nat.le_of_ble_eq_true rfl, Nat.le_of_ble_eq_true rfl, rfl, rfl⟩ (fun r15 σ16 h17 => ?_)
  obtain ⟨rfl, r15q⟩ := h17
  have r15z := r15q.b
  refine zr_if_eq hB dX9_known_18 (tgt := 34) rfl (fun c18 => ?_) (fun c18 => ?_)
  · have q19 := r15q.f c18
    refine zr_iconst hB dX9_known_34 rfl (fun c20 ec20 => ?_)
    exact zr_iret hG dX9_known_35 ⟨rfl, by omega, by omega, by omega⟩
  have q21 := r15q.t c18
  refine zr_aload_n hB 0 dX9_known_21 rfl ?_
  refine zr_iload_n hB 1 dX9_known_22 rfl ?_
  refine zr_iload_n hB 2 dX9_known_23 rfl ?_
  refine zr_iload_n hB 3 dX9_known_24 rfl ?_
  refine zr_callvi hG (rest := []) 0 dX9_known_25 wm_X9_113 rfl rfl (c_M_knownOn K hG.2.2.2.2.2.1 σ0 p1 p2 p3 hO0 (by omega) (by omega) (by omega) (by omega)) rfl rfl (Nat.le_of_ble_eq_true rfl) ⟨Nat.le_of_ble_eq_true rfl, Nat.le_of_ble_eq_true rfl, rfl, rfl⟩ (fun r22 σ23 h24 => ?_)
  obtain ⟨rfl, r22a, r22b, g25⟩ := h24
  refine zr_callsi hG (rest := []) dX9_known_28 wm_X9_117 (c_M_orNone K hG.2.2.2.2.2.1 σ0 r22 hO0 (by omega) (by omega)) rfl rfl (Nat.le_of_ble_eq_true rfl) ⟨Nat.le_of_ble_eq_true rfl, Nat.le_of_ble_eq_true rfl, rfl, rfl⟩ (fun r26 σ27 h28 => ?_)
  obtain ⟨rfl, r26a, r26b, g29⟩ := h28
  refine zr_goto hB dX9_known_31 (tgt := 35) rfl ?_
  exact zr_iret hG dX9_known_35 ⟨rfl, by omega, by omega, by omega⟩

def m_M_mark : zc_ms := [(2, none), (3, none)]
set_option maxHeartbeats 1000000 in
set_option maxRecDepth 100000 in
theorem c_M_mark (K : zc_K) (hi : zc_inj shM K.2.2.2.1) (σ0 : zc_S) (p1 : Int32) (p2 : Int32) (p3 : Int32) (hO0 : zc_O okM σ0) (h3a : 0 ≤ p3.toInt) (h3b : p3.toInt ≤ 1) : zc_M shM K yX9_mark cX9_mark 5 (some .int) (zrm 2 45) σ0 [.ref (zk K 0), .int p1, .int p2, .int p3] (zc_I (fun r9 σ9 => zc_O okM σ9 ∧ zc_Ag m_M_mark σ0 σ9 ∧ (-1) ≤ r9.toInt ∧ r9.toInt ≤ 1 ∧ ((¬ (0 ≤ p1.toInt ∧ p1.toInt ≤ 1 ∧ 0 ≤ p2.toInt ∧ p2.toInt ≤ 63) ∧ r9.toInt = -1 ∧ σ9 = σ0) ∨ (p1.toInt = 0 ∧ 0 ≤ p2.toInt ∧ p2.toInt ≤ 63 ∧ r9.toInt = (σ0.1 2 p2.toInt.toNat).toInt ∧ σ9 = zc_u σ0 2 p2.toInt.toNat p3) ∨ (p1.toInt = 1 ∧ 0 ≤ p2.toInt ∧ p2.toInt ≤ 63 ∧ r9.toInt = (σ0.1 3 p2.toInt.toNat).toInt ∧ σ9 = zc_u σ0 3 p2.toInt.toNat p3)))) := by
  refine zc_start RX9 hi pfX9_mark rfl (Nat.le_of_ble_eq_true rfl) ?_
  intro G hG
  have hB := hG.1
  have hA0 : zc_Ag m_M_mark σ0 σ0 := zc_Ag.rf
  show zc_V 5 K G (zc_D shM K G σ0) [(0, .ref (zk K 0)), (1, .int p1), (2, .int p2), (3, .int p3)] 0 []
  refine zr_iload_n hB 1 dX9_mark_0 rfl ?_
  have v2 := And.intro (zn_lo p1) (zn_hi p1)
  refine zr_i2l hB dX9_mark_1 (fun l1 el1 => ?_)
  refine zr_lconst hB dX9_mark_2 (m := 0) rfl (fun c3 ec3 => ?_)
  refine zr_lconst hB dX9_mark_3 (m := 1) rfl (fun c4 ec4 => ?_)
  refine zr_callsi hG (rest := []) dX9_mark_4 wm_X9_91 (c_M_in K hG.2.2.2.2.2.1 σ0 l1 c3 c4 hO0 ) rfl rfl (Nat.le_of_ble_eq_true rfl) ⟨Nat.le_of_ble_eq_true rfl, Nat.le_of_ble_eq_true rfl, rfl, rfl⟩ (fun r5 σ6 h7 => ?_)
  obtain ⟨rfl, r5q⟩ := h7
  have r5z := r5q.b
  refine zr_if_eq hB dX9_mark_7 (tgt := 17) rfl (fun c8 => ?_) (fun c8 => ?_)
  · have q9 := r5q.f c8
    refine zr_iconst hB dX9_mark_17 rfl (fun c10 ec10 => ?_)
    exact zr_iret hG dX9_mark_18 ⟨hO0, hA0, by omega, by omega, (by first | (exfalso; omega) | exact Or.inl ⟨by omega, by omega, by first | rfl | assumption⟩ | exact Or.inr (Or.inl ⟨by omega, by omega, by omega, by omega, by first | rfl | assumption⟩) | exact Or.inr (Or.inr (⟨by omega, by omega, by omega, by omega, by first | rfl | assumption⟩)))⟩
  have q11 := r5q.t c8
  refine zr_iload_n hB 2 dX9_mark_10 rfl ?_
  refine zr_callsi hG (rest := []) dX9_mark_11 wm_X9_97 (c_M_isDay K hG.2.2.2.2.2.1 σ0 p2 hO0 ) rfl rfl (Nat.le_of_ble_eq_true rfl) ⟨Nat.le_of_ble_eq_true rfl, Nat.le_of_ble_eq_true rfl, rfl, rfl⟩ (fun r12 σ13 h14 => ?_)
  obtain ⟨rfl, r12q⟩ := h14
  have r12z := r12q.b
  refine zr_if_ne hB dX9_mark_14 (tgt := 19) rfl (fun c15 => ?_) (fun c15 => ?_)
  · have q16 := r12q.t c15
    refine zr_iload_n hB 1 dX9_mark_19 rfl ?_
    refine zr_if_ne hB dX9_mark_20 (tgt := 32) rfl (fun c17 => ?_) (fun c17 => ?_)
    · refine zr_aload_n hB 0 dX9_mark_32 rfl ?_
      refine zr_getr hG 0 4 dX9_mark_33 rfl wf_X9_17 rfl ?_
      refine zr_iload_n hB 2 dX9_mark_36 rfl ?_
      refine zr_zald hG 3 dX9_mark_37 rfl (by omega) (by omega) (fun x18 ex18 => ?_)
      have bx18 : 0 ≤ x18.toInt ∧ x18.toInt ≤ 1 := by rw [ex18]; exact ⟨(hO0 3 _).1, (hO0 3 _).2.1⟩
      refine zr_istore hB dX9_mark_38 (by decide) (lv' := [(4, .int x18), (0, .ref (zk K 0)), (1, .int p1), (2, .int p2), (3, .int p3)]) rfl ?_
      refine zr_iload_n hB 2 dX9_mark_40 rfl ?_
      refine zr_if_ne hB dX9_mark_41 (tgt := 54) rfl (fun c19 => ?_) (fun c19 => ?_)
      · refine zr_aload_n hB 1 dX9_mark_54 rfl ?_
        refine zr_getr hG 0 4 dX9_mark_55 rfl wf_X9_17 rfl ?_
        refine zr_iload_n hB 3 dX9_mark_58 rfl ?_
        refine zr_iload_n hB 4 dX9_mark_59 rfl ?_
        refine zr_zast hG 3 dX9_mark_60 rfl (by omega) (by omega) (by omega) (by omega) ?_
        have hOw20 := zc_O.u hO0 3 p2.toInt.toNat (v := p3) (show 0 ≤ p3.toInt by omega) (show p3.toInt ≤ 1 by omega) (Or.inr (show 0 ≤ p3.toInt by omega))
        have hAw20 := zc_Ag.u hA0 3 p2.toInt.toNat p3 rfl
        refine zr_iload hB 0 dX9_mark_61 rfl ?_
        refine zr_if_eq hB dX9_mark_63 (tgt := 70) rfl (fun c21 => ?_) (fun c21 => ?_)
        · refine zr_iconst hB dX9_mark_70 rfl (fun c22 ec22 => ?_)
          exact zr_iret hG dX9_mark_71 ⟨hOw20, hAw20, by omega, by omega, (by have hqx18 := congrArg Int32.toInt ex18; first | (exfalso; omega) | exact Or.inl ⟨by omega, by omega, by first | rfl | assumption⟩ | exact Or.inr (Or.inl ⟨by omega, by omega, by omega, by omega, by first | rfl | assumption⟩) | exact Or.inr (Or.inr (⟨by omega, by omega, by omega, by omega, by first | rfl | assumption⟩)))⟩
        refine zr_iconst hB dX9_mark_66 rfl (fun c23 ec23 => ?_)
        refine zr_goto hB dX9_mark_67 (tgt := 71) rfl ?_
        exact zr_iret hG dX9_mark_71 ⟨hOw20, hAw20, by omega, by omega, (by have hqx18 := congrArg Int32.toInt ex18; first | (exfalso; omega) | exact Or.inl ⟨by omega, by omega, by first | rfl | assumption⟩ | exact Or.inr (Or.inl ⟨by omega, by omega, by omega, by omega, by first | rfl | assumption⟩) | exact Or.inr (Or.inr (⟨by omega, by omega, by omega, by omega, by first | rfl | assumption⟩)))⟩
      exfalso; omega
    refine zr_aload_n hB 0 dX9_mark_23 rfl ?_
    refine zr_getr hG 0 3 dX9_mark_24 rfl wf_X9_13 rfl ?_
    refine zr_iload_n hB 2 dX9_mark_27 rfl ?_
    refine zr_zald hG 2 dX9_mark_28 rfl (by omega) (by omega) (fun x24 ex24 => ?_)
    have bx24 : 0 ≤ x24.toInt ∧ x24.toInt ≤ 1 := by rw [ex24]; exact ⟨(hO0 2 _).1, (hO0 2 _).2.1⟩
    refine zr_goto hB dX9_mark_29 (tgt := 38) rfl ?_
    refine zr_istore hB dX9_mark_38 (by decide) (lv' := [(4, .int x24), (0, .ref (zk K 0)), (1, .int p1), (2, .int p2), (3, .int p3)]) rfl ?_
    refine zr_iload_n hB 2 dX9_mark_40 rfl ?_
    refine zr_if_ne hB dX9_mark_41 (tgt := 54) rfl (fun c25 => ?_) (fun c25 => ?_)
    · exfalso; omega
    refine zr_aload_n hB 1 dX9_mark_44 rfl ?_
    refine zr_getr hG 0 3 dX9_mark_45 rfl wf_X9_13 rfl ?_
    refine zr_iload_n hB 3 dX9_mark_48 rfl ?_
    refine zr_iload_n hB 4 dX9_mark_49 rfl ?_
    refine zr_zast hG 2 dX9_mark_50 rfl (by omega) (by omega) (by omega) (by omega) ?_
    have hOw26 := zc_O.u hO0 2 p2.toInt.toNat (v := p3) (show 0 ≤ p3.toInt by omega) (show p3.toInt ≤ 1 by omega) (Or.inr (show 0 ≤ p3.toInt by omega))
    have hAw26 := zc_Ag.u hA0 2 p2.toInt.toNat p3 rfl
    refine zr_goto hB dX9_mark_51 (tgt := 61) rfl ?_
    refine zr_iload hB 0 dX9_mark_61 rfl ?_
    refine zr_if_eq hB dX9_mark_63 (tgt := 70) rfl (fun c27 => ?_) (fun c27 => ?_)
    · refine zr_iconst hB dX9_mark_70 rfl (fun c28 ec28 => ?_)
      exact zr_iret hG dX9_mark_71 ⟨hOw26, hAw26, by omega, by omega, (by have hqx24 := congrArg Int32.toInt ex24; first | (exfalso; omega) | exact Or.inl ⟨by omega, by omega, by first | rfl | assumption⟩ | exact Or.inr (Or.inl ⟨by omega, by omega, by omega, by omega, by first | rfl | assumption⟩) | exact Or.inr (Or.inr (⟨by omega, by omega, by omega, by omega, by first | rfl | assumption⟩)))⟩
    refine zr_iconst hB dX9_mark_66 rfl (fun c29 ec29 => ?_)
    refine zr_goto hB dX9_mark_67 (tgt := 71) rfl ?_
    exact zr_iret hG dX9_mark_71 ⟨hOw26, hAw26, by omega, by omega, (by have hqx24 := congrArg Int32.toInt ex24; first | (exfalso; omega) | exact Or.inl ⟨by omega, by omega, by first | rfl | assumption⟩ | exact Or.inr (Or.inl ⟨by omega, by omega, by omega, by omega, by first | rfl | assumption⟩) | exact Or.inr (Or.inr (⟨by omega, by omega, by omega, by omega, by first | rfl | assumption⟩)))⟩
  have q30 := r12q.f c15
  refine zr_iconst hB dX9_mark_17 rfl (fun c31 ec31 => ?_)
  exact zr_iret hG dX9_mark_18 ⟨hO0, hA0, by omega, by omega, (by first | (exfalso; omega) | exact Or.inl ⟨by omega, by omega, by first | rfl | assumption⟩ | exact Or.inr (Or.inl ⟨by omega, by omega, by omega, by omega, by first | rfl | assumption⟩) | exact Or.inr (Or.inr (⟨by omega, by omega, by omega, by omega, by first | rfl | assumption⟩)))⟩

def m_M_feed : zc_ms := [(0, some 6), (4, none)]
set_option maxHeartbeats 1000000 in
set_option maxRecDepth 100000 in
theorem c_M_feed (K : zc_K) (hi : zc_inj shM K.2.2.2.1) (σ0 : zc_S) (p1 : Int64) (hO0 : zc_O okM σ0)  : zc_M shM K yX9_feed cX9_feed 4 (some .int) (zrm 0 0) σ0 [.ref (zk K 0), .long p1] (zc_I (fun r9 σ9 => zc_O okM σ9 ∧ zc_Ag m_M_feed σ0 σ9 ∧ (-3) ≤ r9.toInt ∧ r9.toInt ≤ 120 ∧ ((112 < (σ0.1 0 6).toInt ∧ r9.toInt = -3 ∧ (σ9.1 0 6).toInt = (σ0.1 0 6).toInt) ∨ ((σ0.1 0 6).toInt ≤ 112 ∧ r9.toInt = (σ0.1 0 6).toInt + 8 ∧ (σ9.1 0 6).toInt = (σ0.1 0 6).toInt + 8)) ∧ ((112 < (σ0.1 0 6).toInt ∧ σ9 = σ0) ∨ ((σ0.1 0 6).toInt ≤ 112 ∧ zw_I 4 σ0 σ9 (σ0.1 0 6).toInt ((σ0.1 0 6).toInt + 8) p1)))) := by
  refine zc_start RX9 hi pfX9_feed rfl (Nat.le_of_ble_eq_true rfl) ?_
  intro G hG
  have hB := hG.1
  have hA0 : zc_Ag m_M_feed σ0 σ0 := zc_Ag.rf
  show zc_V 4 K G (zc_D shM K G σ0) [(0, .ref (zk K 0)), (1, .long p1)] 0 []
  refine zr_aload_n hB 0 dX9_feed_0 rfl ?_
  refine zr_geti' hG 0 6 (σ0.1 0 6) dX9_feed_1 rfl wf_X9_125 rfl rfl ?_
  have b1 : 0 ≤ (σ0.1 0 6).toInt ∧ (σ0.1 0 6).toInt ≤ 120 := ⟨(hO0 0 6).1, (hO0 0 6).2.1⟩
  refine zr_bipush hB dX9_feed_4 rfl (fun c2 ec2 => ?_)
  refine zr_iadd hB dX9_feed_6 (by omega) (by omega) (fun x3 ex3 => ?_)
  refine zr_bipush hB dX9_feed_7 rfl (fun c4 ec4 => ?_)
  refine zr_icmp_le hB dX9_feed_9 (tgt := 15) rfl (fun c5 => ?_) (fun c5 => ?_)
  · refine zr_bipush hB dX9_feed_15 rfl (fun c6 ec6 => ?_)
    refine zr_istore_n hB dX9_feed_17 rfl (by decide) (lv' := [(3, .int c6), (0, .ref (zk K 0)), (1, .long p1)]) rfl ?_
    have L18_13 : ∀ (n18 : Nat) (σ8 : zc_S) (y3_7 : Int32), zc_O okM σ8 → zc_Ag m_M_feed σ0 σ8 → (-999) ≤ y3_7.toInt → y3_7.toInt ≤ 56 → (σ8.1 0 6).toInt * 8 + y3_7.toInt ≤ 952 → 0 ≤ (σ8.1 0 6).toInt → (σ8.1 0 6).toInt * 8 + y3_7.toInt = (σ0.1 0 6).toInt * 8 + 56 → -8 ≤ y3_7.toInt → zw_I 4 σ0 σ8 (σ0.1 0 6).toInt (σ8.1 0 6).toInt p1 → y3_7.toInt - (-999) < (n18 : Int) → zc_V 4 K G (zc_D shM K G σ8) [(0, .ref (zk K 0)), (1, .long p1), (3, .int y3_7)] 18 [] := by
      intro n18
      induction n18 with
      | zero => intro σ8 y3_7 hO8 hA8 y3_7a y3_7b e9 e10 e11 e12 hI hn18; exfalso; omega
      | succ n18 ih18 =>
        intro σ8 y3_7 hO8 hA8 y3_7a y3_7b e9 e10 e11 e12 hI hn18
        refine zr_iload_n hB 2 dX9_feed_18 rfl ?_
        refine zr_if_lt hB dX9_feed_19 (tgt := 55) rfl (fun c14 => ?_) (fun c14 => ?_)
        · refine zr_aload_n hB 0 dX9_feed_55 rfl ?_
          refine zr_geti' hG 0 6 (σ8.1 0 6) dX9_feed_56 rfl wf_X9_125 rfl rfl ?_
          have b15 : 0 ≤ (σ8.1 0 6).toInt ∧ (σ8.1 0 6).toInt ≤ 120 := ⟨(hO8 0 6).1, (hO8 0 6).2.1⟩
          exact zr_iret hG dX9_feed_59 ⟨hO8, hA8, by omega, by omega, (show ((112 < (σ0.1 0 6).toInt ∧ (σ8.1 0 6).toInt = -3 ∧ (σ8.1 0 6).toInt = (σ0.1 0 6).toInt) ∨ ((σ0.1 0 6).toInt ≤ 112 ∧ (σ8.1 0 6).toInt = (σ0.1 0 6).toInt + 8 ∧ (σ8.1 0 6).toInt = (σ0.1 0 6).toInt + 8)) by omega), (Or.inr ⟨by omega, by rw [show (σ0.1 0 6).toInt + 8 = (σ8.1 0 6).toInt by omega]; exact hI⟩)⟩
        refine zr_aload_n hB 0 dX9_feed_22 rfl ?_
        refine zr_getr hG 0 5 dX9_feed_23 rfl wf_X9_20 rfl ?_
        refine zr_aload_n hB 0 dX9_feed_26 rfl ?_
        refine zr_geti' hG 0 6 (σ8.1 0 6) dX9_feed_27 rfl wf_X9_125 rfl rfl ?_
        have b16 : 0 ≤ (σ8.1 0 6).toInt ∧ (σ8.1 0 6).toInt ≤ 120 := ⟨(hO8 0 6).1, (hO8 0 6).2.1⟩
        refine zr_lload_n hB 1 dX9_feed_30 rfl ?_
        refine zr_iload_n hB 2 dX9_feed_31 rfl ?_
        refine zr_lshr hB dX9_feed_32 (fun l17 el17 => ?_)
        refine zr_l2iw hB dX9_feed_33 (fun x18 ex18 => ?_)
        refine zr_sipush hB dX9_feed_34 rfl (fun c19 ec19 => ?_)
        refine zr_iand hB dX9_feed_37 (fun x20 ex20 => ?_)
        have bx20 := zn_and ex20 ec19 (k := 8) rfl (by decide)
        have hby : x20.toInt = zw_by p1 y3_7.toInt := zw_sar (y := y3_7) el17 ex18 ex20 (show c19.toInt = 255 by omega) (by omega)
        refine zr_iast hG 4 dX9_feed_38 rfl (by omega) (by omega)  ?_
        have hOw21 := zc_O.u hO8 4 (σ8.1 0 6).toInt.toNat (v := x20) (show 0 ≤ x20.toInt by omega) (show x20.toInt ≤ 255 by omega) (Or.inr (show 0 ≤ x20.toInt by omega))
        have hAw21 := zc_Ag.u hA8 4 (σ8.1 0 6).toInt.toNat x20 rfl
        refine zr_aload_n hB 0 dX9_feed_39 rfl ?_
        refine zr_dup hB dX9_feed_40 rfl ?_
        refine zr_geti' hG 0 6 (σ8.1 0 6) dX9_feed_41 rfl wf_X9_125 rfl rfl ?_
        refine zr_iconst hB dX9_feed_44 rfl (fun c22 ec22 => ?_)
        refine zr_iadd hB dX9_feed_45 (by omega) (by omega) (fun x23 ex23 => ?_)
        refine zr_puti hG 0 6 dX9_feed_46 rfl wp_X9_125 rfl ?_
        have hOw24 := zc_O.u hOw21 0 6 (v := x23) (show 0 ≤ x23.toInt by omega) (show x23.toInt ≤ 120 by omega) (Or.inr (show 0 ≤ x23.toInt by omega))
        have hAw24 := zc_Ag.u hAw21 0 6 x23 rfl
        refine zr_iinc hB 2 dX9_feed_49 rfl (by decide) rfl (by omega) (by omega) (fun x25 ex25 lv' hlv => ?_)
        obtain rfl : [(3, .int x25), (0, .ref (zk K 0)), (1, .long p1)] = lv' := hlv
        refine zr_goto hB dX9_feed_52 (tgt := 18) rfl ?_
        exact zc_sub [1, 2, 0] rfl (ih18 (zc_u (zc_u σ8 4 (σ8.1 0 6).toInt.toNat x20) 0 6 x23) x25 hOw24 hAw24 (by omega) (by omega) (show x23.toInt * 8 + x25.toInt ≤ 952 by omega) (show 0 ≤ x23.toInt by omega) (show x23.toInt * 8 + x25.toInt = (σ0.1 0 6).toInt * 8 + 56 by omega) (show -8 ≤ x25.toInt by omega) (show zw_I 4 σ0 (zc_u (zc_u σ8 4 (σ8.1 0 6).toInt.toNat x20) 0 6 x23) (σ0.1 0 6).toInt x23.toInt p1 by exact zw_In (zw_Iu hI (by omega) (by omega) hby (by omega) (by omega)) (by decide)) (by omega))
    exact zc_sub [1, 2, 0] rfl (L18_13 1057 σ0 c6 hO0 hA0 (by omega) (by omega) (show (σ0.1 0 6).toInt * 8 + c6.toInt ≤ 952 by omega) (show 0 ≤ (σ0.1 0 6).toInt by omega) (show (σ0.1 0 6).toInt * 8 + c6.toInt = (σ0.1 0 6).toInt * 8 + 56 by omega) (show -8 ≤ c6.toInt by omega) (show zw_I 4 σ0 σ0 (σ0.1 0 6).toInt (σ0.1 0 6).toInt p1 by exact zw_I0 (by omega)) (by omega))
  refine zr_bipush hB dX9_feed_12 rfl (fun c26 ec26 => ?_)
  exact zr_iret hG dX9_feed_14 ⟨hO0, hA0, by omega, by omega, (show ((112 < (σ0.1 0 6).toInt ∧ c26.toInt = -3 ∧ (σ0.1 0 6).toInt = (σ0.1 0 6).toInt) ∨ ((σ0.1 0 6).toInt ≤ 112 ∧ c26.toInt = (σ0.1 0 6).toInt + 8 ∧ (σ0.1 0 6).toInt = (σ0.1 0 6).toInt + 8)) by omega), (Or.inl ⟨by omega, rfl⟩)⟩

def m_M_end : zc_ms := [(0, some 6)]
set_option maxHeartbeats 1000000 in
set_option maxRecDepth 100000 in
theorem c_M_end (K : zc_K) (hi : zc_inj shM K.2.2.2.1) (σ0 : zc_S) (p1 : Int32) (hO0 : zc_O okM σ0)  : zc_M shM K yX9_end cX9_end 3 (some .int) (zrm 1 25) σ0 [.ref (zk K 0), .int p1] (zc_I (fun r9 σ9 => zc_O okM σ9 ∧ zc_Ag m_M_end σ0 σ9 ∧ (-1) ≤ r9.toInt ∧ r9.toInt ≤ 120 ∧ (((p1.toInt < 0 ∨ (σ0.1 0 6).toInt < p1.toInt) ∧ r9.toInt = -1 ∧ (σ9.1 0 6).toInt = (σ0.1 0 6).toInt) ∨ (0 ≤ p1.toInt ∧ p1.toInt ≤ (σ0.1 0 6).toInt ∧ r9.toInt = (σ0.1 0 6).toInt ∧ (σ9.1 0 6).toInt = p1.toInt)))) := by
  refine zc_start RX9 hi pfX9_end rfl (Nat.le_of_ble_eq_true rfl) ?_
  intro G hG
  have hB := hG.1
  have hA0 : zc_Ag m_M_end σ0 σ0 := zc_Ag.rf
  show zc_V 3 K G (zc_D shM K G σ0) [(0, .ref (zk K 0)), (1, .int p1)] 0 []
  refine zr_iload_n hB 1 dX9_end_0 rfl ?_
  have v2 := And.intro (zn_lo p1) (zn_hi p1)
  refine zr_i2l hB dX9_end_1 (fun l1 el1 => ?_)
  refine zr_lconst hB dX9_end_2 (m := 0) rfl (fun c3 ec3 => ?_)
  refine zr_aload_n hB 0 dX9_end_3 rfl ?_
  refine zr_geti' hG 0 6 (σ0.1 0 6) dX9_end_4 rfl wf_X9_125 rfl rfl ?_
  have b4 : 0 ≤ (σ0.1 0 6).toInt ∧ (σ0.1 0 6).toInt ≤ 120 := ⟨(hO0 0 6).1, (hO0 0 6).2.1⟩
  refine zr_i2l hB dX9_end_7 (fun l5 el5 => ?_)
  refine zr_callsi hG (rest := []) dX9_end_8 wm_X9_91 (c_M_in K hG.2.2.2.2.2.1 σ0 l1 c3 l5 hO0 ) rfl rfl (Nat.le_of_ble_eq_true rfl) ⟨Nat.le_of_ble_eq_true rfl, Nat.le_of_ble_eq_true rfl, rfl, rfl⟩ (fun r6 σ7 h8 => ?_)
  obtain ⟨rfl, r6q⟩ := h8
  have r6z := r6q.b
  refine zr_if_ne hB dX9_end_11 (tgt := 16) rfl (fun c9 => ?_) (fun c9 => ?_)
  · have q10 := r6q.t c9
    refine zr_aload_n hB 0 dX9_end_16 rfl ?_
    refine zr_geti' hG 0 6 (σ0.1 0 6) dX9_end_17 rfl wf_X9_125 rfl rfl ?_
    refine zr_istore_n hB dX9_end_20 rfl (by decide) (lv' := [(2, .int (σ0.1 0 6)), (0, .ref (zk K 0)), (1, .int p1)]) rfl ?_
    refine zr_aload_n hB 1 dX9_end_21 rfl ?_
    refine zr_iload_n hB 2 dX9_end_22 rfl ?_
    refine zr_puti hG 0 6 dX9_end_23 rfl wp_X9_125 rfl ?_
    have hOw11 := zc_O.u hO0 0 6 (v := p1) (show 0 ≤ p1.toInt by omega) (show p1.toInt ≤ 120 by omega) (Or.inr (show 0 ≤ p1.toInt by omega))
    have hAw11 := zc_Ag.u hA0 0 6 p1 rfl
    refine zr_iload_n hB 0 dX9_end_26 rfl ?_
    exact zr_iret hG dX9_end_27 ⟨hOw11, hAw11, by omega, by omega, (show (((p1.toInt < 0 ∨ (σ0.1 0 6).toInt < p1.toInt) ∧ (σ0.1 0 6).toInt = -1 ∧ p1.toInt = (σ0.1 0 6).toInt) ∨ (0 ≤ p1.toInt ∧ p1.toInt ≤ (σ0.1 0 6).toInt ∧ (σ0.1 0 6).toInt = (σ0.1 0 6).toInt ∧ p1.toInt = p1.toInt)) by omega)⟩
  have q12 := r6q.f c9
  refine zr_iconst hB dX9_end_14 rfl (fun c13 ec13 => ?_)
  exact zr_iret hG dX9_end_15 ⟨hO0, hA0, by omega, by omega, (show (((p1.toInt < 0 ∨ (σ0.1 0 6).toInt < p1.toInt) ∧ c13.toInt = -1 ∧ (σ0.1 0 6).toInt = (σ0.1 0 6).toInt) ∨ (0 ≤ p1.toInt ∧ p1.toInt ≤ (σ0.1 0 6).toInt ∧ c13.toInt = (σ0.1 0 6).toInt ∧ (σ0.1 0 6).toInt = p1.toInt)) by omega)⟩

set_option maxHeartbeats 1000000 in
set_option maxRecDepth 100000 in
theorem c_M_byteAt (K : zc_K) (hi : zc_inj shM K.2.2.2.1) (σ0 : zc_S) (p1 : Int32) (hO0 : zc_O okM σ0) (h1a : 0 ≤ p1.toInt) : zc_M shM K yX9_byteAt cX9_byteAt 2 (some .int) (zrm 0 0) σ0 [.ref (zk K 0), .int p1] (zc_I (fun r9 σ9 => σ0 = σ9 ∧ (-4) ≤ r9.toInt ∧ r9.toInt ≤ 255 ∧ (r9.toInt = (-4) ∨ 0 ≤ r9.toInt) ∧ (r9.toInt = -4 ∨ (p1.toInt < (σ0.1 0 6).toInt ∧ p1.toInt ≤ 119)) ∧ r9.toInt = zw_bM σ0 p1.toInt.toNat)) := by
  refine zc_start RX9 hi pfX9_byteAt rfl (Nat.le_of_ble_eq_true rfl) ?_
  intro G hG
  have hB := hG.1
  show zc_V 2 K G (zc_D shM K G σ0) [(0, .ref (zk K 0)), (1, .int p1)] 0 []
  have bw0_6 : 0 ≤ (σ0.1 0 6).toInt ∧ (σ0.1 0 6).toInt ≤ 120 := ⟨(hO0 0 6).1, (hO0 0 6).2.1⟩
  refine zr_iload_n hB 1 dX9_byteAt_0 rfl ?_
  refine zr_aload_n hB 0 dX9_byteAt_1 rfl ?_
  refine zr_geti' hG 0 6 (σ0.1 0 6) dX9_byteAt_2 rfl wf_X9_125 rfl rfl ?_
  refine zr_icmp_ge hB dX9_byteAt_5 (tgt := 17) rfl (fun c1 => ?_) (fun c1 => ?_)
  · refine zr_bipush hB dX9_byteAt_17 rfl (fun c2 ec2 => ?_)
    exact zr_iret hG dX9_byteAt_19 ⟨rfl, by omega, by omega, by omega, by omega, (by rw [zw_bM_out (by omega)]; omega)⟩
  refine zr_aload_n hB 0 dX9_byteAt_8 rfl ?_
  refine zr_getr hG 0 5 dX9_byteAt_9 rfl wf_X9_20 rfl ?_
  refine zr_iload_n hB 1 dX9_byteAt_12 rfl ?_
  refine zr_iald hG 4 dX9_byteAt_13 rfl (by omega) (by omega) (fun x3 ex3 => ?_)
  have bx3 : 0 ≤ x3.toInt ∧ x3.toInt ≤ 255 := by rw [ex3]; exact ⟨(hO0 4 _).1, (hO0 4 _).2.1⟩
  refine zr_goto hB dX9_byteAt_14 (tgt := 19) rfl ?_
  exact zr_iret hG dX9_byteAt_19 ⟨rfl, by omega, by omega, by omega, by omega, (by rw [zw_bM_in (by omega), ex3])⟩

def m_M_fails : zc_ms := [(0, some 8), (0, some 9)]
set_option maxHeartbeats 1000000 in
set_option maxRecDepth 100000 in
theorem c_M_fails (K : zc_K) (hi : zc_inj shM K.2.2.2.1) (σ0 : zc_S) (p1 : Int32) (hO0 : zc_O okM σ0) (h1a : 1 ≤ p1.toInt) (h1b : p1.toInt ≤ 5) : zc_M shM K yX9_fails cX9_fails 2 none (zrm 0 0) σ0 [.ref (zk K 0), .int p1] (zc_N (fun σ9 => zc_O okM σ9 ∧ zc_Ag m_M_fails σ0 σ9 ∧ 1 ≤ (σ9.1 0 8).toInt ∧ (((σ0.1 0 8).toInt = 0 ∧ (σ9.1 0 8).toInt = p1.toInt ∧ (σ9.1 0 9).toInt = (σ0.1 0 11).toInt) ∨ (¬ (σ0.1 0 8).toInt = 0 ∧ (σ9.1 0 8).toInt = (σ0.1 0 8).toInt ∧ (σ9.1 0 9).toInt = (σ0.1 0 9).toInt)) ∧ (((σ0.1 0 8).toInt = 0 ∧ zw_M σ9 = (p1.toInt, (zw_M σ0).2) ∧ (σ9.1 0 9).toInt = (σ0.1 0 11).toInt) ∨ (¬ (σ0.1 0 8).toInt = 0 ∧ σ9 = σ0)))) := by
  refine zc_start RX9 hi pfX9_fails rfl (Nat.le_of_ble_eq_true rfl) ?_
  intro G hG
  have hB := hG.1
  have hA0 : zc_Ag m_M_fails σ0 σ0 := zc_Ag.rf
  show zc_V 2 K G (zc_D shM K G σ0) [(0, .ref (zk K 0)), (1, .int p1)] 0 []
  have bw0_8 : 0 ≤ (σ0.1 0 8).toInt ∧ (σ0.1 0 8).toInt ≤ 5 := ⟨(hO0 0 8).1, (hO0 0 8).2.1⟩
  have bw0_9 : 0 ≤ (σ0.1 0 9).toInt ∧ (σ0.1 0 9).toInt ≤ 120 := ⟨(hO0 0 9).1, (hO0 0 9).2.1⟩
  have bw0_11 : 0 ≤ (σ0.1 0 11).toInt ∧ (σ0.1 0 11).toInt ≤ 120 := ⟨(hO0 0 11).1, (hO0 0 11).2.1⟩
  refine zr_aload_n hB 0 dX9_fails_0 rfl ?_
  refine zr_geti' hG 0 8 (σ0.1 0 8) dX9_fails_1 rfl wf_X9_128 rfl rfl ?_
  refine zr_if_ne hB dX9_fails_4 (tgt := 20) rfl (fun c1 => ?_) (fun c1 => ?_)
  · exact zr_vret hG dX9_fails_20 ⟨hO0, hA0, (show 1 ≤ (σ0.1 0 8).toInt by omega), (show (((σ0.1 0 8).toInt = 0 ∧ (σ0.1 0 8).toInt = p1.toInt ∧ (σ0.1 0 9).toInt = (σ0.1 0 11).toInt) ∨ (¬ (σ0.1 0 8).toInt = 0 ∧ (σ0.1 0 8).toInt = (σ0.1 0 8).toInt ∧ (σ0.1 0 9).toInt = (σ0.1 0 9).toInt)) by omega), (Or.inr ⟨by omega, rfl⟩)⟩
  refine zr_aload_n hB 0 dX9_fails_7 rfl ?_
  refine zr_iload_n hB 1 dX9_fails_8 rfl ?_
  refine zr_puti hG 0 8 dX9_fails_9 rfl wp_X9_128 rfl ?_
  have hOw2 := zc_O.u hO0 0 8 (v := p1) (show 0 ≤ p1.toInt by omega) (show p1.toInt ≤ 5 by omega) (Or.inr (show 0 ≤ p1.toInt by omega))
  have hAw2 := zc_Ag.u hA0 0 8 p1 rfl
  refine zr_aload_n hB 0 dX9_fails_12 rfl ?_
  refine zr_aload_n hB 0 dX9_fails_13 rfl ?_
  refine zr_geti' hG 0 11 (σ0.1 0 11) dX9_fails_14 rfl wf_X9_131 rfl rfl ?_
  refine zr_puti hG 0 9 dX9_fails_17 rfl wp_X9_134 rfl ?_
  have hOw3 := zc_O.u hOw2 0 9 (v := (σ0.1 0 11)) (show 0 ≤ (σ0.1 0 11).toInt by omega) (show (σ0.1 0 11).toInt ≤ 120 by omega) (Or.inr (show 0 ≤ (σ0.1 0 11).toInt by omega))
  have hAw3 := zc_Ag.u hAw2 0 9 (σ0.1 0 11) rfl
  exact zr_vret hG dX9_fails_20 ⟨hOw3, hAw3, (show 1 ≤ p1.toInt by omega), (show (((σ0.1 0 8).toInt = 0 ∧ p1.toInt = p1.toInt ∧ (σ0.1 0 11).toInt = (σ0.1 0 11).toInt) ∨ (¬ (σ0.1 0 8).toInt = 0 ∧ p1.toInt = (σ0.1 0 8).toInt ∧ (σ0.1 0 11).toInt = (σ0.1 0 9).toInt)) by omega), (Or.inl ⟨by omega, zw_M_f (σ := σ0) (c := p1) rfl, (show (σ0.1 0 11).toInt = (σ0.1 0 11).toInt by omega)⟩)⟩

def m_M_next : zc_ms := [(0, some 8), (0, some 9), (0, some 10), (0, some 11), (0, some 12), (0, some 13)]
set_option maxHeartbeats 8000000 in
set_option maxRecDepth 100000 in
theorem c_M_next (K : zc_K) (hi : zc_inj shM K.2.2.2.1) (σ0 : zc_S)  (hO0 : zc_O okM σ0) (hI : zw_iw (σ0.1 0 8).toInt (σ0.1 0 9).toInt (σ0.1 0 11).toInt) : zc_M shM K yX9_next cX9_next 2 none (zrm 1 25) σ0 [.ref (zk K 0)] (zc_N (fun σ9 => zc_O okM σ9 ∧ zc_Ag m_M_next σ0 σ9 ∧ ((σ0.1 0 8).toInt = 0 ∨ 1 ≤ (σ9.1 0 8).toInt) ∧ zw_M σ9 = zw_adv (zw_bM σ0) (zw_M σ0) ∧ zw_V σ9 ∧ zw_iw (σ9.1 0 8).toInt (σ9.1 0 9).toInt (σ9.1 0 11).toInt)) := by
  refine zc_start RX9 hi pfX9_next rfl (Nat.le_of_ble_eq_true rfl) ?_
  intro G hG
  have hB := hG.1
  have hA0 : zc_Ag m_M_next σ0 σ0 := zc_Ag.rf
  show zc_V 2 K G (zc_D shM K G σ0) [(0, .ref (zk K 0))] 0 []
  have bw0_8 : 0 ≤ (σ0.1 0 8).toInt ∧ (σ0.1 0 8).toInt ≤ 5 := ⟨(hO0 0 8).1, (hO0 0 8).2.1⟩
  have bw0_9 : 0 ≤ (σ0.1 0 9).toInt ∧ (σ0.1 0 9).toInt ≤ 120 := ⟨(hO0 0 9).1, (hO0 0 9).2.1⟩
  have bw0_10 : 0 ≤ (σ0.1 0 10).toInt ∧ (σ0.1 0 10).toInt ≤ 120 := ⟨(hO0 0 10).1, (hO0 0 10).2.1⟩
  have bw0_11 : 0 ≤ (σ0.1 0 11).toInt ∧ (σ0.1 0 11).toInt ≤ 120 := ⟨(hO0 0 11).1, (hO0 0 11).2.1⟩
  refine zr_aload_n hB 0 dX9_next_0 rfl ?_
  refine zr_geti' hG 0 8 (σ0.1 0 8) dX9_next_1 rfl wf_X9_128 rfl rfl ?_
  refine zr_if_le hB dX9_next_4 (tgt := 8) rfl (fun c1 => ?_) (fun c1 => ?_)
  · have L8_6 : ∀ (n8 : Nat) (σ2 : zc_S) , zc_O okM σ2 → zc_Ag m_M_next σ0 σ2 → 0 ≤ (σ2.1 0 10).toInt → (σ2.1 0 10).toInt ≤ 120 → zw_to zw_sp (zw_bM σ0) (σ2.1 0 10).toInt.toNat = (zw_s (zw_bM σ0) (σ0.1 0 10).toInt.toNat) → (σ2.1 0 8).toInt = 0 → 120 - (σ2.1 0 10).toInt < (n8 : Int) → zc_V 2 K G (zc_D shM K G σ2) [(0, .ref (zk K 0))] 8 [] := by
      intro n8
      induction n8 with
      | zero => intro σ2 hO2 hA2 e3 e4 h_sp e5 hn8; exfalso; omega
      | succ n8 ih8 =>
        intro σ2 hO2 hA2 e3 e4 h_sp e5 hn8
        refine zr_aload_n hB 0 dX9_next_8 rfl ?_
        refine zr_aload_n hB 0 dX9_next_9 rfl ?_
        refine zr_geti' hG 0 10 (σ2.1 0 10) dX9_next_10 rfl wf_X9_137 rfl rfl ?_
        have b7 : 0 ≤ (σ2.1 0 10).toInt ∧ (σ2.1 0 10).toInt ≤ 120 := ⟨(hO2 0 10).1, (hO2 0 10).2.1⟩
        refine zr_callvi hG (rest := []) 0 dX9_next_13 wm_X9_140 rfl rfl (c_M_byteAt K hG.2.2.2.2.2.1 σ2 (σ2.1 0 10) hO2 (by omega)) rfl rfl (Nat.le_of_ble_eq_true rfl) ⟨Nat.le_of_ble_eq_true rfl, Nat.le_of_ble_eq_true rfl, rfl, rfl⟩ (fun r8 σ9 h10 => ?_)
        obtain ⟨rfl, r8a, r8b, r8h, g11, g12⟩ := h10
        have hb13 : (zw_bM σ0) (σ2.1 0 10).toInt.toNat = r8.toInt := by rw [g12, zw_bM.ag hA2 rfl (fun _ => rfl)]
        refine zr_bipush hB dX9_next_16 rfl (fun c14 ec14 => ?_)
        refine zr_icmp_ne hB dX9_next_18 (tgt := 34) rfl (fun c15 => ?_) (fun c15 => ?_)
        · have hsn : (zw_s (zw_bM σ0) (σ0.1 0 10).toInt.toNat) = (σ2.1 0 10).toInt.toNat := by have h9 := h_sp; rw [zw_no (Or.inl (by rw [hb13]; exact decide_eq_false (by omega)))] at h9; exact h9.symm
          refine zr_aload_n hB 0 dX9_next_34 rfl ?_
          refine zr_aload_n hB 0 dX9_next_35 rfl ?_
          refine zr_geti' hG 0 10 (σ2.1 0 10) dX9_next_36 rfl wf_X9_137 rfl rfl ?_
          refine zr_puti hG 0 11 dX9_next_39 rfl wp_X9_131 rfl ?_
          have hOw16 := zc_O.u hO2 0 11 (v := (σ2.1 0 10)) (show 0 ≤ (σ2.1 0 10).toInt by omega) (show (σ2.1 0 10).toInt ≤ 120 by omega) (Or.inr (show 0 ≤ (σ2.1 0 10).toInt by omega))
          have hAw16 := zc_Ag.u hA2 0 11 (σ2.1 0 10) rfl
          refine zr_aload_n hB 0 dX9_next_42 rfl ?_
          refine zr_aload_n hB 0 dX9_next_43 rfl ?_
          refine zr_geti' hG 0 10 (σ2.1 0 10) dX9_next_44 rfl wf_X9_137 rfl rfl ?_
          refine zr_callvi hG (rest := []) 0 dX9_next_47 wm_X9_140 rfl rfl (c_M_byteAt K hG.2.2.2.2.2.1 (zc_u σ2 0 11 (σ2.1 0 10)) (σ2.1 0 10) hOw16 (by omega)) rfl rfl (Nat.le_of_ble_eq_true rfl) ⟨Nat.le_of_ble_eq_true rfl, Nat.le_of_ble_eq_true rfl, rfl, rfl⟩ (fun r17 σ18 h19 => ?_)
          obtain ⟨rfl, r17a, r17b, r17h, g20, g21⟩ := h19
          have g20' : (r17.toInt = -4 ∨ ((σ2.1 0 10).toInt < (σ2.1 0 6).toInt ∧ (σ2.1 0 10).toInt ≤ 119)) := g20
          have hbc : (zw_bM σ0) (zw_s (zw_bM σ0) (σ0.1 0 10).toInt.toNat) = r17.toInt := by rw [hsn, g21, zw_bM.ag hAw16 rfl (fun _ => rfl)]
          refine zr_istore_n hB dX9_next_50 rfl (by decide) (lv' := [(1, .int r17), (0, .ref (zk K 0))]) rfl ?_
          refine zr_aload_n hB 1 dX9_next_51 rfl ?_
          refine zr_iconst hB dX9_next_52 rfl (fun c22 ec22 => ?_)
          refine zr_puti hG 0 13 dX9_next_53 rfl wp_X9_143 rfl ?_
          have hOw23 := zc_O.u hOw16 0 13 (v := c22) (show 0 ≤ c22.toInt by omega) (show c22.toInt ≤ 99 by omega) (Or.inr (show 0 ≤ c22.toInt by omega))
          have hAw23 := zc_Ag.u hAw16 0 13 c22 rfl
          refine zr_iload_n hB 0 dX9_next_56 rfl ?_
          refine zr_bipush hB dX9_next_57 rfl (fun c24 ec24 => ?_)
          refine zr_icmp_ne hB dX9_next_59 (tgt := 70) rfl (fun c25 => ?_) (fun c25 => ?_)
          · refine zr_iload_n hB 0 dX9_next_70 rfl ?_
            refine zr_i2l hB dX9_next_71 (fun l26 el26 => ?_)
            refine zr_ldc2 hB dX9_next_72 wc_X9_149 (n := 97) rfl (fun c27 ec27 => ?_)
            refine zr_ldc2 hB dX9_next_75 wc_X9_151 (n := 122) rfl (fun c28 ec28 => ?_)
            refine zr_callsi hG (rest := []) dX9_next_78 wm_X9_91 (c_M_in K hG.2.2.2.2.2.1 (zc_u (zc_u σ2 0 11 (σ2.1 0 10)) 0 13 c22) l26 c27 c28 hOw23 ) rfl rfl (Nat.le_of_ble_eq_true rfl) ⟨Nat.le_of_ble_eq_true rfl, Nat.le_of_ble_eq_true rfl, rfl, rfl⟩ (fun r29 σ30 h31 => ?_)
            obtain ⟨rfl, r29q⟩ := h31
            have r29z := r29q.b
            refine zr_if_eq hB dX9_next_81 (tgt := 126) rfl (fun c32 => ?_) (fun c32 => ?_)
            · have q33 := r29q.f c32
              refine zr_iload_n hB 0 dX9_next_126 rfl ?_
              refine zr_i2l hB dX9_next_127 (fun l34 el34 => ?_)
              refine zr_ldc2 hB dX9_next_128 wc_X9_153 (n := 48) rfl (fun c35 ec35 => ?_)
              refine zr_ldc2 hB dX9_next_131 wc_X9_155 (n := 57) rfl (fun c36 ec36 => ?_)
              refine zr_callsi hG (rest := []) dX9_next_134 wm_X9_91 (c_M_in K hG.2.2.2.2.2.1 (zc_u (zc_u σ2 0 11 (σ2.1 0 10)) 0 13 c22) l34 c35 c36 hOw23 ) rfl rfl (Nat.le_of_ble_eq_true rfl) ⟨Nat.le_of_ble_eq_true rfl, Nat.le_of_ble_eq_true rfl, rfl, rfl⟩ (fun r37 σ38 h39 => ?_)
              obtain ⟨rfl, r37q⟩ := h39
              have r37z := r37q.b
              refine zr_if_eq hB dX9_next_137 (tgt := 243) rfl (fun c40 => ?_) (fun c40 => ?_)
              · have q41 := r37q.f c40
                refine zr_aload_n hB 1 dX9_next_243 rfl ?_
                refine zr_iconst hB dX9_next_244 rfl (fun c42 ec42 => ?_)
                refine zr_puti hG 0 12 dX9_next_245 rfl wp_X9_146 rfl ?_
                have hOw43 := zc_O.u hOw23 0 12 (v := c42) (show 0 ≤ c42.toInt by omega) (show c42.toInt ≤ 3 by omega) (Or.inr (show 0 ≤ c42.toInt by omega))
                have hAw43 := zc_Ag.u hAw23 0 12 c42 rfl
                refine zr_aload_n hB 1 dX9_next_248 rfl ?_
                refine zr_dup hB dX9_next_249 rfl ?_
                refine zr_geti' hG 0 10 (σ2.1 0 10) dX9_next_250 rfl wf_X9_137 rfl rfl ?_
                refine zr_iconst hB dX9_next_253 rfl (fun c44 ec44 => ?_)
                refine zr_iadd hB dX9_next_254 (by omega) (by omega) (fun x45 ex45 => ?_)
                refine zr_puti hG 0 10 dX9_next_255 rfl wp_X9_137 rfl ?_
                have hOw46 := zc_O.u hOw43 0 10 (v := x45) (show 0 ≤ x45.toInt by omega) (show x45.toInt ≤ 120 by omega) (Or.inr (show 0 ≤ x45.toInt by omega))
                have hAw46 := zc_Ag.u hAw43 0 10 x45 rfl
                refine zr_iload_n hB 0 dX9_next_258 rfl ?_
                refine zr_bipush hB dX9_next_259 rfl (fun c47 ec47 => ?_)
                refine zr_icmp_eq hB dX9_next_261 (tgt := 269) rfl (fun c48 => ?_) (fun c48 => ?_)
                · exact zr_vret hG dX9_next_269 ⟨hOw46, hAw46, (show ((σ0.1 0 8).toInt = 0 ∨ 1 ≤ (σ2.1 0 8).toInt) by omega), (by rw [zw_adv_0 (show (zw_M σ0).1 = 0 from (show (σ0.1 0 8).toInt = 0 by omega))]; show zw_M (zc_u (zc_u (zc_u (zc_u σ2 0 11 (σ2.1 0 10)) 0 13 c22) 0 12 c42) 0 10 x45) = zw_tk (zw_bM σ0) (σ0.1 0 10).toInt.toNat; rw [zw_tk3 (by rw [hbc]; omega) (by rw [hbc]; omega) (by rw [hbc]; omega), if_pos (by rw [hbc]; omega)]; exact zw_M_mk (σ := (zc_u (zc_u (zc_u (zc_u σ2 0 11 (σ2.1 0 10)) 0 13 c22) 0 12 c42) 0 10 x45)) (show (σ2.1 0 8).toInt = 0 by omega) (show (σ2.1 0 10).toInt = (((zw_s (zw_bM σ0) (σ0.1 0 10).toInt.toNat) : Nat) : Int) by omega) (show x45.toInt = ((((zw_s (zw_bM σ0) (σ0.1 0 10).toInt.toNat) + 1) : Nat) : Int) by omega) (show c42.toInt = 3 by omega)), (fun _ h9 => absurd (show c42.toInt = 2 from h9) (by omega)), (show zw_iw (σ2.1 0 8).toInt (σ2.1 0 9).toInt (σ2.1 0 10).toInt by unfold zw_iw; omega)⟩
                refine zr_aload_n hB 1 dX9_next_264 rfl ?_
                refine zr_iconst hB dX9_next_265 rfl (fun c49 ec49 => ?_)
                have hM : zw_M (zc_u (zc_u (zc_u (zc_u σ2 0 11 (σ2.1 0 10)) 0 13 c22) 0 12 c42) 0 10 x45) = (0, (zw_s (zw_bM σ0) (σ0.1 0 10).toInt.toNat), ((zw_s (zw_bM σ0) (σ0.1 0 10).toInt.toNat) + 1), 3) := zw_M_mk (σ := (zc_u (zc_u (zc_u (zc_u σ2 0 11 (σ2.1 0 10)) 0 13 c22) 0 12 c42) 0 10 x45)) (show (σ2.1 0 8).toInt = 0 by omega) (show (σ2.1 0 10).toInt = (((zw_s (zw_bM σ0) (σ0.1 0 10).toInt.toNat) : Nat) : Int) by omega) (show x45.toInt = ((((zw_s (zw_bM σ0) (σ0.1 0 10).toInt.toNat) + 1) : Nat) : Int) by omega) (show c42.toInt = 3 by omega)
                refine zr_callvn hG (rest := []) 0 dX9_next_266 wm_X9_157 rfl rfl (c_M_fails K hG.2.2.2.2.2.1 (zc_u (zc_u (zc_u (zc_u σ2 0 11 (σ2.1 0 10)) 0 13 c22) 0 12 c42) 0 10 x45) c49 hOw46 (by omega) (by omega)) rfl rfl (Nat.le_of_ble_eq_true rfl) ⟨Nat.le_of_ble_eq_true rfl, Nat.le_of_ble_eq_true rfl, rfl, rfl⟩ (fun σ51 h52 => ?_)
                obtain ⟨hO53, hAc54, g55, g56, g57⟩ := h52
                have hA58 := zc_Ag.tr hAw46 hAc54 rfl
                have q59 : (σ51.1 0 10).toInt = x45.toInt := congrArg Int32.toInt (hAc54 0 10 rfl).1
                have q60 : (σ51.1 0 11).toInt = (σ2.1 0 10).toInt := congrArg Int32.toInt (hAc54 0 11 rfl).1
                have q61 : (σ51.1 0 13).toInt = c22.toInt := congrArg Int32.toInt (hAc54 0 13 rfl).1
                have q62 : (σ51.1 0 12).toInt = c42.toInt := congrArg Int32.toInt (hAc54 0 12 rfl).1
                have g55' : 1 ≤ (σ51.1 0 8).toInt := g55
                have g56' : (((σ2.1 0 8).toInt = 0 ∧ (σ51.1 0 8).toInt = c49.toInt ∧ (σ51.1 0 9).toInt = (σ2.1 0 10).toInt) ∨ (¬ (σ2.1 0 8).toInt = 0 ∧ (σ51.1 0 8).toInt = (σ2.1 0 8).toInt ∧ (σ51.1 0 9).toInt = (σ2.1 0 9).toInt)) := g56
                have hfm : zw_M σ51 = (1, (zw_s (zw_bM σ0) (σ0.1 0 10).toInt.toNat), ((zw_s (zw_bM σ0) (σ0.1 0 10).toInt.toNat) + 1), 3) := by have h9 := zw_fl g57 (fun h9 => h9 (show (σ2.1 0 8).toInt = 0 by omega)); rw [hM] at h9; rw [h9, show c49.toInt = 1 by omega]
                exact zr_vret hG dX9_next_269 ⟨hO53, hA58, (show ((σ0.1 0 8).toInt = 0 ∨ 1 ≤ (σ51.1 0 8).toInt) by omega), (by rw [zw_adv_0 (show (zw_M σ0).1 = 0 from (show (σ0.1 0 8).toInt = 0 by omega))]; show zw_M σ51 = zw_tk (zw_bM σ0) (σ0.1 0 10).toInt.toNat; rw [zw_tk3 (by rw [hbc]; omega) (by rw [hbc]; omega) (by rw [hbc]; omega), if_neg (by rw [hbc]; omega)]; exact hfm), (fun h9 => absurd (show (σ51.1 0 8).toInt = 0 from h9) (by omega)), (show zw_iw (σ51.1 0 8).toInt (σ51.1 0 9).toInt (σ51.1 0 11).toInt by unfold zw_iw; omega)⟩
              have q63 := r37q.t c40
              have L140_71 : ∀ (n140 : Nat) (σ64 : zc_S) , zc_O okM σ64 → zc_Ag m_M_next σ0 σ64 → 0 ≤ (σ64.1 0 10).toInt → (σ64.1 0 10).toInt ≤ 120 → zw_to zw_di (zw_bM σ0) (σ64.1 0 10).toInt.toNat = zw_to zw_di (zw_bM σ0) (zw_s (zw_bM σ0) (σ0.1 0 10).toInt.toNat) → (σ64.1 0 11).toInt = (((zw_s (zw_bM σ0) (σ0.1 0 10).toInt.toNat) : Nat) : Int) → (σ64.1 0 8).toInt = 0 → ((((σ64.1 0 10).toInt = (((zw_s (zw_bM σ0) (σ0.1 0 10).toInt.toNat) : Nat) : Int) ∧ (σ64.1 0 13).toInt = 0) ∨ ((σ64.1 0 10).toInt = (((zw_s (zw_bM σ0) (σ0.1 0 10).toInt.toNat) : Nat) : Int) + 1 ∧ (σ64.1 0 13).toInt = (zw_bM σ0) (zw_s (zw_bM σ0) (σ0.1 0 10).toInt.toNat) - 48) ∨ ((((zw_s (zw_bM σ0) (σ0.1 0 10).toInt.toNat) : Nat) : Int) + 2 ≤ (σ64.1 0 10).toInt ∧ (σ64.1 0 13).toInt = ((zw_bM σ0) (zw_s (zw_bM σ0) (σ0.1 0 10).toInt.toNat) - 48) * 10 + ((zw_bM σ0) ((zw_s (zw_bM σ0) (σ0.1 0 10).toInt.toNat) + 1) - 48)))) → 0 ≤ (σ64.1 0 13).toInt → (σ64.1 0 13).toInt ≤ 99 → 120 - (σ64.1 0 10).toInt < (n140 : Int) → zc_V 2 K G (zc_D shM K G σ64) [(0, .ref (zk K 0)), (1, .int r17)] 140 [] := by
                intro n140
                induction n140 with
                | zero => intro σ64 hO64 hA64 e65 e66 h_di e67 e68 hvv e69 e70 hn140; exfalso; omega
                | succ n140 ih140 =>
                  intro σ64 hO64 hA64 e65 e66 h_di e67 e68 hvv e69 e70 hn140
                  refine zr_aload_n hB 0 dX9_next_140 rfl ?_
                  refine zr_aload_n hB 0 dX9_next_141 rfl ?_
                  refine zr_geti' hG 0 10 (σ64.1 0 10) dX9_next_142 rfl wf_X9_137 rfl rfl ?_
                  have b72 : 0 ≤ (σ64.1 0 10).toInt ∧ (σ64.1 0 10).toInt ≤ 120 := ⟨(hO64 0 10).1, (hO64 0 10).2.1⟩
                  refine zr_callvi hG (rest := []) 0 dX9_next_145 wm_X9_140 rfl rfl (c_M_byteAt K hG.2.2.2.2.2.1 σ64 (σ64.1 0 10) hO64 (by omega)) rfl rfl (Nat.le_of_ble_eq_true rfl) ⟨Nat.le_of_ble_eq_true rfl, Nat.le_of_ble_eq_true rfl, rfl, rfl⟩ (fun r73 σ74 h75 => ?_)
                  obtain ⟨rfl, r73a, r73b, r73h, g76, g77⟩ := h75
                  have hb78 : (zw_bM σ0) (σ64.1 0 10).toInt.toNat = r73.toInt := by rw [g77, zw_bM.ag hA64 rfl (fun _ => rfl)]
                  refine zr_i2l hB dX9_next_148 (fun l79 el79 => ?_)
                  refine zr_ldc2 hB dX9_next_149 wc_X9_153 (n := 48) rfl (fun c80 ec80 => ?_)
                  refine zr_ldc2 hB dX9_next_152 wc_X9_155 (n := 57) rfl (fun c81 ec81 => ?_)
                  refine zr_callsi hG (rest := []) dX9_next_155 wm_X9_91 (c_M_in K hG.2.2.2.2.2.1 σ64 l79 c80 c81 hO64 ) rfl rfl (Nat.le_of_ble_eq_true rfl) ⟨Nat.le_of_ble_eq_true rfl, Nat.le_of_ble_eq_true rfl, rfl, rfl⟩ (fun r82 σ83 h84 => ?_)
                  obtain ⟨rfl, r82q⟩ := h84
                  have r82z := r82q.b
                  refine zr_if_eq hB dX9_next_158 (tgt := 217) rfl (fun c85 => ?_) (fun c85 => ?_)
                  · have q86 := r82q.f c85
                    have hE : (σ64.1 0 10).toInt = ((zw_to zw_di (zw_bM σ0) (zw_s (zw_bM σ0) (σ0.1 0 10).toInt.toNat) : Nat) : Int) := by have h9 := h_di; rw [zw_no (Or.inl (by rw [hb78]; exact decide_eq_false (by omega)))] at h9; omega
                    have hge := zw_ge1 (p := zw_di) (b := (zw_bM σ0)) (q := (zw_s (zw_bM σ0) (σ0.1 0 10).toInt.toNat)) (by omega) (by rw [hbc]; exact decide_eq_true (by omega))
                    refine zr_aload_n hB 0 dX9_next_217 rfl ?_
                    refine zr_iconst hB dX9_next_218 rfl (fun c87 ec87 => ?_)
                    refine zr_puti hG 0 12 dX9_next_219 rfl wp_X9_146 rfl ?_
                    have hOw88 := zc_O.u hO64 0 12 (v := c87) (show 0 ≤ c87.toInt by omega) (show c87.toInt ≤ 3 by omega) (Or.inr (show 0 ≤ c87.toInt by omega))
                    have hAw88 := zc_Ag.u hA64 0 12 c87 rfl
                    refine zr_aload_n hB 0 dX9_next_222 rfl ?_
                    refine zr_geti' hG 0 10 (σ64.1 0 10) dX9_next_223 rfl wf_X9_137 rfl rfl ?_
                    refine zr_aload_n hB 0 dX9_next_226 rfl ?_
                    refine zr_geti' hG 0 11 (σ64.1 0 11) dX9_next_227 rfl wf_X9_131 rfl rfl ?_
                    have b89 : 0 ≤ (σ64.1 0 11).toInt ∧ (σ64.1 0 11).toInt ≤ 120 := ⟨(hOw88 0 11).1, (hOw88 0 11).2.1⟩
                    refine zr_isub hB dX9_next_230 (by omega) (by omega) (fun x90 ex90 => ?_)
                    refine zr_iconst hB dX9_next_231 rfl (fun c91 ec91 => ?_)
                    refine zr_icmp_le hB dX9_next_232 (tgt := 269) rfl (fun c92 => ?_) (fun c92 => ?_)
                    · exact zr_vret hG dX9_next_269 ⟨hOw88, hAw88, (show ((σ0.1 0 8).toInt = 0 ∨ 1 ≤ (σ64.1 0 8).toInt) by omega), (by rw [zw_adv_0 (show (zw_M σ0).1 = 0 from (show (σ0.1 0 8).toInt = 0 by omega))]; show zw_M (zc_u σ64 0 12 c87) = zw_tk (zw_bM σ0) (σ0.1 0 10).toInt.toNat; rw [zw_tk2 (by rw [hbc]; omega) (by rw [hbc]; omega), if_neg (by omega)]; exact zw_M_mk (σ := (zc_u σ64 0 12 c87)) (show (σ64.1 0 8).toInt = 0 by omega) (show (σ64.1 0 11).toInt = (((zw_s (zw_bM σ0) (σ0.1 0 10).toInt.toNat) : Nat) : Int) by omega) (show (σ64.1 0 10).toInt = (((zw_to zw_di (zw_bM σ0) (zw_s (zw_bM σ0) (σ0.1 0 10).toInt.toNat)) : Nat) : Int) by omega) (show c87.toInt = 2 by omega)), (fun _ _ => (show (σ64.1 0 13).toInt = zw_v (zw_bM (zc_u σ64 0 12 c87)) (σ64.1 0 11).toInt.toNat (σ64.1 0 10).toInt.toNat by rw [zw_bM.ag hAw88 rfl (fun _ => rfl), show (σ64.1 0 11).toInt.toNat = (zw_s (zw_bM σ0) (σ0.1 0 10).toInt.toNat) by omega]; unfold zw_v; split <;> omega)), (show zw_iw (σ64.1 0 8).toInt (σ64.1 0 9).toInt (σ64.1 0 11).toInt by unfold zw_iw; omega)⟩
                    refine zr_aload_n hB 0 dX9_next_235 rfl ?_
                    refine zr_iconst hB dX9_next_236 rfl (fun c93 ec93 => ?_)
                    have hM : zw_M (zc_u σ64 0 12 c87) = (0, (zw_s (zw_bM σ0) (σ0.1 0 10).toInt.toNat), (zw_to zw_di (zw_bM σ0) (zw_s (zw_bM σ0) (σ0.1 0 10).toInt.toNat)), 2) := zw_M_mk (σ := (zc_u σ64 0 12 c87)) (show (σ64.1 0 8).toInt = 0 by omega) (show (σ64.1 0 11).toInt = (((zw_s (zw_bM σ0) (σ0.1 0 10).toInt.toNat) : Nat) : Int) by omega) (show (σ64.1 0 10).toInt = (((zw_to zw_di (zw_bM σ0) (zw_s (zw_bM σ0) (σ0.1 0 10).toInt.toNat)) : Nat) : Int) by omega) (show c87.toInt = 2 by omega)
                    refine zr_callvn hG (rest := []) 0 dX9_next_237 wm_X9_157 rfl rfl (c_M_fails K hG.2.2.2.2.2.1 (zc_u σ64 0 12 c87) c93 hOw88 (by omega) (by omega)) rfl rfl (Nat.le_of_ble_eq_true rfl) ⟨Nat.le_of_ble_eq_true rfl, Nat.le_of_ble_eq_true rfl, rfl, rfl⟩ (fun σ95 h96 => ?_)
                    obtain ⟨hO97, hAc98, g99, g100, g101⟩ := h96
                    have hA102 := zc_Ag.tr hAw88 hAc98 rfl
                    have q103 : (σ95.1 0 10).toInt = (σ64.1 0 10).toInt := congrArg Int32.toInt (hAc98 0 10 rfl).1
                    have q104 : (σ95.1 0 11).toInt = (σ64.1 0 11).toInt := congrArg Int32.toInt (hAc98 0 11 rfl).1
                    have q105 : (σ95.1 0 13).toInt = (σ64.1 0 13).toInt := congrArg Int32.toInt (hAc98 0 13 rfl).1
                    have q106 : (σ95.1 0 12).toInt = c87.toInt := congrArg Int32.toInt (hAc98 0 12 rfl).1
                    have g99' : 1 ≤ (σ95.1 0 8).toInt := g99
                    have g100' : (((σ64.1 0 8).toInt = 0 ∧ (σ95.1 0 8).toInt = c93.toInt ∧ (σ95.1 0 9).toInt = (σ64.1 0 11).toInt) ∨ (¬ (σ64.1 0 8).toInt = 0 ∧ (σ95.1 0 8).toInt = (σ64.1 0 8).toInt ∧ (σ95.1 0 9).toInt = (σ64.1 0 9).toInt)) := g100
                    have hfm : zw_M σ95 = (1, (zw_s (zw_bM σ0) (σ0.1 0 10).toInt.toNat), (zw_to zw_di (zw_bM σ0) (zw_s (zw_bM σ0) (σ0.1 0 10).toInt.toNat)), 2) := by have h9 := zw_fl g101 (fun h9 => h9 (show (σ64.1 0 8).toInt = 0 by omega)); rw [hM] at h9; rw [h9, show c93.toInt = 1 by omega]
                    refine zr_goto hB dX9_next_240 (tgt := 269) rfl ?_
                    exact zr_vret hG dX9_next_269 ⟨hO97, hA102, (show ((σ0.1 0 8).toInt = 0 ∨ 1 ≤ (σ95.1 0 8).toInt) by omega), (by rw [zw_adv_0 (show (zw_M σ0).1 = 0 from (show (σ0.1 0 8).toInt = 0 by omega))]; show zw_M σ95 = zw_tk (zw_bM σ0) (σ0.1 0 10).toInt.toNat; rw [zw_tk2 (by rw [hbc]; omega) (by rw [hbc]; omega), if_pos (by omega)]; exact hfm), (fun h9 => absurd (show (σ95.1 0 8).toInt = 0 from h9) (by omega)), (show zw_iw (σ95.1 0 8).toInt (σ95.1 0 9).toInt (σ95.1 0 11).toInt by unfold zw_iw; omega)⟩
                  have q107 := r82q.t c85
                  refine zr_aload_n hB 0 dX9_next_161 rfl ?_
                  refine zr_aload_n hB 0 dX9_next_162 rfl ?_
                  refine zr_geti' hG 0 10 (σ64.1 0 10) dX9_next_163 rfl wf_X9_137 rfl rfl ?_
                  refine zr_aload_n hB 0 dX9_next_166 rfl ?_
                  refine zr_geti' hG 0 11 (σ64.1 0 11) dX9_next_167 rfl wf_X9_131 rfl rfl ?_
                  have b108 : 0 ≤ (σ64.1 0 11).toInt ∧ (σ64.1 0 11).toInt ≤ 120 := ⟨(hO64 0 11).1, (hO64 0 11).2.1⟩
                  refine zr_isub hB dX9_next_170 (by omega) (by omega) (fun x109 ex109 => ?_)
                  refine zr_iconst hB dX9_next_171 rfl (fun c110 ec110 => ?_)
                  refine zr_icmp_ge hB dX9_next_172 (tgt := 197) rfl (fun c111 => ?_) (fun c111 => ?_)
                  · refine zr_aload_n hB 0 dX9_next_197 rfl ?_
                    refine zr_geti' hG 0 13 (σ64.1 0 13) dX9_next_198 rfl wf_X9_143 rfl rfl ?_
                    have b112 : 0 ≤ (σ64.1 0 13).toInt ∧ (σ64.1 0 13).toInt ≤ 99 := ⟨(hO64 0 13).1, (hO64 0 13).2.1⟩
                    refine zr_puti hG 0 13 dX9_next_201 rfl wp_X9_143 rfl ?_
                    have hOw113 := zc_O.u hO64 0 13 (v := (σ64.1 0 13)) (show 0 ≤ (σ64.1 0 13).toInt by omega) (show (σ64.1 0 13).toInt ≤ 99 by omega) (Or.inr (show 0 ≤ (σ64.1 0 13).toInt by omega))
                    have hAw113 := zc_Ag.u hA64 0 13 (σ64.1 0 13) rfl
                    refine zr_aload_n hB 0 dX9_next_204 rfl ?_
                    refine zr_dup hB dX9_next_205 rfl ?_
                    refine zr_geti' hG 0 10 (σ64.1 0 10) dX9_next_206 rfl wf_X9_137 rfl rfl ?_
                    refine zr_iconst hB dX9_next_209 rfl (fun c114 ec114 => ?_)
                    refine zr_iadd hB dX9_next_210 (by omega) (by omega) (fun x115 ex115 => ?_)
                    refine zr_puti hG 0 10 dX9_next_211 rfl wp_X9_137 rfl ?_
                    have hOw116 := zc_O.u hOw113 0 10 (v := x115) (show 0 ≤ x115.toInt by omega) (show x115.toInt ≤ 120 by omega) (Or.inr (show 0 ≤ x115.toInt by omega))
                    have hAw116 := zc_Ag.u hAw113 0 10 x115 rfl
                    refine zr_goto hB dX9_next_214 (tgt := 140) rfl ?_
                    have b117 : 0 ≤ (σ64.1 0 8).toInt ∧ (σ64.1 0 8).toInt ≤ 5 := ⟨(hOw116 0 8).1, (hOw116 0 8).2.1⟩
                    exact ih140 (zc_u (zc_u σ64 0 13 (σ64.1 0 13)) 0 10 x115) hOw116 hAw116 (show 0 ≤ x115.toInt by omega) (show x115.toInt ≤ 120 by omega) (show zw_to zw_di (zw_bM σ0) x115.toInt.toNat = zw_to zw_di (zw_bM σ0) (zw_s (zw_bM σ0) (σ0.1 0 10).toInt.toNat) by rw [← h_di]; exact (zw_go (by omega) (by rw [hb78]; exact decide_eq_true (by omega)) (by omega)).symm) (show (σ64.1 0 11).toInt = (((zw_s (zw_bM σ0) (σ0.1 0 10).toInt.toNat) : Nat) : Int) by omega) (show (σ64.1 0 8).toInt = 0 by omega) (show ((x115.toInt = (((zw_s (zw_bM σ0) (σ0.1 0 10).toInt.toNat) : Nat) : Int) ∧ (σ64.1 0 13).toInt = 0) ∨ (x115.toInt = (((zw_s (zw_bM σ0) (σ0.1 0 10).toInt.toNat) : Nat) : Int) + 1 ∧ (σ64.1 0 13).toInt = (zw_bM σ0) (zw_s (zw_bM σ0) (σ0.1 0 10).toInt.toNat) - 48) ∨ ((((zw_s (zw_bM σ0) (σ0.1 0 10).toInt.toNat) : Nat) : Int) + 2 ≤ x115.toInt ∧ (σ64.1 0 13).toInt = ((zw_bM σ0) (zw_s (zw_bM σ0) (σ0.1 0 10).toInt.toNat) - 48) * 10 + ((zw_bM σ0) ((zw_s (zw_bM σ0) (σ0.1 0 10).toInt.toNat) + 1) - 48))) by omega) (show 0 ≤ (σ64.1 0 13).toInt by omega) (show (σ64.1 0 13).toInt ≤ 99 by omega) (show 120 - x115.toInt < (n140 : Int) by omega)
                  refine zr_bipush hB dX9_next_175 rfl (fun c118 ec118 => ?_)
                  refine zr_aload_n hB 0 dX9_next_177 rfl ?_
                  refine zr_geti' hG 0 13 (σ64.1 0 13) dX9_next_178 rfl wf_X9_143 rfl rfl ?_
                  have b119 : 0 ≤ (σ64.1 0 13).toInt ∧ (σ64.1 0 13).toInt ≤ 99 := ⟨(hO64 0 13).1, (hO64 0 13).2.1⟩
                  refine zr_imuld hB dX9_next_181 ec118 (by omega) (by omega) (fun x120 ex120 => ?_)
                  refine zr_aload_n hB 0 dX9_next_182 rfl ?_
                  refine zr_aload_n hB 0 dX9_next_183 rfl ?_
                  refine zr_geti' hG 0 10 (σ64.1 0 10) dX9_next_184 rfl wf_X9_137 rfl rfl ?_
                  refine zr_callvi hG (rest := [.int x120, .ref (zk K 0)]) 0 dX9_next_187 wm_X9_140 rfl rfl (c_M_byteAt K hG.2.2.2.2.2.1 σ64 (σ64.1 0 10) hO64 (by omega)) rfl rfl (Nat.le_of_ble_eq_true rfl) ⟨Nat.le_of_ble_eq_true rfl, Nat.le_of_ble_eq_true rfl, rfl, rfl⟩ (fun r121 σ122 h123 => ?_)
                  obtain ⟨rfl, r121a, r121b, r121h, g124, g125⟩ := h123
                  have hb126 : (zw_bM σ0) (σ64.1 0 10).toInt.toNat = r121.toInt := by rw [g125, zw_bM.ag hA64 rfl (fun _ => rfl)]
                  have hbb : ((σ64.1 0 10).toInt = (((zw_s (zw_bM σ0) (σ0.1 0 10).toInt.toNat) : Nat) : Int) ∧ (zw_bM σ0) (zw_s (zw_bM σ0) (σ0.1 0 10).toInt.toNat) = r121.toInt) ∨ ((σ64.1 0 10).toInt = (((zw_s (zw_bM σ0) (σ0.1 0 10).toInt.toNat) : Nat) : Int) + 1 ∧ (zw_bM σ0) ((zw_s (zw_bM σ0) (σ0.1 0 10).toInt.toNat) + 1) = r121.toInt) := by rcases (show (σ64.1 0 10).toInt = (((zw_s (zw_bM σ0) (σ0.1 0 10).toInt.toNat) : Nat) : Int) ∨ (σ64.1 0 10).toInt = (((zw_s (zw_bM σ0) (σ0.1 0 10).toInt.toNat) : Nat) : Int) + 1 by omega) with h | h; exact Or.inl ⟨h, by rw [show (zw_s (zw_bM σ0) (σ0.1 0 10).toInt.toNat) = (σ64.1 0 10).toInt.toNat by omega]; exact hb126⟩; exact Or.inr ⟨h, by rw [show (zw_s (zw_bM σ0) (σ0.1 0 10).toInt.toNat) + 1 = (σ64.1 0 10).toInt.toNat by omega]; exact hb126⟩
                  refine zr_iadd hB dX9_next_190 (by omega) (by omega) (fun x127 ex127 => ?_)
                  refine zr_bipush hB dX9_next_191 rfl (fun c128 ec128 => ?_)
                  refine zr_isub hB dX9_next_193 (by omega) (by omega) (fun x129 ex129 => ?_)
                  refine zr_goto hB dX9_next_194 (tgt := 201) rfl ?_
                  refine zr_puti hG 0 13 dX9_next_201 rfl wp_X9_143 rfl ?_
                  have hOw130 := zc_O.u hO64 0 13 (v := x129) (show 0 ≤ x129.toInt by omega) (show x129.toInt ≤ 99 by omega) (Or.inr (show 0 ≤ x129.toInt by omega))
                  have hAw130 := zc_Ag.u hA64 0 13 x129 rfl
                  refine zr_aload_n hB 0 dX9_next_204 rfl ?_
                  refine zr_dup hB dX9_next_205 rfl ?_
                  refine zr_geti' hG 0 10 (σ64.1 0 10) dX9_next_206 rfl wf_X9_137 rfl rfl ?_
                  refine zr_iconst hB dX9_next_209 rfl (fun c131 ec131 => ?_)
                  refine zr_iadd hB dX9_next_210 (by omega) (by omega) (fun x132 ex132 => ?_)
                  refine zr_puti hG 0 10 dX9_next_211 rfl wp_X9_137 rfl ?_
                  have hOw133 := zc_O.u hOw130 0 10 (v := x132) (show 0 ≤ x132.toInt by omega) (show x132.toInt ≤ 120 by omega) (Or.inr (show 0 ≤ x132.toInt by omega))
                  have hAw133 := zc_Ag.u hAw130 0 10 x132 rfl
                  refine zr_goto hB dX9_next_214 (tgt := 140) rfl ?_
                  have b134 : 0 ≤ (σ64.1 0 8).toInt ∧ (σ64.1 0 8).toInt ≤ 5 := ⟨(hOw133 0 8).1, (hOw133 0 8).2.1⟩
                  exact ih140 (zc_u (zc_u σ64 0 13 x129) 0 10 x132) hOw133 hAw133 (show 0 ≤ x132.toInt by omega) (show x132.toInt ≤ 120 by omega) (show zw_to zw_di (zw_bM σ0) x132.toInt.toNat = zw_to zw_di (zw_bM σ0) (zw_s (zw_bM σ0) (σ0.1 0 10).toInt.toNat) by rw [← h_di]; exact (zw_go (by omega) (by rw [hb78]; exact decide_eq_true (by omega)) (by omega)).symm) (show (σ64.1 0 11).toInt = (((zw_s (zw_bM σ0) (σ0.1 0 10).toInt.toNat) : Nat) : Int) by omega) (show (σ64.1 0 8).toInt = 0 by omega) (show ((x132.toInt = (((zw_s (zw_bM σ0) (σ0.1 0 10).toInt.toNat) : Nat) : Int) ∧ x129.toInt = 0) ∨ (x132.toInt = (((zw_s (zw_bM σ0) (σ0.1 0 10).toInt.toNat) : Nat) : Int) + 1 ∧ x129.toInt = (zw_bM σ0) (zw_s (zw_bM σ0) (σ0.1 0 10).toInt.toNat) - 48) ∨ ((((zw_s (zw_bM σ0) (σ0.1 0 10).toInt.toNat) : Nat) : Int) + 2 ≤ x132.toInt ∧ x129.toInt = ((zw_bM σ0) (zw_s (zw_bM σ0) (σ0.1 0 10).toInt.toNat) - 48) * 10 + ((zw_bM σ0) ((zw_s (zw_bM σ0) (σ0.1 0 10).toInt.toNat) + 1) - 48))) by omega) (show 0 ≤ x129.toInt by omega) (show x129.toInt ≤ 99 by omega) (show 120 - x132.toInt < (n140 : Int) by omega)
              have b135 : 0 ≤ (σ2.1 0 8).toInt ∧ (σ2.1 0 8).toInt ≤ 5 := ⟨(hOw23 0 8).1, (hOw23 0 8).2.1⟩
              exact zc_sub [1, 0] rfl (L140_71 122 (zc_u (zc_u σ2 0 11 (σ2.1 0 10)) 0 13 c22) hOw23 hAw23 (show 0 ≤ (σ2.1 0 10).toInt by omega) (show (σ2.1 0 10).toInt ≤ 120 by omega) (show zw_to zw_di (zw_bM σ0) (σ2.1 0 10).toInt.toNat = zw_to zw_di (zw_bM σ0) (zw_s (zw_bM σ0) (σ0.1 0 10).toInt.toNat) by rw [hsn]) (show (σ2.1 0 10).toInt = (((zw_s (zw_bM σ0) (σ0.1 0 10).toInt.toNat) : Nat) : Int) by omega) (show (σ2.1 0 8).toInt = 0 by omega) (show (((σ2.1 0 10).toInt = (((zw_s (zw_bM σ0) (σ0.1 0 10).toInt.toNat) : Nat) : Int) ∧ c22.toInt = 0) ∨ ((σ2.1 0 10).toInt = (((zw_s (zw_bM σ0) (σ0.1 0 10).toInt.toNat) : Nat) : Int) + 1 ∧ c22.toInt = (zw_bM σ0) (zw_s (zw_bM σ0) (σ0.1 0 10).toInt.toNat) - 48) ∨ ((((zw_s (zw_bM σ0) (σ0.1 0 10).toInt.toNat) : Nat) : Int) + 2 ≤ (σ2.1 0 10).toInt ∧ c22.toInt = ((zw_bM σ0) (zw_s (zw_bM σ0) (σ0.1 0 10).toInt.toNat) - 48) * 10 + ((zw_bM σ0) ((zw_s (zw_bM σ0) (σ0.1 0 10).toInt.toNat) + 1) - 48))) by omega) (show 0 ≤ c22.toInt by omega) (show c22.toInt ≤ 99 by omega) (show 120 - (σ2.1 0 10).toInt < ((122 : Nat) : Int) by omega))
            have q136 := r29q.t c32
            have L84_142 : ∀ (n84 : Nat) (σ137 : zc_S) , zc_O okM σ137 → zc_Ag m_M_next σ0 σ137 → 0 ≤ (σ137.1 0 10).toInt → (σ137.1 0 10).toInt ≤ 120 → zw_to zw_le (zw_bM σ0) (σ137.1 0 10).toInt.toNat = zw_to zw_le (zw_bM σ0) (zw_s (zw_bM σ0) (σ0.1 0 10).toInt.toNat) → (σ137.1 0 11).toInt = (((zw_s (zw_bM σ0) (σ0.1 0 10).toInt.toNat) : Nat) : Int) → (σ137.1 0 8).toInt = 0 → 120 - (σ137.1 0 10).toInt < (n84 : Int) → zc_V 2 K G (zc_D shM K G σ137) [(0, .ref (zk K 0)), (1, .int r17)] 84 [] := by
              intro n84
              induction n84 with
              | zero => intro σ137 hO137 hA137 e138 e139 h_le e140 e141 hn84; exfalso; omega
              | succ n84 ih84 =>
                intro σ137 hO137 hA137 e138 e139 h_le e140 e141 hn84
                refine zr_aload_n hB 0 dX9_next_84 rfl ?_
                refine zr_aload_n hB 0 dX9_next_85 rfl ?_
                refine zr_geti' hG 0 10 (σ137.1 0 10) dX9_next_86 rfl wf_X9_137 rfl rfl ?_
                have b143 : 0 ≤ (σ137.1 0 10).toInt ∧ (σ137.1 0 10).toInt ≤ 120 := ⟨(hO137 0 10).1, (hO137 0 10).2.1⟩
                refine zr_callvi hG (rest := []) 0 dX9_next_89 wm_X9_140 rfl rfl (c_M_byteAt K hG.2.2.2.2.2.1 σ137 (σ137.1 0 10) hO137 (by omega)) rfl rfl (Nat.le_of_ble_eq_true rfl) ⟨Nat.le_of_ble_eq_true rfl, Nat.le_of_ble_eq_true rfl, rfl, rfl⟩ (fun r144 σ145 h146 => ?_)
                obtain ⟨rfl, r144a, r144b, r144h, g147, g148⟩ := h146
                have hb149 : (zw_bM σ0) (σ137.1 0 10).toInt.toNat = r144.toInt := by rw [g148, zw_bM.ag hA137 rfl (fun _ => rfl)]
                refine zr_i2l hB dX9_next_92 (fun l150 el150 => ?_)
                refine zr_ldc2 hB dX9_next_93 wc_X9_149 (n := 97) rfl (fun c151 ec151 => ?_)
                refine zr_ldc2 hB dX9_next_96 wc_X9_151 (n := 122) rfl (fun c152 ec152 => ?_)
                refine zr_callsi hG (rest := []) dX9_next_99 wm_X9_91 (c_M_in K hG.2.2.2.2.2.1 σ137 l150 c151 c152 hO137 ) rfl rfl (Nat.le_of_ble_eq_true rfl) ⟨Nat.le_of_ble_eq_true rfl, Nat.le_of_ble_eq_true rfl, rfl, rfl⟩ (fun r153 σ154 h155 => ?_)
                obtain ⟨rfl, r153q⟩ := h155
                have r153z := r153q.b
                refine zr_if_eq hB dX9_next_102 (tgt := 118) rfl (fun c156 => ?_) (fun c156 => ?_)
                · have q157 := r153q.f c156
                  refine zr_aload_n hB 0 dX9_next_118 rfl ?_
                  refine zr_iconst hB dX9_next_119 rfl (fun c158 ec158 => ?_)
                  refine zr_puti hG 0 12 dX9_next_120 rfl wp_X9_146 rfl ?_
                  have hOw159 := zc_O.u hO137 0 12 (v := c158) (show 0 ≤ c158.toInt by omega) (show c158.toInt ≤ 3 by omega) (Or.inr (show 0 ≤ c158.toInt by omega))
                  have hAw159 := zc_Ag.u hA137 0 12 c158 rfl
                  refine zr_goto hB dX9_next_123 (tgt := 269) rfl ?_
                  exact zr_vret hG dX9_next_269 ⟨hOw159, hAw159, (show ((σ0.1 0 8).toInt = 0 ∨ 1 ≤ (σ137.1 0 8).toInt) by omega), (by rw [zw_adv_0 (show (zw_M σ0).1 = 0 from (show (σ0.1 0 8).toInt = 0 by omega))]; show zw_M (zc_u σ137 0 12 c158) = zw_tk (zw_bM σ0) (σ0.1 0 10).toInt.toNat; rw [zw_tk1 (by rw [hbc]; omega) (by rw [hbc]; omega)]; exact zw_M_mk (σ := (zc_u σ137 0 12 c158)) (show (σ137.1 0 8).toInt = 0 by omega) (show (σ137.1 0 11).toInt = (((zw_s (zw_bM σ0) (σ0.1 0 10).toInt.toNat) : Nat) : Int) by omega) (show (σ137.1 0 10).toInt = (((zw_to zw_le (zw_bM σ0) (zw_s (zw_bM σ0) (σ0.1 0 10).toInt.toNat)) : Nat) : Int) by have h9 := h_le; rw [zw_no (Or.inl (by rw [hb149]; exact decide_eq_false (by omega)))] at h9; omega) (show c158.toInt = 1 by omega)), (fun _ h9 => absurd (show c158.toInt = 2 from h9) (by omega)), (show zw_iw (σ137.1 0 8).toInt (σ137.1 0 9).toInt (σ137.1 0 11).toInt by unfold zw_iw; omega)⟩
                have q160 := r153q.t c156
                refine zr_aload_n hB 0 dX9_next_105 rfl ?_
                refine zr_dup hB dX9_next_106 rfl ?_
                refine zr_geti' hG 0 10 (σ137.1 0 10) dX9_next_107 rfl wf_X9_137 rfl rfl ?_
                refine zr_iconst hB dX9_next_110 rfl (fun c161 ec161 => ?_)
                refine zr_iadd hB dX9_next_111 (by omega) (by omega) (fun x162 ex162 => ?_)
                refine zr_puti hG 0 10 dX9_next_112 rfl wp_X9_137 rfl ?_
                have hOw163 := zc_O.u hO137 0 10 (v := x162) (show 0 ≤ x162.toInt by omega) (show x162.toInt ≤ 120 by omega) (Or.inr (show 0 ≤ x162.toInt by omega))
                have hAw163 := zc_Ag.u hA137 0 10 x162 rfl
                refine zr_goto hB dX9_next_115 (tgt := 84) rfl ?_
                have b164 : 0 ≤ (σ137.1 0 11).toInt ∧ (σ137.1 0 11).toInt ≤ 120 := ⟨(hOw163 0 11).1, (hOw163 0 11).2.1⟩
                have b165 : 0 ≤ (σ137.1 0 8).toInt ∧ (σ137.1 0 8).toInt ≤ 5 := ⟨(hOw163 0 8).1, (hOw163 0 8).2.1⟩
                exact ih84 (zc_u σ137 0 10 x162) hOw163 hAw163 (show 0 ≤ x162.toInt by omega) (show x162.toInt ≤ 120 by omega) (show zw_to zw_le (zw_bM σ0) x162.toInt.toNat = zw_to zw_le (zw_bM σ0) (zw_s (zw_bM σ0) (σ0.1 0 10).toInt.toNat) by rw [← h_le]; exact (zw_go (by omega) (by rw [hb149]; exact decide_eq_true (by omega)) (by omega)).symm) (show (σ137.1 0 11).toInt = (((zw_s (zw_bM σ0) (σ0.1 0 10).toInt.toNat) : Nat) : Int) by omega) (show (σ137.1 0 8).toInt = 0 by omega) (show 120 - x162.toInt < (n84 : Int) by omega)
            have b166 : 0 ≤ (σ2.1 0 8).toInt ∧ (σ2.1 0 8).toInt ≤ 5 := ⟨(hOw23 0 8).1, (hOw23 0 8).2.1⟩
            exact zc_sub [1, 0] rfl (L84_142 122 (zc_u (zc_u σ2 0 11 (σ2.1 0 10)) 0 13 c22) hOw23 hAw23 (show 0 ≤ (σ2.1 0 10).toInt by omega) (show (σ2.1 0 10).toInt ≤ 120 by omega) (show zw_to zw_le (zw_bM σ0) (σ2.1 0 10).toInt.toNat = zw_to zw_le (zw_bM σ0) (zw_s (zw_bM σ0) (σ0.1 0 10).toInt.toNat) by rw [hsn]) (show (σ2.1 0 10).toInt = (((zw_s (zw_bM σ0) (σ0.1 0 10).toInt.toNat) : Nat) : Int) by omega) (show (σ2.1 0 8).toInt = 0 by omega) (show 120 - (σ2.1 0 10).toInt < ((122 : Nat) : Int) by omega))
          refine zr_aload_n hB 1 dX9_next_62 rfl ?_
          refine zr_iconst hB dX9_next_63 rfl (fun c167 ec167 => ?_)
          refine zr_puti hG 0 12 dX9_next_64 rfl wp_X9_146 rfl ?_
          have hOw168 := zc_O.u hOw23 0 12 (v := c167) (show 0 ≤ c167.toInt by omega) (show c167.toInt ≤ 3 by omega) (Or.inr (show 0 ≤ c167.toInt by omega))
          have hAw168 := zc_Ag.u hAw23 0 12 c167 rfl
          refine zr_goto hB dX9_next_67 (tgt := 269) rfl ?_
          exact zr_vret hG dX9_next_269 ⟨hOw168, hAw168, (show ((σ0.1 0 8).toInt = 0 ∨ 1 ≤ (σ2.1 0 8).toInt) by omega), (by rw [zw_adv_0 (show (zw_M σ0).1 = 0 from (show (σ0.1 0 8).toInt = 0 by omega))]; show zw_M (zc_u (zc_u (zc_u σ2 0 11 (σ2.1 0 10)) 0 13 c22) 0 12 c167) = zw_tk (zw_bM σ0) (σ0.1 0 10).toInt.toNat; rw [zw_tk0 (by rw [hbc]; omega)]; exact zw_M_mk (σ := (zc_u (zc_u (zc_u σ2 0 11 (σ2.1 0 10)) 0 13 c22) 0 12 c167)) (show (σ2.1 0 8).toInt = 0 by omega) (show (σ2.1 0 10).toInt = (((zw_s (zw_bM σ0) (σ0.1 0 10).toInt.toNat) : Nat) : Int) by omega) (show (σ2.1 0 10).toInt = (((zw_s (zw_bM σ0) (σ0.1 0 10).toInt.toNat) : Nat) : Int) by omega) (show c167.toInt = 0 by omega)), (fun _ h9 => absurd (show c167.toInt = 2 from h9) (by omega)), (show zw_iw (σ2.1 0 8).toInt (σ2.1 0 9).toInt (σ2.1 0 10).toInt by unfold zw_iw; omega)⟩
        refine zr_aload_n hB 0 dX9_next_21 rfl ?_
        refine zr_dup hB dX9_next_22 rfl ?_
        refine zr_geti' hG 0 10 (σ2.1 0 10) dX9_next_23 rfl wf_X9_137 rfl rfl ?_
        refine zr_iconst hB dX9_next_26 rfl (fun c169 ec169 => ?_)
        refine zr_iadd hB dX9_next_27 (by omega) (by omega) (fun x170 ex170 => ?_)
        refine zr_puti hG 0 10 dX9_next_28 rfl wp_X9_137 rfl ?_
        have hOw171 := zc_O.u hO2 0 10 (v := x170) (show 0 ≤ x170.toInt by omega) (show x170.toInt ≤ 120 by omega) (Or.inr (show 0 ≤ x170.toInt by omega))
        have hAw171 := zc_Ag.u hA2 0 10 x170 rfl
        refine zr_goto hB dX9_next_31 (tgt := 8) rfl ?_
        have b172 : 0 ≤ (σ2.1 0 8).toInt ∧ (σ2.1 0 8).toInt ≤ 5 := ⟨(hOw171 0 8).1, (hOw171 0 8).2.1⟩
        exact ih8 (zc_u σ2 0 10 x170) hOw171 hAw171 (show 0 ≤ x170.toInt by omega) (show x170.toInt ≤ 120 by omega) (show zw_to zw_sp (zw_bM σ0) x170.toInt.toNat = (zw_s (zw_bM σ0) (σ0.1 0 10).toInt.toNat) by rw [← h_sp]; exact (zw_go (by omega) (by rw [hb13]; exact decide_eq_true (by omega)) (by omega)).symm) (show (σ2.1 0 8).toInt = 0 by omega) (show 120 - x170.toInt < (n8 : Int) by omega)
    exact L8_6 122 σ0 hO0 hA0 (show 0 ≤ (σ0.1 0 10).toInt by omega) (show (σ0.1 0 10).toInt ≤ 120 by omega) (show zw_to zw_sp (zw_bM σ0) (σ0.1 0 10).toInt.toNat = (zw_s (zw_bM σ0) (σ0.1 0 10).toInt.toNat) by rfl) (show (σ0.1 0 8).toInt = 0 by omega) (show 120 - (σ0.1 0 10).toInt < ((122 : Nat) : Int) by omega)
  exact zr_vret hG dX9_next_7 ⟨hO0, hA0, (show ((σ0.1 0 8).toInt = 0 ∨ 1 ≤ (σ0.1 0 8).toInt) by omega), ((zw_adv_n (show ¬ (σ0.1 0 8).toInt = 0 by omega)).symm), (fun h9 => absurd h9 (show ¬ (σ0.1 0 8).toInt = 0 by omega)), hI⟩

set_option maxHeartbeats 8000000 in
set_option maxRecDepth 100000 in
theorem c_M_nameHere (K : zc_K) (hi : zc_inj shM K.2.2.2.1) (σ0 : zc_S)  (hO0 : zc_O okM σ0) (hK : zw_K σ0) : zc_M shM K yX9_nameHere cX9_nameHere 4 (some .int) (zrm 1 21) σ0 [.ref (zk K 0)] (zc_I (fun r9 σ9 => σ0 = σ9 ∧ (-4) ≤ r9.toInt ∧ r9.toInt ≤ 4 ∧ (r9.toInt = (-4) ∨ 0 ≤ r9.toInt) ∧ r9.toInt = zw_kn (zw_bM σ0) (zw_M σ0))) := by
  refine zc_start RX9 hi pfX9_nameHere rfl (Nat.le_of_ble_eq_true rfl) ?_
  intro G hG
  have hB := hG.1
  show zc_V 4 K G (zc_D shM K G σ0) [(0, .ref (zk K 0))] 0 []
  have bw0_10 : 0 ≤ (σ0.1 0 10).toInt ∧ (σ0.1 0 10).toInt ≤ 120 := ⟨(hO0 0 10).1, (hO0 0 10).2.1⟩
  have bw0_11 : 0 ≤ (σ0.1 0 11).toInt ∧ (σ0.1 0 11).toInt ≤ 120 := ⟨(hO0 0 11).1, (hO0 0 11).2.1⟩
  have bw0_12 : 0 ≤ (σ0.1 0 12).toInt ∧ (σ0.1 0 12).toInt ≤ 3 := ⟨(hO0 0 12).1, (hO0 0 12).2.1⟩
  refine zr_iconst hB dX9_nameHere_0 rfl (fun c1 ec1 => ?_)
  refine zr_istore_n hB dX9_nameHere_1 rfl (by decide) (lv' := [(1, .int c1), (0, .ref (zk K 0))]) rfl ?_
  have L2_3 : ∀ (n2 : Nat) (y1_2 : Int32), 0 ≤ y1_2.toInt → y1_2.toInt ≤ 5 → (∀ k : Nat, (k : Int) < y1_2.toInt → (σ0.1 0 12).toInt = 1 → ¬ zw_is (zw_bM σ0) (σ0.1 0 11).toInt.toNat (σ0.1 0 10).toInt.toNat k) → 5 - y1_2.toInt < (n2 : Int) → zc_V 4 K G (zc_D shM K G σ0) [(0, .ref (zk K 0)), (1, .int y1_2)] 2 [] := by
    intro n2
    induction n2 with
    | zero => intro y1_2 y1_2a y1_2b hno hn2; exfalso; omega
    | succ n2 ih2 =>
      intro y1_2 y1_2a y1_2b hno hn2
      refine zr_iload_n hB 1 dX9_nameHere_2 rfl ?_
      refine zr_iconst hB dX9_nameHere_3 rfl (fun c4 ec4 => ?_)
      refine zr_icmp_ge hB dX9_nameHere_4 (tgt := 117) rfl (fun c5 => ?_) (fun c5 => ?_)
      · refine zr_bipush hB dX9_nameHere_117 rfl (fun c6 ec6 => ?_)
        exact zr_iret hG dX9_nameHere_119 ⟨rfl, by omega, by omega, by omega, (by unfold zw_kn; by_cases h9 : (σ0.1 0 12).toInt = 1; (rw [if_pos (show (zw_M σ0).2.2.2 = 1 from h9)]; show c6.toInt = zw_nm (zw_bM σ0) (σ0.1 0 11).toInt.toNat (σ0.1 0 10).toInt.toNat; rw [zw_nm_no (fun k hk => hno k (by omega) h9)]; omega); (rw [if_neg (show ¬ (zw_M σ0).2.2.2 = 1 from h9)]; omega))⟩
      refine zr_aload_n hB 0 dX9_nameHere_7 rfl ?_
      refine zr_geti' hG 0 12 (σ0.1 0 12) dX9_nameHere_8 rfl wf_X9_146 rfl rfl ?_
      refine zr_iconst hB dX9_nameHere_11 rfl (fun c7 ec7 => ?_)
      refine zr_icmp_ne hB dX9_nameHere_12 (tgt := 46) rfl (fun c8 => ?_) (fun c8 => ?_)
      · refine zr_iconst hB dX9_nameHere_46 rfl (fun c9 ec9 => ?_)
        refine zr_istore_n hB dX9_nameHere_47 rfl (by decide) (lv' := [(2, .int c9), (0, .ref (zk K 0)), (1, .int y1_2)]) rfl ?_
        refine zr_iconst hB dX9_nameHere_48 rfl (fun c10 ec10 => ?_)
        refine zr_istore_n hB dX9_nameHere_49 rfl (by decide) (lv' := [(3, .int c10), (2, .int c9), (0, .ref (zk K 0)), (1, .int y1_2)]) rfl ?_
        have L50_14 : ∀ (n50 : Nat) (y2_11 : Int32) (y3_12 : Int32), 0 ≤ y2_11.toInt → y2_11.toInt ≤ 1 → 0 ≤ y3_12.toInt → y3_12.toInt ≤ 120 → y2_11.toInt = 0 → ((¬ y2_11.toInt = 0 → (σ0.1 0 12).toInt = 1 ∧ (σ0.1 0 10).toInt.toNat = (σ0.1 0 11).toInt.toNat + zc_len.getD y1_2.toInt.toNat 0 ∧ ∀ j : Nat, (j : Int) < y3_12.toInt → (zw_bM σ0) ((σ0.1 0 11).toInt.toNat + j) = ((zc_byt.getD y1_2.toInt.toNat []).getD j 0).toInt)) → ((y2_11.toInt = 0 → (σ0.1 0 12).toInt = 1 → ¬ zw_is (zw_bM σ0) (σ0.1 0 11).toInt.toNat (σ0.1 0 10).toInt.toNat y1_2.toInt.toNat)) → 120 - y3_12.toInt < (n50 : Int) → zc_V 4 K G (zc_D shM K G σ0) [(0, .ref (zk K 0)), (1, .int y1_2), (2, .int y2_11), (3, .int y3_12)] 50 [] := by
          intro n50
          induction n50 with
          | zero => intro y2_11 y3_12 y2_11a y2_11b y3_12a y3_12b e13 hjj hnn hn50; exfalso; omega
          | succ n50 ih50 =>
            intro y2_11 y3_12 y2_11a y2_11b y3_12a y3_12b e13 hjj hnn hn50
            refine zr_iload_n hB 2 dX9_nameHere_50 rfl ?_
            refine zr_if_eq hB dX9_nameHere_51 (tgt := 105) rfl (fun c15 => ?_) (fun c15 => ?_)
            · refine zr_iload_n hB 2 dX9_nameHere_105 rfl ?_
              refine zr_if_eq hB dX9_nameHere_106 (tgt := 111) rfl (fun c16 => ?_) (fun c16 => ?_)
              · refine zr_iinc hB 1 dX9_nameHere_111 rfl (by decide) rfl (by omega) (by omega) (fun x17 ex17 lv' hlv => ?_)
                obtain rfl : [(1, .int x17), (0, .ref (zk K 0)), (2, .int y2_11), (3, .int y3_12)] = lv' := hlv
                refine zr_goto hB dX9_nameHere_114 (tgt := 2) rfl ?_
                exact zc_sub [1, 0] rfl (ih2 x17 (by omega) (by omega) (show ∀ k : Nat, (k : Int) < x17.toInt → (σ0.1 0 12).toInt = 1 → ¬ zw_is (zw_bM σ0) (σ0.1 0 11).toInt.toNat (σ0.1 0 10).toInt.toNat k by intro k hk ht; by_cases h9 : (k : Int) < y1_2.toInt; exact hno k h9 ht; (obtain rfl : k = y1_2.toInt.toNat := (by omega); exact hnn (by omega) ht)) (by omega))
              exfalso; omega
            refine zr_iload_n hB 3 dX9_nameHere_54 rfl ?_
            refine zr_aload_n hB 0 dX9_nameHere_55 rfl ?_
            refine zr_geti' hG 0 10 (σ0.1 0 10) dX9_nameHere_56 rfl wf_X9_137 rfl rfl ?_
            refine zr_aload_n hB 0 dX9_nameHere_59 rfl ?_
            refine zr_geti' hG 0 11 (σ0.1 0 11) dX9_nameHere_60 rfl wf_X9_131 rfl rfl ?_
            refine zr_isub hB dX9_nameHere_63 (by omega) (by omega) (fun x18 ex18 => ?_)
            refine zr_icmp_ge hB dX9_nameHere_64 (tgt := 105) rfl (fun c19 => ?_) (fun c19 => ?_)
            · refine zr_iload_n hB 2 dX9_nameHere_105 rfl ?_
              refine zr_if_eq hB dX9_nameHere_106 (tgt := 111) rfl (fun c20 => ?_) (fun c20 => ?_)
              · exfalso; omega
              refine zr_iload_n hB 1 dX9_nameHere_109 rfl ?_
              exact zr_iret hG dX9_nameHere_110 ⟨rfl, by omega, by omega, by omega, (by unfold zw_kn; have h9 := hjj (by omega); rw [if_pos (show (zw_M σ0).2.2.2 = 1 from h9.1)]; have h8 := zw_nm_of (b := (zw_bM σ0)) (s := (σ0.1 0 11).toInt.toNat) (e := (σ0.1 0 10).toInt.toNat) (i := y1_2.toInt.toNat) (by omega) (fun k hk => hno k (by omega) h9.1) ⟨h9.2.1, fun j hj => h9.2.2 j (by omega)⟩; show y1_2.toInt = zw_nm (zw_bM σ0) (σ0.1 0 11).toInt.toNat (σ0.1 0 10).toInt.toNat; rw [h8]; omega)⟩
            refine zr_aload_n hB 0 dX9_nameHere_67 rfl ?_
            refine zr_aload_n hB 0 dX9_nameHere_68 rfl ?_
            refine zr_geti' hG 0 11 (σ0.1 0 11) dX9_nameHere_69 rfl wf_X9_131 rfl rfl ?_
            refine zr_iload_n hB 3 dX9_nameHere_72 rfl ?_
            refine zr_iadd hB dX9_nameHere_73 (by omega) (by omega) (fun x21 ex21 => ?_)
            refine zr_callvi hG (rest := []) 0 dX9_nameHere_74 wm_X9_140 rfl rfl (c_M_byteAt K hG.2.2.2.2.2.1 σ0 x21 hO0 (by omega)) rfl rfl (Nat.le_of_ble_eq_true rfl) ⟨Nat.le_of_ble_eq_true rfl, Nat.le_of_ble_eq_true rfl, rfl, rfl⟩ (fun r22 σ23 h24 => ?_)
            obtain ⟨rfl, r22a, r22b, r22h, g25, g26⟩ := h24
            have hb27 : (zw_bM σ0) x21.toInt.toNat = r22.toInt := g26.symm
            refine zr_aload_n hB 0 dX9_nameHere_77 rfl ?_
            refine zr_getr hG 0 15 dX9_nameHere_78 rfl wf_X9_26 rfl ?_
            refine zr_aload_n hB 0 dX9_nameHere_81 rfl ?_
            refine zr_getr hG 0 14 dX9_nameHere_82 rfl wf_X9_23 rfl ?_
            refine zr_iload_n hB 1 dX9_nameHere_85 rfl ?_
            refine zr_iald hG 5 dX9_nameHere_86 rfl (by omega) (by omega) (fun x28 ex28 => ?_)
            have bx28 : 0 ≤ x28.toInt ∧ x28.toInt ≤ 22 := by rw [ex28]; exact ⟨(hO0 5 _).1, (hO0 5 _).2.1⟩
            refine zr_iload_n hB 3 dX9_nameHere_87 rfl ?_
            refine zr_iadd hB dX9_nameHere_88 (by omega) (by omega) (fun x29 ex29 => ?_)
            refine zr_iald hG 6 dX9_nameHere_89 rfl (by omega) (by omega) (fun x30 ex30 => ?_)
            have hlt : x30.toInt = ((zc_byt.getD y1_2.toInt.toNat []).getD y3_12.toInt.toNat 0).toInt := by have h9 := hjj (by omega); have h8 := (hK.1 y1_2.toInt.toNat (by omega)).2 y3_12.toInt.toNat (by omega); rw [← ex28, show x28.toInt.toNat + y3_12.toInt.toNat = x29.toInt.toNat by omega, ← ex30] at h8; exact h8
            refine zr_icmp_ne hB dX9_nameHere_90 (tgt := 97) rfl (fun c31 => ?_) (fun c31 => ?_)
            · refine zr_iconst hB dX9_nameHere_97 rfl (fun c32 ec32 => ?_)
              refine zr_istore_n hB dX9_nameHere_98 rfl (by decide) (lv' := [(2, .int c32), (0, .ref (zk K 0)), (1, .int y1_2), (3, .int y3_12)]) rfl ?_
              refine zr_iinc hB 3 dX9_nameHere_99 rfl (by decide) rfl (by omega) (by omega) (fun x33 ex33 lv' hlv => ?_)
              obtain rfl : [(3, .int x33), (2, .int c32), (0, .ref (zk K 0)), (1, .int y1_2)] = lv' := hlv
              refine zr_goto hB dX9_nameHere_102 (tgt := 50) rfl ?_
              exact zc_sub [2, 3, 1, 0] rfl (ih50 c32 x33 (by omega) (by omega) (by omega) (by omega) (show c32.toInt = 0 by omega) (show (¬ c32.toInt = 0 → (σ0.1 0 12).toInt = 1 ∧ (σ0.1 0 10).toInt.toNat = (σ0.1 0 11).toInt.toNat + zc_len.getD y1_2.toInt.toNat 0 ∧ ∀ j : Nat, (j : Int) < x33.toInt → (zw_bM σ0) ((σ0.1 0 11).toInt.toNat + j) = ((zc_byt.getD y1_2.toInt.toNat []).getD j 0).toInt) by first | (intro h9; exfalso; omega) | (intro _; have h9 := hjj (by omega); exact ⟨h9.1, h9.2.1, fun j hj => by by_cases h8 : (j : Int) < y3_12.toInt; exact h9.2.2 j h8; (obtain rfl : j = y3_12.toInt.toNat := (by omega); rw [show (σ0.1 0 11).toInt.toNat + y3_12.toInt.toNat = x21.toInt.toNat by omega, hb27, ← hlt]; omega)⟩)) (show (c32.toInt = 0 → (σ0.1 0 12).toInt = 1 → ¬ zw_is (zw_bM σ0) (σ0.1 0 11).toInt.toNat (σ0.1 0 10).toInt.toNat y1_2.toInt.toNat) by first | (intro h9; exfalso; omega) | (intro _ ht h8; have h9 := hjj (by omega); have h7 := h8.2 y3_12.toInt.toNat (by omega); rw [show (σ0.1 0 11).toInt.toNat + y3_12.toInt.toNat = x21.toInt.toNat by omega, hb27, ← hlt] at h7; omega)) (by omega))
            refine zr_iconst hB dX9_nameHere_93 rfl (fun c34 ec34 => ?_)
            refine zr_goto hB dX9_nameHere_94 (tgt := 98) rfl ?_
            refine zr_istore_n hB dX9_nameHere_98 rfl (by decide) (lv' := [(2, .int c34), (0, .ref (zk K 0)), (1, .int y1_2), (3, .int y3_12)]) rfl ?_
            refine zr_iinc hB 3 dX9_nameHere_99 rfl (by decide) rfl (by omega) (by omega) (fun x35 ex35 lv' hlv => ?_)
            obtain rfl : [(3, .int x35), (2, .int c34), (0, .ref (zk K 0)), (1, .int y1_2)] = lv' := hlv
            refine zr_goto hB dX9_nameHere_102 (tgt := 50) rfl ?_
            exact zc_sub [2, 3, 1, 0] rfl (ih50 c34 x35 (by omega) (by omega) (by omega) (by omega) (show c34.toInt = 0 by omega) (show (¬ c34.toInt = 0 → (σ0.1 0 12).toInt = 1 ∧ (σ0.1 0 10).toInt.toNat = (σ0.1 0 11).toInt.toNat + zc_len.getD y1_2.toInt.toNat 0 ∧ ∀ j : Nat, (j : Int) < x35.toInt → (zw_bM σ0) ((σ0.1 0 11).toInt.toNat + j) = ((zc_byt.getD y1_2.toInt.toNat []).getD j 0).toInt) by first | (intro h9; exfalso; omega) | (intro _; have h9 := hjj (by omega); exact ⟨h9.1, h9.2.1, fun j hj => by by_cases h8 : (j : Int) < y3_12.toInt; exact h9.2.2 j h8; (obtain rfl : j = y3_12.toInt.toNat := (by omega); rw [show (σ0.1 0 11).toInt.toNat + y3_12.toInt.toNat = x21.toInt.toNat by omega, hb27, ← hlt]; omega)⟩)) (show (c34.toInt = 0 → (σ0.1 0 12).toInt = 1 → ¬ zw_is (zw_bM σ0) (σ0.1 0 11).toInt.toNat (σ0.1 0 10).toInt.toNat y1_2.toInt.toNat) by first | (intro h9; exfalso; omega) | (intro _ ht h8; have h9 := hjj (by omega); have h7 := h8.2 y3_12.toInt.toNat (by omega); rw [show (σ0.1 0 11).toInt.toNat + y3_12.toInt.toNat = x21.toInt.toNat by omega, hb27, ← hlt] at h7; omega)) (by omega))
        exact zc_sub [2, 3, 1, 0] rfl (L50_14 122 c9 c10 (by omega) (by omega) (by omega) (by omega) (show c9.toInt = 0 by omega) (show (¬ c9.toInt = 0 → (σ0.1 0 12).toInt = 1 ∧ (σ0.1 0 10).toInt.toNat = (σ0.1 0 11).toInt.toNat + zc_len.getD y1_2.toInt.toNat 0 ∧ ∀ j : Nat, (j : Int) < c10.toInt → (zw_bM σ0) ((σ0.1 0 11).toInt.toNat + j) = ((zc_byt.getD y1_2.toInt.toNat []).getD j 0).toInt) by first | (intro h9; exfalso; omega) | (intro _; exact ⟨by omega, by omega, fun j hj => by exfalso; omega⟩)) (show (c9.toInt = 0 → (σ0.1 0 12).toInt = 1 → ¬ zw_is (zw_bM σ0) (σ0.1 0 11).toInt.toNat (σ0.1 0 10).toInt.toNat y1_2.toInt.toNat) by first | (intro h9; exfalso; omega) | (intro _ h9; exfalso; omega) | (intro _ _ h8; have h9 := h8.1; omega)) (by omega))
      refine zr_aload_n hB 0 dX9_nameHere_15 rfl ?_
      refine zr_geti' hG 0 10 (σ0.1 0 10) dX9_nameHere_16 rfl wf_X9_137 rfl rfl ?_
      refine zr_aload_n hB 0 dX9_nameHere_19 rfl ?_
      refine zr_geti' hG 0 11 (σ0.1 0 11) dX9_nameHere_20 rfl wf_X9_131 rfl rfl ?_
      refine zr_isub hB dX9_nameHere_23 (by omega) (by omega) (fun x36 ex36 => ?_)
      refine zr_aload_n hB 0 dX9_nameHere_24 rfl ?_
      refine zr_getr hG 0 14 dX9_nameHere_25 rfl wf_X9_23 rfl ?_
      refine zr_iload_n hB 1 dX9_nameHere_28 rfl ?_
      refine zr_iconst hB dX9_nameHere_29 rfl (fun c37 ec37 => ?_)
      refine zr_iadd hB dX9_nameHere_30 (by omega) (by omega) (fun x38 ex38 => ?_)
      refine zr_iald hG 5 dX9_nameHere_31 rfl (by omega) (by omega) (fun x39 ex39 => ?_)
      have bx39 : 0 ≤ x39.toInt ∧ x39.toInt ≤ 22 := by rw [ex39]; exact ⟨(hO0 5 _).1, (hO0 5 _).2.1⟩
      refine zr_aload_n hB 0 dX9_nameHere_32 rfl ?_
      refine zr_getr hG 0 14 dX9_nameHere_33 rfl wf_X9_23 rfl ?_
      refine zr_iload_n hB 1 dX9_nameHere_36 rfl ?_
      refine zr_iald hG 5 dX9_nameHere_37 rfl (by omega) (by omega) (fun x40 ex40 => ?_)
      have bx40 : 0 ≤ x40.toInt ∧ x40.toInt ≤ 22 := by rw [ex40]; exact ⟨(hO0 5 _).1, (hO0 5 _).2.1⟩
      have hke := (hK.1 y1_2.toInt.toNat (by omega)).1
      rw [show y1_2.toInt.toNat + 1 = x38.toInt.toNat by omega, ← ex39, ← ex40] at hke
      refine zr_isub hB dX9_nameHere_38 (by omega) (by omega) (fun x41 ex41 => ?_)
      refine zr_icmp_ne hB dX9_nameHere_39 (tgt := 46) rfl (fun c42 => ?_) (fun c42 => ?_)
      · refine zr_iconst hB dX9_nameHere_46 rfl (fun c43 ec43 => ?_)
        refine zr_istore_n hB dX9_nameHere_47 rfl (by decide) (lv' := [(2, .int c43), (0, .ref (zk K 0)), (1, .int y1_2)]) rfl ?_
        refine zr_iconst hB dX9_nameHere_48 rfl (fun c44 ec44 => ?_)
        refine zr_istore_n hB dX9_nameHere_49 rfl (by decide) (lv' := [(3, .int c44), (2, .int c43), (0, .ref (zk K 0)), (1, .int y1_2)]) rfl ?_
        have L50_48 : ∀ (n50 : Nat) (y2_45 : Int32) (y3_46 : Int32), 0 ≤ y2_45.toInt → y2_45.toInt ≤ 1 → 0 ≤ y3_46.toInt → y3_46.toInt ≤ 120 → ((y2_45.toInt = 0 ∨ (σ0.1 0 10).toInt - (σ0.1 0 11).toInt = x39.toInt - x40.toInt)) → ((¬ y2_45.toInt = 0 → (σ0.1 0 12).toInt = 1 ∧ (σ0.1 0 10).toInt.toNat = (σ0.1 0 11).toInt.toNat + zc_len.getD y1_2.toInt.toNat 0 ∧ ∀ j : Nat, (j : Int) < y3_46.toInt → (zw_bM σ0) ((σ0.1 0 11).toInt.toNat + j) = ((zc_byt.getD y1_2.toInt.toNat []).getD j 0).toInt)) → ((y2_45.toInt = 0 → (σ0.1 0 12).toInt = 1 → ¬ zw_is (zw_bM σ0) (σ0.1 0 11).toInt.toNat (σ0.1 0 10).toInt.toNat y1_2.toInt.toNat)) → 120 - y3_46.toInt < (n50 : Int) → zc_V 4 K G (zc_D shM K G σ0) [(0, .ref (zk K 0)), (1, .int y1_2), (2, .int y2_45), (3, .int y3_46)] 50 [] := by
          intro n50
          induction n50 with
          | zero => intro y2_45 y3_46 y2_45a y2_45b y3_46a y3_46b e47 hjj hnn hn50; exfalso; omega
          | succ n50 ih50 =>
            intro y2_45 y3_46 y2_45a y2_45b y3_46a y3_46b e47 hjj hnn hn50
            refine zr_iload_n hB 2 dX9_nameHere_50 rfl ?_
            refine zr_if_eq hB dX9_nameHere_51 (tgt := 105) rfl (fun c49 => ?_) (fun c49 => ?_)
            · refine zr_iload_n hB 2 dX9_nameHere_105 rfl ?_
              refine zr_if_eq hB dX9_nameHere_106 (tgt := 111) rfl (fun c50 => ?_) (fun c50 => ?_)
              · refine zr_iinc hB 1 dX9_nameHere_111 rfl (by decide) rfl (by omega) (by omega) (fun x51 ex51 lv' hlv => ?_)
                obtain rfl : [(1, .int x51), (0, .ref (zk K 0)), (2, .int y2_45), (3, .int y3_46)] = lv' := hlv
                refine zr_goto hB dX9_nameHere_114 (tgt := 2) rfl ?_
                exact zc_sub [1, 0] rfl (ih2 x51 (by omega) (by omega) (show ∀ k : Nat, (k : Int) < x51.toInt → (σ0.1 0 12).toInt = 1 → ¬ zw_is (zw_bM σ0) (σ0.1 0 11).toInt.toNat (σ0.1 0 10).toInt.toNat k by intro k hk ht; by_cases h9 : (k : Int) < y1_2.toInt; exact hno k h9 ht; (obtain rfl : k = y1_2.toInt.toNat := (by omega); exact hnn (by omega) ht)) (by omega))
              exfalso; omega
            refine zr_iload_n hB 3 dX9_nameHere_54 rfl ?_
            refine zr_aload_n hB 0 dX9_nameHere_55 rfl ?_
            refine zr_geti' hG 0 10 (σ0.1 0 10) dX9_nameHere_56 rfl wf_X9_137 rfl rfl ?_
            refine zr_aload_n hB 0 dX9_nameHere_59 rfl ?_
            refine zr_geti' hG 0 11 (σ0.1 0 11) dX9_nameHere_60 rfl wf_X9_131 rfl rfl ?_
            refine zr_isub hB dX9_nameHere_63 (by omega) (by omega) (fun x52 ex52 => ?_)
            refine zr_icmp_ge hB dX9_nameHere_64 (tgt := 105) rfl (fun c53 => ?_) (fun c53 => ?_)
            · refine zr_iload_n hB 2 dX9_nameHere_105 rfl ?_
              refine zr_if_eq hB dX9_nameHere_106 (tgt := 111) rfl (fun c54 => ?_) (fun c54 => ?_)
              · exfalso; omega
              refine zr_iload_n hB 1 dX9_nameHere_109 rfl ?_
              exact zr_iret hG dX9_nameHere_110 ⟨rfl, by omega, by omega, by omega, (by unfold zw_kn; have h9 := hjj (by omega); rw [if_pos (show (zw_M σ0).2.2.2 = 1 from h9.1)]; have h8 := zw_nm_of (b := (zw_bM σ0)) (s := (σ0.1 0 11).toInt.toNat) (e := (σ0.1 0 10).toInt.toNat) (i := y1_2.toInt.toNat) (by omega) (fun k hk => hno k (by omega) h9.1) ⟨h9.2.1, fun j hj => h9.2.2 j (by omega)⟩; show y1_2.toInt = zw_nm (zw_bM σ0) (σ0.1 0 11).toInt.toNat (σ0.1 0 10).toInt.toNat; rw [h8]; omega)⟩
            refine zr_aload_n hB 0 dX9_nameHere_67 rfl ?_
            refine zr_aload_n hB 0 dX9_nameHere_68 rfl ?_
            refine zr_geti' hG 0 11 (σ0.1 0 11) dX9_nameHere_69 rfl wf_X9_131 rfl rfl ?_
            refine zr_iload_n hB 3 dX9_nameHere_72 rfl ?_
            refine zr_iadd hB dX9_nameHere_73 (by omega) (by omega) (fun x55 ex55 => ?_)
            refine zr_callvi hG (rest := []) 0 dX9_nameHere_74 wm_X9_140 rfl rfl (c_M_byteAt K hG.2.2.2.2.2.1 σ0 x55 hO0 (by omega)) rfl rfl (Nat.le_of_ble_eq_true rfl) ⟨Nat.le_of_ble_eq_true rfl, Nat.le_of_ble_eq_true rfl, rfl, rfl⟩ (fun r56 σ57 h58 => ?_)
            obtain ⟨rfl, r56a, r56b, r56h, g59, g60⟩ := h58
            have hb61 : (zw_bM σ0) x55.toInt.toNat = r56.toInt := g60.symm
            refine zr_aload_n hB 0 dX9_nameHere_77 rfl ?_
            refine zr_getr hG 0 15 dX9_nameHere_78 rfl wf_X9_26 rfl ?_
            refine zr_aload_n hB 0 dX9_nameHere_81 rfl ?_
            refine zr_getr hG 0 14 dX9_nameHere_82 rfl wf_X9_23 rfl ?_
            refine zr_iload_n hB 1 dX9_nameHere_85 rfl ?_
            refine zr_iald hG 5 dX9_nameHere_86 rfl (by omega) (by omega) (fun x62 ex62 => ?_)
            obtain rfl : x40 = x62 := ex40.trans ex62.symm
            refine zr_iload_n hB 3 dX9_nameHere_87 rfl ?_
            refine zr_iadd hB dX9_nameHere_88 (by omega) (by omega) (fun x63 ex63 => ?_)
            refine zr_iald hG 6 dX9_nameHere_89 rfl (by omega) (by omega) (fun x64 ex64 => ?_)
            have hlt : x64.toInt = ((zc_byt.getD y1_2.toInt.toNat []).getD y3_46.toInt.toNat 0).toInt := by have h9 := hjj (by omega); have h8 := (hK.1 y1_2.toInt.toNat (by omega)).2 y3_46.toInt.toNat (by omega); rw [← ex40, show x40.toInt.toNat + y3_46.toInt.toNat = x63.toInt.toNat by omega, ← ex64] at h8; exact h8
            refine zr_icmp_ne hB dX9_nameHere_90 (tgt := 97) rfl (fun c65 => ?_) (fun c65 => ?_)
            · refine zr_iconst hB dX9_nameHere_97 rfl (fun c66 ec66 => ?_)
              refine zr_istore_n hB dX9_nameHere_98 rfl (by decide) (lv' := [(2, .int c66), (0, .ref (zk K 0)), (1, .int y1_2), (3, .int y3_46)]) rfl ?_
              refine zr_iinc hB 3 dX9_nameHere_99 rfl (by decide) rfl (by omega) (by omega) (fun x67 ex67 lv' hlv => ?_)
              obtain rfl : [(3, .int x67), (2, .int c66), (0, .ref (zk K 0)), (1, .int y1_2)] = lv' := hlv
              refine zr_goto hB dX9_nameHere_102 (tgt := 50) rfl ?_
              exact zc_sub [2, 3, 1, 0] rfl (ih50 c66 x67 (by omega) (by omega) (by omega) (by omega) (show (c66.toInt = 0 ∨ (σ0.1 0 10).toInt - (σ0.1 0 11).toInt = x39.toInt - x40.toInt) by omega) (show (¬ c66.toInt = 0 → (σ0.1 0 12).toInt = 1 ∧ (σ0.1 0 10).toInt.toNat = (σ0.1 0 11).toInt.toNat + zc_len.getD y1_2.toInt.toNat 0 ∧ ∀ j : Nat, (j : Int) < x67.toInt → (zw_bM σ0) ((σ0.1 0 11).toInt.toNat + j) = ((zc_byt.getD y1_2.toInt.toNat []).getD j 0).toInt) by first | (intro h9; exfalso; omega) | (intro _; have h9 := hjj (by omega); exact ⟨h9.1, h9.2.1, fun j hj => by by_cases h8 : (j : Int) < y3_46.toInt; exact h9.2.2 j h8; (obtain rfl : j = y3_46.toInt.toNat := (by omega); rw [show (σ0.1 0 11).toInt.toNat + y3_46.toInt.toNat = x55.toInt.toNat by omega, hb61, ← hlt]; omega)⟩)) (show (c66.toInt = 0 → (σ0.1 0 12).toInt = 1 → ¬ zw_is (zw_bM σ0) (σ0.1 0 11).toInt.toNat (σ0.1 0 10).toInt.toNat y1_2.toInt.toNat) by first | (intro h9; exfalso; omega) | (intro _ ht h8; have h9 := hjj (by omega); have h7 := h8.2 y3_46.toInt.toNat (by omega); rw [show (σ0.1 0 11).toInt.toNat + y3_46.toInt.toNat = x55.toInt.toNat by omega, hb61, ← hlt] at h7; omega)) (by omega))
            refine zr_iconst hB dX9_nameHere_93 rfl (fun c68 ec68 => ?_)
            refine zr_goto hB dX9_nameHere_94 (tgt := 98) rfl ?_
            refine zr_istore_n hB dX9_nameHere_98 rfl (by decide) (lv' := [(2, .int c68), (0, .ref (zk K 0)), (1, .int y1_2), (3, .int y3_46)]) rfl ?_
            refine zr_iinc hB 3 dX9_nameHere_99 rfl (by decide) rfl (by omega) (by omega) (fun x69 ex69 lv' hlv => ?_)
            obtain rfl : [(3, .int x69), (2, .int c68), (0, .ref (zk K 0)), (1, .int y1_2)] = lv' := hlv
            refine zr_goto hB dX9_nameHere_102 (tgt := 50) rfl ?_
            exact zc_sub [2, 3, 1, 0] rfl (ih50 c68 x69 (by omega) (by omega) (by omega) (by omega) (show (c68.toInt = 0 ∨ (σ0.1 0 10).toInt - (σ0.1 0 11).toInt = x39.toInt - x40.toInt) by omega) (show (¬ c68.toInt = 0 → (σ0.1 0 12).toInt = 1 ∧ (σ0.1 0 10).toInt.toNat = (σ0.1 0 11).toInt.toNat + zc_len.getD y1_2.toInt.toNat 0 ∧ ∀ j : Nat, (j : Int) < x69.toInt → (zw_bM σ0) ((σ0.1 0 11).toInt.toNat + j) = ((zc_byt.getD y1_2.toInt.toNat []).getD j 0).toInt) by first | (intro h9; exfalso; omega) | (intro _; have h9 := hjj (by omega); exact ⟨h9.1, h9.2.1, fun j hj => by by_cases h8 : (j : Int) < y3_46.toInt; exact h9.2.2 j h8; (obtain rfl : j = y3_46.toInt.toNat := (by omega); rw [show (σ0.1 0 11).toInt.toNat + y3_46.toInt.toNat = x55.toInt.toNat by omega, hb61, ← hlt]; omega)⟩)) (show (c68.toInt = 0 → (σ0.1 0 12).toInt = 1 → ¬ zw_is (zw_bM σ0) (σ0.1 0 11).toInt.toNat (σ0.1 0 10).toInt.toNat y1_2.toInt.toNat) by first | (intro h9; exfalso; omega) | (intro _ ht h8; have h9 := hjj (by omega); have h7 := h8.2 y3_46.toInt.toNat (by omega); rw [show (σ0.1 0 11).toInt.toNat + y3_46.toInt.toNat = x55.toInt.toNat by omega, hb61, ← hlt] at h7; omega)) (by omega))
        exact zc_sub [2, 3, 1, 0] rfl (L50_48 122 c43 c44 (by omega) (by omega) (by omega) (by omega) (show (c43.toInt = 0 ∨ (σ0.1 0 10).toInt - (σ0.1 0 11).toInt = x39.toInt - x40.toInt) by omega) (show (¬ c43.toInt = 0 → (σ0.1 0 12).toInt = 1 ∧ (σ0.1 0 10).toInt.toNat = (σ0.1 0 11).toInt.toNat + zc_len.getD y1_2.toInt.toNat 0 ∧ ∀ j : Nat, (j : Int) < c44.toInt → (zw_bM σ0) ((σ0.1 0 11).toInt.toNat + j) = ((zc_byt.getD y1_2.toInt.toNat []).getD j 0).toInt) by first | (intro h9; exfalso; omega) | (intro _; exact ⟨by omega, by omega, fun j hj => by exfalso; omega⟩)) (show (c43.toInt = 0 → (σ0.1 0 12).toInt = 1 → ¬ zw_is (zw_bM σ0) (σ0.1 0 11).toInt.toNat (σ0.1 0 10).toInt.toNat y1_2.toInt.toNat) by first | (intro h9; exfalso; omega) | (intro _ h9; exfalso; omega) | (intro _ _ h8; have h9 := h8.1; omega)) (by omega))
      refine zr_iconst hB dX9_nameHere_42 rfl (fun c70 ec70 => ?_)
      refine zr_goto hB dX9_nameHere_43 (tgt := 47) rfl ?_
      refine zr_istore_n hB dX9_nameHere_47 rfl (by decide) (lv' := [(2, .int c70), (0, .ref (zk K 0)), (1, .int y1_2)]) rfl ?_
      refine zr_iconst hB dX9_nameHere_48 rfl (fun c71 ec71 => ?_)
      refine zr_istore_n hB dX9_nameHere_49 rfl (by decide) (lv' := [(3, .int c71), (2, .int c70), (0, .ref (zk K 0)), (1, .int y1_2)]) rfl ?_
      have L50_75 : ∀ (n50 : Nat) (y2_72 : Int32) (y3_73 : Int32), 0 ≤ y2_72.toInt → y2_72.toInt ≤ 1 → 0 ≤ y3_73.toInt → y3_73.toInt ≤ 120 → ((y2_72.toInt = 0 ∨ (σ0.1 0 10).toInt - (σ0.1 0 11).toInt = x39.toInt - x40.toInt)) → ((¬ y2_72.toInt = 0 → (σ0.1 0 12).toInt = 1 ∧ (σ0.1 0 10).toInt.toNat = (σ0.1 0 11).toInt.toNat + zc_len.getD y1_2.toInt.toNat 0 ∧ ∀ j : Nat, (j : Int) < y3_73.toInt → (zw_bM σ0) ((σ0.1 0 11).toInt.toNat + j) = ((zc_byt.getD y1_2.toInt.toNat []).getD j 0).toInt)) → ((y2_72.toInt = 0 → (σ0.1 0 12).toInt = 1 → ¬ zw_is (zw_bM σ0) (σ0.1 0 11).toInt.toNat (σ0.1 0 10).toInt.toNat y1_2.toInt.toNat)) → 120 - y3_73.toInt < (n50 : Int) → zc_V 4 K G (zc_D shM K G σ0) [(0, .ref (zk K 0)), (1, .int y1_2), (2, .int y2_72), (3, .int y3_73)] 50 [] := by
        intro n50
        induction n50 with
        | zero => intro y2_72 y3_73 y2_72a y2_72b y3_73a y3_73b e74 hjj hnn hn50; exfalso; omega
        | succ n50 ih50 =>
          intro y2_72 y3_73 y2_72a y2_72b y3_73a y3_73b e74 hjj hnn hn50
          refine zr_iload_n hB 2 dX9_nameHere_50 rfl ?_
          refine zr_if_eq hB dX9_nameHere_51 (tgt := 105) rfl (fun c76 => ?_) (fun c76 => ?_)
          · refine zr_iload_n hB 2 dX9_nameHere_105 rfl ?_
            refine zr_if_eq hB dX9_nameHere_106 (tgt := 111) rfl (fun c77 => ?_) (fun c77 => ?_)
            · refine zr_iinc hB 1 dX9_nameHere_111 rfl (by decide) rfl (by omega) (by omega) (fun x78 ex78 lv' hlv => ?_)
              obtain rfl : [(1, .int x78), (0, .ref (zk K 0)), (2, .int y2_72), (3, .int y3_73)] = lv' := hlv
              refine zr_goto hB dX9_nameHere_114 (tgt := 2) rfl ?_
              exact zc_sub [1, 0] rfl (ih2 x78 (by omega) (by omega) (show ∀ k : Nat, (k : Int) < x78.toInt → (σ0.1 0 12).toInt = 1 → ¬ zw_is (zw_bM σ0) (σ0.1 0 11).toInt.toNat (σ0.1 0 10).toInt.toNat k by intro k hk ht; by_cases h9 : (k : Int) < y1_2.toInt; exact hno k h9 ht; (obtain rfl : k = y1_2.toInt.toNat := (by omega); exact hnn (by omega) ht)) (by omega))
            exfalso; omega
          refine zr_iload_n hB 3 dX9_nameHere_54 rfl ?_
          refine zr_aload_n hB 0 dX9_nameHere_55 rfl ?_
          refine zr_geti' hG 0 10 (σ0.1 0 10) dX9_nameHere_56 rfl wf_X9_137 rfl rfl ?_
          refine zr_aload_n hB 0 dX9_nameHere_59 rfl ?_
          refine zr_geti' hG 0 11 (σ0.1 0 11) dX9_nameHere_60 rfl wf_X9_131 rfl rfl ?_
          refine zr_isub hB dX9_nameHere_63 (by omega) (by omega) (fun x79 ex79 => ?_)
          refine zr_icmp_ge hB dX9_nameHere_64 (tgt := 105) rfl (fun c80 => ?_) (fun c80 => ?_)
          · refine zr_iload_n hB 2 dX9_nameHere_105 rfl ?_
            refine zr_if_eq hB dX9_nameHere_106 (tgt := 111) rfl (fun c81 => ?_) (fun c81 => ?_)
            · exfalso; omega
            refine zr_iload_n hB 1 dX9_nameHere_109 rfl ?_
            exact zr_iret hG dX9_nameHere_110 ⟨rfl, by omega, by omega, by omega, (by unfold zw_kn; have h9 := hjj (by omega); rw [if_pos (show (zw_M σ0).2.2.2 = 1 from h9.1)]; have h8 := zw_nm_of (b := (zw_bM σ0)) (s := (σ0.1 0 11).toInt.toNat) (e := (σ0.1 0 10).toInt.toNat) (i := y1_2.toInt.toNat) (by omega) (fun k hk => hno k (by omega) h9.1) ⟨h9.2.1, fun j hj => h9.2.2 j (by omega)⟩; show y1_2.toInt = zw_nm (zw_bM σ0) (σ0.1 0 11).toInt.toNat (σ0.1 0 10).toInt.toNat; rw [h8]; omega)⟩
          refine zr_aload_n hB 0 dX9_nameHere_67 rfl ?_
          refine zr_aload_n hB 0 dX9_nameHere_68 rfl ?_
          refine zr_geti' hG 0 11 (σ0.1 0 11) dX9_nameHere_69 rfl wf_X9_131 rfl rfl ?_
          refine zr_iload_n hB 3 dX9_nameHere_72 rfl ?_
          refine zr_iadd hB dX9_nameHere_73 (by omega) (by omega) (fun x82 ex82 => ?_)
          refine zr_callvi hG (rest := []) 0 dX9_nameHere_74 wm_X9_140 rfl rfl (c_M_byteAt K hG.2.2.2.2.2.1 σ0 x82 hO0 (by omega)) rfl rfl (Nat.le_of_ble_eq_true rfl) ⟨Nat.le_of_ble_eq_true rfl, Nat.le_of_ble_eq_true rfl, rfl, rfl⟩ (fun r83 σ84 h85 => ?_)
          obtain ⟨rfl, r83a, r83b, r83h, g86, g87⟩ := h85
          have hb88 : (zw_bM σ0) x82.toInt.toNat = r83.toInt := g87.symm
          refine zr_aload_n hB 0 dX9_nameHere_77 rfl ?_
          refine zr_getr hG 0 15 dX9_nameHere_78 rfl wf_X9_26 rfl ?_
          refine zr_aload_n hB 0 dX9_nameHere_81 rfl ?_
          refine zr_getr hG 0 14 dX9_nameHere_82 rfl wf_X9_23 rfl ?_
          refine zr_iload_n hB 1 dX9_nameHere_85 rfl ?_
          refine zr_iald hG 5 dX9_nameHere_86 rfl (by omega) (by omega) (fun x89 ex89 => ?_)
          obtain rfl : x40 = x89 := ex40.trans ex89.symm
          refine zr_iload_n hB 3 dX9_nameHere_87 rfl ?_
          refine zr_iadd hB dX9_nameHere_88 (by omega) (by omega) (fun x90 ex90 => ?_)
          refine zr_iald hG 6 dX9_nameHere_89 rfl (by omega) (by omega) (fun x91 ex91 => ?_)
          have hlt : x91.toInt = ((zc_byt.getD y1_2.toInt.toNat []).getD y3_73.toInt.toNat 0).toInt := by have h9 := hjj (by omega); have h8 := (hK.1 y1_2.toInt.toNat (by omega)).2 y3_73.toInt.toNat (by omega); rw [← ex40, show x40.toInt.toNat + y3_73.toInt.toNat = x90.toInt.toNat by omega, ← ex91] at h8; exact h8
          refine zr_icmp_ne hB dX9_nameHere_90 (tgt := 97) rfl (fun c92 => ?_) (fun c92 => ?_)
          · refine zr_iconst hB dX9_nameHere_97 rfl (fun c93 ec93 => ?_)
            refine zr_istore_n hB dX9_nameHere_98 rfl (by decide) (lv' := [(2, .int c93), (0, .ref (zk K 0)), (1, .int y1_2), (3, .int y3_73)]) rfl ?_
            refine zr_iinc hB 3 dX9_nameHere_99 rfl (by decide) rfl (by omega) (by omega) (fun x94 ex94 lv' hlv => ?_)
            obtain rfl : [(3, .int x94), (2, .int c93), (0, .ref (zk K 0)), (1, .int y1_2)] = lv' := hlv
            refine zr_goto hB dX9_nameHere_102 (tgt := 50) rfl ?_
            exact zc_sub [2, 3, 1, 0] rfl (ih50 c93 x94 (by omega) (by omega) (by omega) (by omega) (show (c93.toInt = 0 ∨ (σ0.1 0 10).toInt - (σ0.1 0 11).toInt = x39.toInt - x40.toInt) by omega) (show (¬ c93.toInt = 0 → (σ0.1 0 12).toInt = 1 ∧ (σ0.1 0 10).toInt.toNat = (σ0.1 0 11).toInt.toNat + zc_len.getD y1_2.toInt.toNat 0 ∧ ∀ j : Nat, (j : Int) < x94.toInt → (zw_bM σ0) ((σ0.1 0 11).toInt.toNat + j) = ((zc_byt.getD y1_2.toInt.toNat []).getD j 0).toInt) by first | (intro h9; exfalso; omega) | (intro _; have h9 := hjj (by omega); exact ⟨h9.1, h9.2.1, fun j hj => by by_cases h8 : (j : Int) < y3_73.toInt; exact h9.2.2 j h8; (obtain rfl : j = y3_73.toInt.toNat := (by omega); rw [show (σ0.1 0 11).toInt.toNat + y3_73.toInt.toNat = x82.toInt.toNat by omega, hb88, ← hlt]; omega)⟩)) (show (c93.toInt = 0 → (σ0.1 0 12).toInt = 1 → ¬ zw_is (zw_bM σ0) (σ0.1 0 11).toInt.toNat (σ0.1 0 10).toInt.toNat y1_2.toInt.toNat) by first | (intro h9; exfalso; omega) | (intro _ ht h8; have h9 := hjj (by omega); have h7 := h8.2 y3_73.toInt.toNat (by omega); rw [show (σ0.1 0 11).toInt.toNat + y3_73.toInt.toNat = x82.toInt.toNat by omega, hb88, ← hlt] at h7; omega)) (by omega))
          refine zr_iconst hB dX9_nameHere_93 rfl (fun c95 ec95 => ?_)
          refine zr_goto hB dX9_nameHere_94 (tgt := 98) rfl ?_
          refine zr_istore_n hB dX9_nameHere_98 rfl (by decide) (lv' := [(2, .int c95), (0, .ref (zk K 0)), (1, .int y1_2), (3, .int y3_73)]) rfl ?_
          refine zr_iinc hB 3 dX9_nameHere_99 rfl (by decide) rfl (by omega) (by omega) (fun x96 ex96 lv' hlv => ?_)
          obtain rfl : [(3, .int x96), (2, .int c95), (0, .ref (zk K 0)), (1, .int y1_2)] = lv' := hlv
          refine zr_goto hB dX9_nameHere_102 (tgt := 50) rfl ?_
          exact zc_sub [2, 3, 1, 0] rfl (ih50 c95 x96 (by omega) (by omega) (by omega) (by omega) (show (c95.toInt = 0 ∨ (σ0.1 0 10).toInt - (σ0.1 0 11).toInt = x39.toInt - x40.toInt) by omega) (show (¬ c95.toInt = 0 → (σ0.1 0 12).toInt = 1 ∧ (σ0.1 0 10).toInt.toNat = (σ0.1 0 11).toInt.toNat + zc_len.getD y1_2.toInt.toNat 0 ∧ ∀ j : Nat, (j : Int) < x96.toInt → (zw_bM σ0) ((σ0.1 0 11).toInt.toNat + j) = ((zc_byt.getD y1_2.toInt.toNat []).getD j 0).toInt) by first | (intro h9; exfalso; omega) | (intro _; have h9 := hjj (by omega); exact ⟨h9.1, h9.2.1, fun j hj => by by_cases h8 : (j : Int) < y3_73.toInt; exact h9.2.2 j h8; (obtain rfl : j = y3_73.toInt.toNat := (by omega); rw [show (σ0.1 0 11).toInt.toNat + y3_73.toInt.toNat = x82.toInt.toNat by omega, hb88, ← hlt]; omega)⟩)) (show (c95.toInt = 0 → (σ0.1 0 12).toInt = 1 → ¬ zw_is (zw_bM σ0) (σ0.1 0 11).toInt.toNat (σ0.1 0 10).toInt.toNat y1_2.toInt.toNat) by first | (intro h9; exfalso; omega) | (intro _ ht h8; have h9 := hjj (by omega); have h7 := h8.2 y3_73.toInt.toNat (by omega); rw [show (σ0.1 0 11).toInt.toNat + y3_73.toInt.toNat = x82.toInt.toNat by omega, hb88, ← hlt] at h7; omega)) (by omega))
      exact zc_sub [2, 3, 1, 0] rfl (L50_75 122 c70 c71 (by omega) (by omega) (by omega) (by omega) (show (c70.toInt = 0 ∨ (σ0.1 0 10).toInt - (σ0.1 0 11).toInt = x39.toInt - x40.toInt) by omega) (show (¬ c70.toInt = 0 → (σ0.1 0 12).toInt = 1 ∧ (σ0.1 0 10).toInt.toNat = (σ0.1 0 11).toInt.toNat + zc_len.getD y1_2.toInt.toNat 0 ∧ ∀ j : Nat, (j : Int) < c71.toInt → (zw_bM σ0) ((σ0.1 0 11).toInt.toNat + j) = ((zc_byt.getD y1_2.toInt.toNat []).getD j 0).toInt) by first | (intro h9; exfalso; omega) | (intro _; exact ⟨by omega, by omega, fun j hj => by exfalso; omega⟩)) (show (c70.toInt = 0 → (σ0.1 0 12).toInt = 1 → ¬ zw_is (zw_bM σ0) (σ0.1 0 11).toInt.toNat (σ0.1 0 10).toInt.toNat y1_2.toInt.toNat) by first | (intro h9; exfalso; omega) | (intro _ h9; exfalso; omega) | (intro _ _ h8; have h9 := h8.1; omega)) (by omega))
  exact zc_sub [1, 0] rfl (L2_3 7 c1 (by omega) (by omega) (show ∀ k : Nat, (k : Int) < c1.toInt → (σ0.1 0 12).toInt = 1 → ¬ zw_is (zw_bM σ0) (σ0.1 0 11).toInt.toNat (σ0.1 0 10).toInt.toNat k by intro k hk; exfalso; omega) (by omega))

def m_M_number : zc_ms := [(0, some 8), (0, some 9), (0, some 10), (0, some 11), (0, some 12), (0, some 13)]
set_option maxHeartbeats 8000000 in
set_option maxRecDepth 100000 in
theorem c_M_number (K : zc_K) (hi : zc_inj shM K.2.2.2.1) (σ0 : zc_S) (p1 : Int32) (p2 : Int32) (hO0 : zc_O okM σ0) (hV : zw_V σ0) (hI : zw_iw (σ0.1 0 8).toInt (σ0.1 0 9).toInt (σ0.1 0 11).toInt) : zc_M shM K yX9_number cX9_number 4 (some .int) (zrm 2 46) σ0 [.ref (zk K 0), .int p1, .int p2] (zc_I (fun r9 σ9 => zc_O okM σ9 ∧ zc_Ag m_M_number σ0 σ9 ∧ (1 ≤ (σ9.1 0 8).toInt ∨ (p1.toInt ≤ r9.toInt ∧ r9.toInt ≤ p2.toInt)) ∧ ((σ0.1 0 8).toInt = 0 ∨ 1 ≤ (σ9.1 0 8).toInt) ∧ zw_M σ9 = zw_adv (zw_bM σ0) (zw_nb (zw_bM σ0) p1.toInt p2.toInt (zw_M σ0)) ∧ zw_wv (σ9.1 0 8).toInt r9.toInt (zw_val (zw_bM σ0) (zw_chk 2 (zw_M σ0))) ∧ zw_V σ9 ∧ zw_iw (σ9.1 0 8).toInt (σ9.1 0 9).toInt (σ9.1 0 11).toInt)) := by
  refine zc_start RX9 hi pfX9_number rfl (Nat.le_of_ble_eq_true rfl) ?_
  intro G hG
  have hB := hG.1
  have hA0 : zc_Ag m_M_number σ0 σ0 := zc_Ag.rf
  show zc_V 4 K G (zc_D shM K G σ0) [(0, .ref (zk K 0)), (1, .int p1), (2, .int p2)] 0 []
  have bw0_8 : 0 ≤ (σ0.1 0 8).toInt ∧ (σ0.1 0 8).toInt ≤ 5 := ⟨(hO0 0 8).1, (hO0 0 8).2.1⟩
  have bw0_9 : 0 ≤ (σ0.1 0 9).toInt ∧ (σ0.1 0 9).toInt ≤ 120 := ⟨(hO0 0 9).1, (hO0 0 9).2.1⟩
  have bw0_11 : 0 ≤ (σ0.1 0 11).toInt ∧ (σ0.1 0 11).toInt ≤ 120 := ⟨(hO0 0 11).1, (hO0 0 11).2.1⟩
  have bw0_12 : 0 ≤ (σ0.1 0 12).toInt ∧ (σ0.1 0 12).toInt ≤ 3 := ⟨(hO0 0 12).1, (hO0 0 12).2.1⟩
  have bw0_13 : 0 ≤ (σ0.1 0 13).toInt ∧ (σ0.1 0 13).toInt ≤ 99 := ⟨(hO0 0 13).1, (hO0 0 13).2.1⟩
  refine zr_aload_n hB 0 dX9_number_0 rfl ?_
  refine zr_geti' hG 0 8 (σ0.1 0 8) dX9_number_1 rfl wf_X9_128 rfl rfl ?_
  refine zr_if_ne hB dX9_number_4 (tgt := 20) rfl (fun c1 => ?_) (fun c1 => ?_)
  · refine zr_aload_n hB 0 dX9_number_20 rfl ?_
    refine zr_geti' hG 0 8 (σ0.1 0 8) dX9_number_21 rfl wf_X9_128 rfl rfl ?_
    refine zr_if_ne hB dX9_number_24 (tgt := 47) rfl (fun c2 => ?_) (fun c2 => ?_)
    · refine zr_aload_n hB 0 dX9_number_47 rfl ?_
      refine zr_geti' hG 0 13 (σ0.1 0 13) dX9_number_48 rfl wf_X9_143 rfl rfl ?_
      refine zr_istore_n hB dX9_number_51 rfl (by decide) (lv' := [(3, .int (σ0.1 0 13)), (0, .ref (zk K 0)), (1, .int p1), (2, .int p2)]) rfl ?_
      refine zr_aload_n hB 1 dX9_number_52 rfl ?_
      have hm : zw_M σ0 = zw_nb (zw_bM σ0) p1.toInt p2.toInt (zw_M σ0) := by exact (zw_nb_a (show ¬ (zw_M σ0).1 = 0 from (show ¬ (σ0.1 0 8).toInt = 0 by omega))).symm
      refine zr_callvn hG (rest := []) 0 dX9_number_53 wm_X9_161 rfl rfl (c_M_next K hG.2.2.2.2.2.1 σ0  hO0 hI) rfl rfl (Nat.le_of_ble_eq_true rfl) ⟨Nat.le_of_ble_eq_true rfl, Nat.le_of_ble_eq_true rfl, rfl, rfl⟩ (fun σ4 h5 => ?_)
      obtain ⟨hO6, hAc7, g8, g9, g10, g11⟩ := h5
      have hA12 := zc_Ag.tr hA0 hAc7 rfl
      have hq : zw_M σ4 = zw_adv (zw_bM σ0) (zw_nb (zw_bM σ0) p1.toInt p2.toInt (zw_M σ0)) := by have h9 := g9; rw [zw_bM.ag hA0 rfl (fun _ => rfl)] at h9; exact h9.trans (congrArg (zw_adv (zw_bM σ0)) hm)
      refine zr_iload_n hB 0 dX9_number_56 rfl ?_
      exact zr_iret hG dX9_number_57 ⟨hO6, hA12, (show (1 ≤ (σ4.1 0 8).toInt ∨ (p1.toInt ≤ (σ0.1 0 13).toInt ∧ (σ0.1 0 13).toInt ≤ p2.toInt)) by omega), (show ((σ0.1 0 8).toInt = 0 ∨ 1 ≤ (σ4.1 0 8).toInt) by omega), hq, (Or.inl (by omega)), g10, g11⟩
    exfalso; omega
  refine zr_aload_n hB 0 dX9_number_7 rfl ?_
  refine zr_geti' hG 0 12 (σ0.1 0 12) dX9_number_8 rfl wf_X9_146 rfl rfl ?_
  refine zr_iconst hB dX9_number_11 rfl (fun c13 ec13 => ?_)
  refine zr_icmp_eq hB dX9_number_12 (tgt := 20) rfl (fun c14 => ?_) (fun c14 => ?_)
  · refine zr_aload_n hB 0 dX9_number_20 rfl ?_
    refine zr_geti' hG 0 8 (σ0.1 0 8) dX9_number_21 rfl wf_X9_128 rfl rfl ?_
    refine zr_if_ne hB dX9_number_24 (tgt := 47) rfl (fun c15 => ?_) (fun c15 => ?_)
    · exfalso; omega
    have hv := hV (by omega) (by omega)
    refine zr_aload_n hB 0 dX9_number_27 rfl ?_
    refine zr_geti' hG 0 13 (σ0.1 0 13) dX9_number_28 rfl wf_X9_143 rfl rfl ?_
    refine zr_i2l hB dX9_number_31 (fun l16 el16 => ?_)
    refine zr_iload_n hB 1 dX9_number_32 rfl ?_
    have v18 := And.intro (zn_lo p1) (zn_hi p1)
    refine zr_i2l hB dX9_number_33 (fun l17 el17 => ?_)
    refine zr_iload_n hB 2 dX9_number_34 rfl ?_
    have v20 := And.intro (zn_lo p2) (zn_hi p2)
    refine zr_i2l hB dX9_number_35 (fun l19 el19 => ?_)
    refine zr_callsi hG (rest := []) dX9_number_36 wm_X9_91 (c_M_in K hG.2.2.2.2.2.1 σ0 l16 l17 l19 hO0 ) rfl rfl (Nat.le_of_ble_eq_true rfl) ⟨Nat.le_of_ble_eq_true rfl, Nat.le_of_ble_eq_true rfl, rfl, rfl⟩ (fun r21 σ22 h23 => ?_)
    obtain ⟨rfl, r21q⟩ := h23
    have r21z := r21q.b
    refine zr_if_ne hB dX9_number_39 (tgt := 47) rfl (fun c24 => ?_) (fun c24 => ?_)
    · have q25 := r21q.t c24
      refine zr_aload_n hB 0 dX9_number_47 rfl ?_
      refine zr_geti' hG 0 13 (σ0.1 0 13) dX9_number_48 rfl wf_X9_143 rfl rfl ?_
      refine zr_istore_n hB dX9_number_51 rfl (by decide) (lv' := [(3, .int (σ0.1 0 13)), (0, .ref (zk K 0)), (1, .int p1), (2, .int p2)]) rfl ?_
      refine zr_aload_n hB 1 dX9_number_52 rfl ?_
      have hm : zw_M σ0 = zw_nb (zw_bM σ0) p1.toInt p2.toInt (zw_M σ0) := by exact (zw_nb_c (show (zw_M σ0).1 = 0 from (show (σ0.1 0 8).toInt = 0 by omega)) (show (zw_M σ0).2.2.2 = 2 from (show (σ0.1 0 12).toInt = 2 by omega)) (show p1.toInt ≤ zw_v (zw_bM σ0) (σ0.1 0 11).toInt.toNat (σ0.1 0 10).toInt.toNat ∧ zw_v (zw_bM σ0) (σ0.1 0 11).toInt.toNat (σ0.1 0 10).toInt.toNat ≤ p2.toInt by omega)).symm
      refine zr_callvn hG (rest := []) 0 dX9_number_53 wm_X9_161 rfl rfl (c_M_next K hG.2.2.2.2.2.1 σ0  hO0 hI) rfl rfl (Nat.le_of_ble_eq_true rfl) ⟨Nat.le_of_ble_eq_true rfl, Nat.le_of_ble_eq_true rfl, rfl, rfl⟩ (fun σ27 h28 => ?_)
      obtain ⟨hO29, hAc30, g31, g32, g33, g34⟩ := h28
      have hA35 := zc_Ag.tr hA0 hAc30 rfl
      have hq : zw_M σ27 = zw_adv (zw_bM σ0) (zw_nb (zw_bM σ0) p1.toInt p2.toInt (zw_M σ0)) := by have h9 := g32; rw [zw_bM.ag hA0 rfl (fun _ => rfl)] at h9; exact h9.trans (congrArg (zw_adv (zw_bM σ0)) hm)
      refine zr_iload_n hB 0 dX9_number_56 rfl ?_
      exact zr_iret hG dX9_number_57 ⟨hO29, hA35, (show (1 ≤ (σ27.1 0 8).toInt ∨ (p1.toInt ≤ (σ0.1 0 13).toInt ∧ (σ0.1 0 13).toInt ≤ p2.toInt)) by omega), (show ((σ0.1 0 8).toInt = 0 ∨ 1 ≤ (σ27.1 0 8).toInt) by omega), hq, (Or.inr (by rw [zw_val_c (show (zw_M σ0).1 = 0 from (show (σ0.1 0 8).toInt = 0 by omega)) (show (zw_M σ0).2.2.2 = 2 from (show (σ0.1 0 12).toInt = 2 by omega))]; show (σ0.1 0 13).toInt = zw_v (zw_bM σ0) (σ0.1 0 11).toInt.toNat (σ0.1 0 10).toInt.toNat; omega)), g33, g34⟩
    have q36 := r21q.f c24
    refine zr_aload_n hB 0 dX9_number_42 rfl ?_
    refine zr_iconst hB dX9_number_43 rfl (fun c37 ec37 => ?_)
    refine zr_callvn hG (rest := []) 0 dX9_number_44 wm_X9_157 rfl rfl (c_M_fails K hG.2.2.2.2.2.1 σ0 c37 hO0 (by omega) (by omega)) rfl rfl (Nat.le_of_ble_eq_true rfl) ⟨Nat.le_of_ble_eq_true rfl, Nat.le_of_ble_eq_true rfl, rfl, rfl⟩ (fun σ39 h40 => ?_)
    obtain ⟨hO41, hAc42, g43, g44, g45⟩ := h40
    have hA46 := zc_Ag.tr hA0 hAc42 rfl
    have q47 : (σ39.1 0 11).toInt = (σ0.1 0 11).toInt := congrArg Int32.toInt (hAc42 0 11 rfl).1
    have q48 : (σ39.1 0 12).toInt = (σ0.1 0 12).toInt := congrArg Int32.toInt (hAc42 0 12 rfl).1
    have q49 : (σ39.1 0 13).toInt = (σ0.1 0 13).toInt := congrArg Int32.toInt (hAc42 0 13 rfl).1
    refine zr_aload_n hB 0 dX9_number_47 rfl ?_
    refine zr_geti' hG 0 13 (σ39.1 0 13) dX9_number_48 rfl wf_X9_143 rfl rfl ?_
    have b50 : 0 ≤ (σ39.1 0 13).toInt ∧ (σ39.1 0 13).toInt ≤ 99 := ⟨(hO41 0 13).1, (hO41 0 13).2.1⟩
    refine zr_istore_n hB dX9_number_51 rfl (by decide) (lv' := [(3, .int (σ39.1 0 13)), (0, .ref (zk K 0)), (1, .int p1), (2, .int p2)]) rfl ?_
    refine zr_aload_n hB 1 dX9_number_52 rfl ?_
    have hm : zw_M σ39 = zw_nb (zw_bM σ0) p1.toInt p2.toInt (zw_M σ0) := by rw [zw_nb_d (show (zw_M σ0).1 = 0 from (show (σ0.1 0 8).toInt = 0 by omega)) (show (zw_M σ0).2.2.2 = 2 from (show (σ0.1 0 12).toInt = 2 by omega)) (show zw_v (zw_bM σ0) (σ0.1 0 11).toInt.toNat (σ0.1 0 10).toInt.toNat < p1.toInt ∨ p2.toInt < zw_v (zw_bM σ0) (σ0.1 0 11).toInt.toNat (σ0.1 0 10).toInt.toNat by omega), zw_fl g45 (fun h9 => h9 (show (σ0.1 0 8).toInt = 0 by omega)), show c37.toInt = 3 by omega]
    refine zr_callvn hG (rest := []) 0 dX9_number_53 wm_X9_161 rfl rfl (c_M_next K hG.2.2.2.2.2.1 σ39  hO41 (show zw_iw (σ39.1 0 8).toInt (σ39.1 0 9).toInt (σ39.1 0 11).toInt by unfold zw_iw; omega)) rfl rfl (Nat.le_of_ble_eq_true rfl) ⟨Nat.le_of_ble_eq_true rfl, Nat.le_of_ble_eq_true rfl, rfl, rfl⟩ (fun σ52 h53 => ?_)
    obtain ⟨hO54, hAc55, g56, g57, g58, g59⟩ := h53
    have hA60 := zc_Ag.tr hA46 hAc55 rfl
    have hq : zw_M σ52 = zw_adv (zw_bM σ0) (zw_nb (zw_bM σ0) p1.toInt p2.toInt (zw_M σ0)) := by have h9 := g57; rw [zw_bM.ag hA46 rfl (fun _ => rfl)] at h9; exact h9.trans (congrArg (zw_adv (zw_bM σ0)) hm)
    refine zr_iload_n hB 0 dX9_number_56 rfl ?_
    exact zr_iret hG dX9_number_57 ⟨hO54, hA60, (show (1 ≤ (σ52.1 0 8).toInt ∨ (p1.toInt ≤ (σ39.1 0 13).toInt ∧ (σ39.1 0 13).toInt ≤ p2.toInt)) by omega), (show ((σ0.1 0 8).toInt = 0 ∨ 1 ≤ (σ52.1 0 8).toInt) by omega), hq, (Or.inl (by omega)), g58, g59⟩
  refine zr_aload_n hB 0 dX9_number_15 rfl ?_
  refine zr_iconst hB dX9_number_16 rfl (fun c61 ec61 => ?_)
  refine zr_callvn hG (rest := []) 0 dX9_number_17 wm_X9_157 rfl rfl (c_M_fails K hG.2.2.2.2.2.1 σ0 c61 hO0 (by omega) (by omega)) rfl rfl (Nat.le_of_ble_eq_true rfl) ⟨Nat.le_of_ble_eq_true rfl, Nat.le_of_ble_eq_true rfl, rfl, rfl⟩ (fun σ63 h64 => ?_)
  obtain ⟨hO65, hAc66, g67, g68, g69⟩ := h64
  have hA70 := zc_Ag.tr hA0 hAc66 rfl
  have q71 : (σ63.1 0 11).toInt = (σ0.1 0 11).toInt := congrArg Int32.toInt (hAc66 0 11 rfl).1
  have q72 : (σ63.1 0 12).toInt = (σ0.1 0 12).toInt := congrArg Int32.toInt (hAc66 0 12 rfl).1
  have q73 : (σ63.1 0 13).toInt = (σ0.1 0 13).toInt := congrArg Int32.toInt (hAc66 0 13 rfl).1
  refine zr_aload_n hB 0 dX9_number_20 rfl ?_
  refine zr_geti' hG 0 8 (σ63.1 0 8) dX9_number_21 rfl wf_X9_128 rfl rfl ?_
  have b74 : 0 ≤ (σ63.1 0 8).toInt ∧ (σ63.1 0 8).toInt ≤ 5 := ⟨(hO65 0 8).1, (hO65 0 8).2.1⟩
  refine zr_if_ne hB dX9_number_24 (tgt := 47) rfl (fun c75 => ?_) (fun c75 => ?_)
  · refine zr_aload_n hB 0 dX9_number_47 rfl ?_
    refine zr_geti' hG 0 13 (σ63.1 0 13) dX9_number_48 rfl wf_X9_143 rfl rfl ?_
    have b76 : 0 ≤ (σ63.1 0 13).toInt ∧ (σ63.1 0 13).toInt ≤ 99 := ⟨(hO65 0 13).1, (hO65 0 13).2.1⟩
    refine zr_istore_n hB dX9_number_51 rfl (by decide) (lv' := [(3, .int (σ63.1 0 13)), (0, .ref (zk K 0)), (1, .int p1), (2, .int p2)]) rfl ?_
    refine zr_aload_n hB 1 dX9_number_52 rfl ?_
    have hm : zw_M σ63 = zw_nb (zw_bM σ0) p1.toInt p2.toInt (zw_M σ0) := by rw [zw_nb_b (show (zw_M σ0).1 = 0 from (show (σ0.1 0 8).toInt = 0 by omega)) (show ¬ (zw_M σ0).2.2.2 = 2 from (show ¬ (σ0.1 0 12).toInt = 2 by omega)), zw_fl g69 (fun h9 => h9 (show (σ0.1 0 8).toInt = 0 by omega)), show c61.toInt = 2 by omega]
    refine zr_callvn hG (rest := []) 0 dX9_number_53 wm_X9_161 rfl rfl (c_M_next K hG.2.2.2.2.2.1 σ63  hO65 (show zw_iw (σ63.1 0 8).toInt (σ63.1 0 9).toInt (σ63.1 0 11).toInt by unfold zw_iw; omega)) rfl rfl (Nat.le_of_ble_eq_true rfl) ⟨Nat.le_of_ble_eq_true rfl, Nat.le_of_ble_eq_true rfl, rfl, rfl⟩ (fun σ78 h79 => ?_)
    obtain ⟨hO80, hAc81, g82, g83, g84, g85⟩ := h79
    have hA86 := zc_Ag.tr hA70 hAc81 rfl
    have hq : zw_M σ78 = zw_adv (zw_bM σ0) (zw_nb (zw_bM σ0) p1.toInt p2.toInt (zw_M σ0)) := by have h9 := g83; rw [zw_bM.ag hA70 rfl (fun _ => rfl)] at h9; exact h9.trans (congrArg (zw_adv (zw_bM σ0)) hm)
    refine zr_iload_n hB 0 dX9_number_56 rfl ?_
    exact zr_iret hG dX9_number_57 ⟨hO80, hA86, (show (1 ≤ (σ78.1 0 8).toInt ∨ (p1.toInt ≤ (σ63.1 0 13).toInt ∧ (σ63.1 0 13).toInt ≤ p2.toInt)) by omega), (show ((σ0.1 0 8).toInt = 0 ∨ 1 ≤ (σ78.1 0 8).toInt) by omega), hq, (Or.inl (by omega)), g84, g85⟩
  have hv := hV (by omega) (by omega)
  refine zr_aload_n hB 0 dX9_number_27 rfl ?_
  refine zr_geti' hG 0 13 (σ63.1 0 13) dX9_number_28 rfl wf_X9_143 rfl rfl ?_
  have b87 : 0 ≤ (σ63.1 0 13).toInt ∧ (σ63.1 0 13).toInt ≤ 99 := ⟨(hO65 0 13).1, (hO65 0 13).2.1⟩
  refine zr_i2l hB dX9_number_31 (fun l88 el88 => ?_)
  refine zr_iload_n hB 1 dX9_number_32 rfl ?_
  have v90 := And.intro (zn_lo p1) (zn_hi p1)
  refine zr_i2l hB dX9_number_33 (fun l89 el89 => ?_)
  refine zr_iload_n hB 2 dX9_number_34 rfl ?_
  have v92 := And.intro (zn_lo p2) (zn_hi p2)
  refine zr_i2l hB dX9_number_35 (fun l91 el91 => ?_)
  refine zr_callsi hG (rest := []) dX9_number_36 wm_X9_91 (c_M_in K hG.2.2.2.2.2.1 σ63 l88 l89 l91 hO65 ) rfl rfl (Nat.le_of_ble_eq_true rfl) ⟨Nat.le_of_ble_eq_true rfl, Nat.le_of_ble_eq_true rfl, rfl, rfl⟩ (fun r93 σ94 h95 => ?_)
  obtain ⟨rfl, r93q⟩ := h95
  have r93z := r93q.b
  refine zr_if_ne hB dX9_number_39 (tgt := 47) rfl (fun c96 => ?_) (fun c96 => ?_)
  · have q97 := r93q.t c96
    refine zr_aload_n hB 0 dX9_number_47 rfl ?_
    refine zr_geti' hG 0 13 (σ63.1 0 13) dX9_number_48 rfl wf_X9_143 rfl rfl ?_
    refine zr_istore_n hB dX9_number_51 rfl (by decide) (lv' := [(3, .int (σ63.1 0 13)), (0, .ref (zk K 0)), (1, .int p1), (2, .int p2)]) rfl ?_
    refine zr_aload_n hB 1 dX9_number_52 rfl ?_
    have hm : zw_M σ63 = zw_nb (zw_bM σ0) p1.toInt p2.toInt (zw_M σ0) := by exfalso; omega
    refine zr_callvn hG (rest := []) 0 dX9_number_53 wm_X9_161 rfl rfl (c_M_next K hG.2.2.2.2.2.1 σ63  hO65 (show zw_iw (σ63.1 0 8).toInt (σ63.1 0 9).toInt (σ63.1 0 11).toInt by unfold zw_iw; omega)) rfl rfl (Nat.le_of_ble_eq_true rfl) ⟨Nat.le_of_ble_eq_true rfl, Nat.le_of_ble_eq_true rfl, rfl, rfl⟩ (fun σ99 h100 => ?_)
    obtain ⟨hO101, hAc102, g103, g104, g105, g106⟩ := h100
    have hA107 := zc_Ag.tr hA70 hAc102 rfl
    have hq : zw_M σ99 = zw_adv (zw_bM σ0) (zw_nb (zw_bM σ0) p1.toInt p2.toInt (zw_M σ0)) := by have h9 := g104; rw [zw_bM.ag hA70 rfl (fun _ => rfl)] at h9; exact h9.trans (congrArg (zw_adv (zw_bM σ0)) hm)
    refine zr_iload_n hB 0 dX9_number_56 rfl ?_
    exact zr_iret hG dX9_number_57 ⟨hO101, hA107, (show (1 ≤ (σ99.1 0 8).toInt ∨ (p1.toInt ≤ (σ63.1 0 13).toInt ∧ (σ63.1 0 13).toInt ≤ p2.toInt)) by omega), (show ((σ0.1 0 8).toInt = 0 ∨ 1 ≤ (σ99.1 0 8).toInt) by omega), hq, (Or.inl (by omega)), g105, g106⟩
  have q108 := r93q.f c96
  refine zr_aload_n hB 0 dX9_number_42 rfl ?_
  refine zr_iconst hB dX9_number_43 rfl (fun c109 ec109 => ?_)
  refine zr_callvn hG (rest := []) 0 dX9_number_44 wm_X9_157 rfl rfl (c_M_fails K hG.2.2.2.2.2.1 σ63 c109 hO65 (by omega) (by omega)) rfl rfl (Nat.le_of_ble_eq_true rfl) ⟨Nat.le_of_ble_eq_true rfl, Nat.le_of_ble_eq_true rfl, rfl, rfl⟩ (fun σ111 h112 => ?_)
  obtain ⟨hO113, hAc114, g115, g116, g117⟩ := h112
  have hA118 := zc_Ag.tr hA70 hAc114 rfl
  have q119 : (σ111.1 0 11).toInt = (σ63.1 0 11).toInt := congrArg Int32.toInt (hAc114 0 11 rfl).1
  have q120 : (σ111.1 0 12).toInt = (σ63.1 0 12).toInt := congrArg Int32.toInt (hAc114 0 12 rfl).1
  have q121 : (σ111.1 0 13).toInt = (σ63.1 0 13).toInt := congrArg Int32.toInt (hAc114 0 13 rfl).1
  refine zr_aload_n hB 0 dX9_number_47 rfl ?_
  refine zr_geti' hG 0 13 (σ111.1 0 13) dX9_number_48 rfl wf_X9_143 rfl rfl ?_
  have b122 : 0 ≤ (σ111.1 0 13).toInt ∧ (σ111.1 0 13).toInt ≤ 99 := ⟨(hO113 0 13).1, (hO113 0 13).2.1⟩
  refine zr_istore_n hB dX9_number_51 rfl (by decide) (lv' := [(3, .int (σ111.1 0 13)), (0, .ref (zk K 0)), (1, .int p1), (2, .int p2)]) rfl ?_
  refine zr_aload_n hB 1 dX9_number_52 rfl ?_
  have hm : zw_M σ111 = zw_nb (zw_bM σ0) p1.toInt p2.toInt (zw_M σ0) := by exfalso; omega
  refine zr_callvn hG (rest := []) 0 dX9_number_53 wm_X9_161 rfl rfl (c_M_next K hG.2.2.2.2.2.1 σ111  hO113 (show zw_iw (σ111.1 0 8).toInt (σ111.1 0 9).toInt (σ111.1 0 11).toInt by unfold zw_iw; omega)) rfl rfl (Nat.le_of_ble_eq_true rfl) ⟨Nat.le_of_ble_eq_true rfl, Nat.le_of_ble_eq_true rfl, rfl, rfl⟩ (fun σ124 h125 => ?_)
  obtain ⟨hO126, hAc127, g128, g129, g130, g131⟩ := h125
  have hA132 := zc_Ag.tr hA118 hAc127 rfl
  have hq : zw_M σ124 = zw_adv (zw_bM σ0) (zw_nb (zw_bM σ0) p1.toInt p2.toInt (zw_M σ0)) := by have h9 := g129; rw [zw_bM.ag hA118 rfl (fun _ => rfl)] at h9; exact h9.trans (congrArg (zw_adv (zw_bM σ0)) hm)
  refine zr_iload_n hB 0 dX9_number_56 rfl ?_
  exact zr_iret hG dX9_number_57 ⟨hO126, hA132, (show (1 ≤ (σ124.1 0 8).toInt ∨ (p1.toInt ≤ (σ111.1 0 13).toInt ∧ (σ111.1 0 13).toInt ≤ p2.toInt)) by omega), (show ((σ0.1 0 8).toInt = 0 ∨ 1 ≤ (σ124.1 0 8).toInt) by omega), hq, (Or.inl (by omega)), g130, g131⟩
