def shM : List zc_H := [.inl (9, [some 1, none, none, some 2, some 3, some 4, none, none, none, none, none, none, none, none, some 5, some 6, some 7, none, some 8, some 9, some 10, none, some 11, some 12, some 13, some 14, some 15, some 16, none, some 17, some 18, some 19, some 20, some 21, some 22, some 23, some 24, some 25, some 26, none]), .inr (0, 16384, false), .inr (1, 64, false), .inr (1, 64, false), .inr (0, 120, false), .inr (0, 6, false), .inr (0, 22, false), .inr (0, 5, false), .inr (0, 6, false), .inr (0, 6, false), .inr (0, 6, false), .inr (0, 6, false), .inr (0, 6, false), .inr (0, 6, false), .inr (0, 64, false), .inr (1, 64, false), .inr (0, 64, false), .inr (0, 24, false), .inr (0, 24, false), .inr (0, 24, false), .inr (0, 24, false), .inr (0, 24, false), .inr (0, 24, false), .inr (0, 24, false), .inr (0, 4, false), .inr (0, 4, false), .inr (0, 256, false)]
def okM : zc_tb := [[(-2147483648, 2147483647, -2147483648), (0, 63, 0), (0, 200, 0), (-2147483648, 2147483647, -2147483648), (-2147483648, 2147483647, -2147483648), (-2147483648, 2147483647, -2147483648), (0, 120, 0), (0, 5, 0), (0, 5, 0), (0, 120, 0), (0, 120, 0), (0, 120, 0), (0, 3, 0), (-2147483648, 2147483647, -2147483648), (-2147483648, 2147483647, -2147483648), (-2147483648, 2147483647, -2147483648), (-2147483648, 2147483647, -2147483648), (0, 6, 0), (-2147483648, 2147483647, -2147483648), (-2147483648, 2147483647, -2147483648), (-2147483648, 2147483647, -2147483648), (0, 6, 0), (-2147483648, 2147483647, -2147483648), (-2147483648, 2147483647, -2147483648), (-2147483648, 2147483647, -2147483648), (-2147483648, 2147483647, -2147483648), (-2147483648, 2147483647, -2147483648), (-2147483648, 2147483647, -2147483648), (0, 24, 0), (-2147483648, 2147483647, -2147483648), (-2147483648, 2147483647, -2147483648), (-2147483648, 2147483647, -2147483648), (-2147483648, 2147483647, -2147483648), (-2147483648, 2147483647, -2147483648), (-2147483648, 2147483647, -2147483648), (-2147483648, 2147483647, -2147483648), (-2147483648, 2147483647, -2147483648), (-2147483648, 2147483647, -2147483648), (-2147483648, 2147483647, -2147483648), (0, 3, 0)], [(0, 1000, 0)], [(0, 1, 0)], [(0, 1, 0)], [(0, 255, 0)], [(0, 22, 0)], [], [(0, 30, 0)], [(0, 4, 0)], [], [], [(0, 4, 0)], [], [], [(-999, 999, -999)], [(0, 1, 0)], [(-999, 999, -999)], [(0, 3, 0)], [(0, 5, 0)], [(0, 63, 0)], [(0, 77, 0)], [(0, 999, 0)], [(0, 999, 0)], [(0, 1, 0)], [(-4, 2, -4)], [(0, 64, 0)], []]
def zc_hid (P : Prop) : Prop := P
/-- the tellers' numbers: where the kind isn't step, the first is at least 1 -/
def zm_T (σ : zc_S) : Prop := ∀ i : Int, 0 ≤ i → i < (σ.1 0 17).toInt → (σ.1 8 i.toNat).toInt = 2 ∨ 1 ≤ (σ.1 9 i.toNat).toInt
def zm_N (σ : zc_S) : Prop := ∀ i : Int, 0 ≤ i → i < (σ.1 0 21).toInt → (σ.1 11 i.toNat).toInt = 2 ∨ 1 ≤ (σ.1 12 i.toNat).toInt
theorem zm_T.ag {M : zc_ms} {σ σ' : zc_S} (h : zm_T σ) (hA : zc_Ag M σ σ') (h1 : zc_im M 0 17 = false) (h2 : ∀ j, zc_im M 8 j = false) (h3 : ∀ j, zc_im M 9 j = false) : zm_T σ' := by
  intro i h0 hi
  rw [(hA 0 17 h1).1] at hi
  rw [(hA 8 _ (h2 _)).1, (hA 9 _ (h3 _)).1]
  exact h i h0 hi
theorem zm_N.ag {M : zc_ms} {σ σ' : zc_S} (h : zm_N σ) (hA : zc_Ag M σ σ') (h1 : zc_im M 0 21 = false) (h2 : ∀ j, zc_im M 11 j = false) (h3 : ∀ j, zc_im M 12 j = false) : zm_N σ' := by
  intro i h0 hi
  rw [(hA 0 21 h1).1] at hi
  rw [(hA 11 _ (h2 _)).1, (hA 12 _ (h3 _)).1]
  exact h i h0 hi
theorem zm_N0 {σ : zc_S} (h : (σ.1 0 21).toInt ≤ 0) : zm_N σ := fun i h0 hi => by omega
theorem zm_N_add {σ : zc_S} {k f w n : Int32} (h : zm_N σ) (h0 : 0 ≤ (σ.1 0 21).toInt) (hn : n.toInt = (σ.1 0 21).toInt + 1) (hk : k.toInt = 2 ∨ 1 ≤ f.toInt) : zm_N (zc_u (zc_u (zc_u (zc_u σ 11 (σ.1 0 21).toInt.toNat k) 12 (σ.1 0 21).toInt.toNat f) 13 (σ.1 0 21).toInt.toNat w) 0 21 n) := by
  intro i hi0 hi
  have hi : i < n.toInt := hi
  by_cases e : i = (σ.1 0 21).toInt
  · subst e
    show ((if (11 : Nat) = 11 ∧ (σ.1 0 21).toInt.toNat = (σ.1 0 21).toInt.toNat then k else _) : Int32).toInt = 2 ∨ 1 ≤ ((if (12 : Nat) = 12 ∧ (σ.1 0 21).toInt.toNat = (σ.1 0 21).toInt.toNat then f else _) : Int32).toInt
    rw [if_pos ⟨rfl, rfl⟩, if_pos ⟨rfl, rfl⟩]
    exact hk
  · have e2 : ¬ i.toNat = (σ.1 0 21).toInt.toNat := by omega
    show ((if (11 : Nat) = 11 ∧ i.toNat = (σ.1 0 21).toInt.toNat then k else σ.1 11 i.toNat) : Int32).toInt = 2 ∨ 1 ≤ ((if (12 : Nat) = 12 ∧ i.toNat = (σ.1 0 21).toInt.toNat then f else σ.1 12 i.toNat) : Int32).toInt
    rw [if_neg (fun q => e2 q.2), if_neg (fun q => e2 q.2)]
    exact h i hi0 (by omega)
def zm_C (σ : zc_S) (n : Int) : Prop := ∀ i : Int, 0 ≤ i → i < n → σ.1 8 i.toNat = σ.1 11 i.toNat ∧ σ.1 9 i.toNat = σ.1 12 i.toNat
theorem zm_C0 {σ : zc_S} {n : Int} (h : n ≤ 0) : zm_C σ n := fun i h0 hi => by omega
theorem zm_C_add {σ : zc_S} {n m : Int} {j : Nat} {x y w : Int32} (h : zm_C σ n) (hj : j = n.toNat) (h0 : 0 ≤ n) (hm : m = n + 1) (hx : x = σ.1 11 j) (hy : y = σ.1 12 j) : zm_C (zc_u (zc_u (zc_u σ 8 j x) 9 j y) 10 j w) m := by
  intro i hi0 hi
  show (if (8 : Nat) = 8 ∧ i.toNat = j then x else σ.1 8 i.toNat) = σ.1 11 i.toNat ∧ (if (9 : Nat) = 9 ∧ i.toNat = j then y else σ.1 9 i.toNat) = σ.1 12 i.toNat
  by_cases e : i.toNat = j
  · rw [if_pos ⟨rfl, e⟩, if_pos ⟨rfl, e⟩, hx, hy, e]
    exact ⟨rfl, rfl⟩
  · rw [if_neg (fun q => e q.2), if_neg (fun q => e q.2)]
    exact h i hi0 (by omega)
theorem zm_TN {σ : zc_S} (h : zm_N σ) (hc : zm_C σ 6) (h1 : (σ.1 0 17).toInt = (σ.1 0 21).toInt) (h2 : (σ.1 0 21).toInt ≤ 6) : zm_T σ := by
  intro i hi0 hi
  rw [(hc i hi0 (by omega)).1, (hc i hi0 (by omega)).2]
  exact h i hi0 (by omega)
/-- how many of the n days from t on have a miss -/
def zm_mn (σ : zc_S) (t : Int) : Nat → Int
  | 0 => 0
  | n + 1 => zm_mn σ t n + (if (σ.1 15 (t + n).toNat).toInt = 0 then 0 else 1)
theorem zm_mn_s (σ : zc_S) (t : Int) {n m : Nat} (h : m = n + 1) : zm_mn σ t m = zm_mn σ t n + (if (σ.1 15 (t + n).toNat).toInt = 0 then 0 else 1) := by
  subst h; rfl
set_option maxHeartbeats 1000000 in
set_option maxRecDepth 100000 in
theorem c_M_in (K : zc_K) (hi : zc_inj shM K.2.2.2.1) (σ0 : zc_S) (p0 : Int64) (p2 : Int64) (p4 : Int64) (hO0 : zc_O okM σ0)  : zc_M shM K yX9_in cX9_in 6 (some .boolean) (zrm 0 0) σ0 [.long p0, .long p2, .long p4] (zc_I (fun r9 σ9 => σ0 = σ9 ∧ zc_if r9 (p2.toInt ≤ p0.toInt ∧ p0.toInt ≤ p4.toInt))) := by
  refine zc_start RX9 hi pfX9_in rfl (Nat.le_of_ble_eq_true rfl) ?_
  intro G hG
  have hB := hG.1
  show zc_V 6 K G (zc_D shM K G σ0) [(0, .long p0), (2, .long p2), (4, .long p4)] 0 []
  refine zr_lload_n hB 0 dX9_in_0 rfl ?_
  refine zr_lload_n hB 1 dX9_in_1 rfl ?_
  refine zr_lcmp_lt hB dX9_in_2 dX9_in_3 (tgt := 17) rfl (fun c1 => ?_) (fun c1 => ?_)
  · refine zr_iconst hB dX9_in_17 rfl (fun c2 ec2 => ?_)
    exact zr_zret hG dX9_in_18 (by omega) (by omega) ⟨rfl, zc_if.mf (by omega) (by omega)⟩
  refine zr_lload_n hB 0 dX9_in_6 rfl ?_
  refine zr_lload hB 2 dX9_in_7 rfl ?_
  refine zr_lcmp_gt hB dX9_in_9 dX9_in_10 (tgt := 17) rfl (fun c3 => ?_) (fun c3 => ?_)
  · refine zr_iconst hB dX9_in_17 rfl (fun c4 ec4 => ?_)
    exact zr_zret hG dX9_in_18 (by omega) (by omega) ⟨rfl, zc_if.mf (by omega) (by omega)⟩
  refine zr_iconst hB dX9_in_13 rfl (fun c5 ec5 => ?_)
  refine zr_goto hB dX9_in_14 (tgt := 18) rfl ?_
  exact zr_zret hG dX9_in_18 (by omega) (by omega) ⟨rfl, zc_if.mt (by omega) (by omega)⟩

set_option maxHeartbeats 1000000 in
set_option maxRecDepth 100000 in
theorem c_M_isShop (K : zc_K) (hi : zc_inj shM K.2.2.2.1) (σ0 : zc_S) (p0 : Int32) (hO0 : zc_O okM σ0)  : zc_M shM K yX9_isShop cX9_isShop 1 (some .boolean) (zrm 1 25) σ0 [.int p0] (zc_I (fun r9 σ9 => σ0 = σ9 ∧ zc_if r9 (0 ≤ p0.toInt ∧ p0.toInt ≤ 3))) := by
  refine zc_start RX9 hi pfX9_isShop rfl (Nat.le_of_ble_eq_true rfl) ?_
  intro G hG
  have hB := hG.1
  show zc_V 1 K G (zc_D shM K G σ0) [(0, .int p0)] 0 []
  refine zr_iload_n hB 0 dX9_isShop_0 rfl ?_
  have v2 := And.intro (zn_lo p0) (zn_hi p0)
  refine zr_i2l hB dX9_isShop_1 (fun l1 el1 => ?_)
  refine zr_lconst hB dX9_isShop_2 (m := 0) rfl (fun c3 ec3 => ?_)
  refine zr_ldc2 hB dX9_isShop_3 wc_X9_89 (n := 3) rfl (fun c4 ec4 => ?_)
  refine zr_callsi hG (rest := []) dX9_isShop_6 wm_X9_91 (c_M_in K hG.2.2.2.2.2.1 σ0 l1 c3 c4 hO0 ) rfl rfl (Nat.le_of_ble_eq_true rfl) ⟨Nat.le_of_ble_eq_true rfl, Nat.le_of_ble_eq_true rfl, rfl, rfl⟩ (fun r5 σ6 h7 => ?_)
  obtain ⟨rfl, r5q⟩ := h7
  have r5z := r5q.b
  exact zr_zret hG dX9_isShop_9 (by omega) (by omega) ⟨rfl, zc_if.to r5q ⟨fun hq9 => by omega, fun hq9 => by omega⟩⟩

set_option maxHeartbeats 1000000 in
set_option maxRecDepth 100000 in
theorem c_M_isDay (K : zc_K) (hi : zc_inj shM K.2.2.2.1) (σ0 : zc_S) (p0 : Int32) (hO0 : zc_O okM σ0)  : zc_M shM K yX9_isDay cX9_isDay 1 (some .boolean) (zrm 1 25) σ0 [.int p0] (zc_I (fun r9 σ9 => σ0 = σ9 ∧ zc_if r9 (0 ≤ p0.toInt ∧ p0.toInt ≤ 63))) := by
  refine zc_start RX9 hi pfX9_isDay rfl (Nat.le_of_ble_eq_true rfl) ?_
  intro G hG
  have hB := hG.1
  show zc_V 1 K G (zc_D shM K G σ0) [(0, .int p0)] 0 []
  refine zr_iload_n hB 0 dX9_isDay_0 rfl ?_
  have v2 := And.intro (zn_lo p0) (zn_hi p0)
  refine zr_i2l hB dX9_isDay_1 (fun l1 el1 => ?_)
  refine zr_lconst hB dX9_isDay_2 (m := 0) rfl (fun c3 ec3 => ?_)
  refine zr_ldc2 hB dX9_isDay_3 wc_X9_95 (n := 63) rfl (fun c4 ec4 => ?_)
  refine zr_callsi hG (rest := []) dX9_isDay_6 wm_X9_91 (c_M_in K hG.2.2.2.2.2.1 σ0 l1 c3 c4 hO0 ) rfl rfl (Nat.le_of_ble_eq_true rfl) ⟨Nat.le_of_ble_eq_true rfl, Nat.le_of_ble_eq_true rfl, rfl, rfl⟩ (fun r5 σ6 h7 => ?_)
  obtain ⟨rfl, r5q⟩ := h7
  have r5z := r5q.b
  exact zr_zret hG dX9_isDay_9 (by omega) (by omega) ⟨rfl, zc_if.to r5q ⟨fun hq9 => by omega, fun hq9 => by omega⟩⟩

set_option maxHeartbeats 1000000 in
set_option maxRecDepth 100000 in
theorem c_M_isAhead (K : zc_K) (hi : zc_inj shM K.2.2.2.1) (σ0 : zc_S) (p0 : Int32) (hO0 : zc_O okM σ0)  : zc_M shM K yX9_isAhead cX9_isAhead 1 (some .boolean) (zrm 1 25) σ0 [.int p0] (zc_I (fun r9 σ9 => σ0 = σ9 ∧ zc_if r9 (1 ≤ p0.toInt ∧ p0.toInt ≤ 14))) := by
  refine zc_start RX9 hi pfX9_isAhead rfl (Nat.le_of_ble_eq_true rfl) ?_
  intro G hG
  have hB := hG.1
  show zc_V 1 K G (zc_D shM K G σ0) [(0, .int p0)] 0 []
  refine zr_iload_n hB 0 dX9_isAhead_0 rfl ?_
  have v2 := And.intro (zn_lo p0) (zn_hi p0)
  refine zr_i2l hB dX9_isAhead_1 (fun l1 el1 => ?_)
  refine zr_lconst hB dX9_isAhead_2 (m := 1) rfl (fun c3 ec3 => ?_)
  refine zr_ldc2 hB dX9_isAhead_3 wc_X9_217 (n := 14) rfl (fun c4 ec4 => ?_)
  refine zr_callsi hG (rest := []) dX9_isAhead_6 wm_X9_91 (c_M_in K hG.2.2.2.2.2.1 σ0 l1 c3 c4 hO0 ) rfl rfl (Nat.le_of_ble_eq_true rfl) ⟨Nat.le_of_ble_eq_true rfl, Nat.le_of_ble_eq_true rfl, rfl, rfl⟩ (fun r5 σ6 h7 => ?_)
  obtain ⟨rfl, r5q⟩ := h7
  have r5z := r5q.b
  exact zr_zret hG dX9_isAhead_9 (by omega) (by omega) ⟨rfl, zc_if.to r5q ⟨fun hq9 => by omega, fun hq9 => by omega⟩⟩

set_option maxHeartbeats 1000000 in
set_option maxRecDepth 100000 in
theorem c_M_areDays (K : zc_K) (hi : zc_inj shM K.2.2.2.1) (σ0 : zc_S) (p0 : Int32) (p1 : Int32) (hO0 : zc_O okM σ0)  : zc_M shM K yX9_areDays cX9_areDays 2 (some .boolean) (zrm 2 45) σ0 [.int p0, .int p1] (zc_I (fun r9 σ9 => σ0 = σ9 ∧ zc_if r9 (0 ≤ p0.toInt ∧ p0.toInt ≤ p1.toInt ∧ p1.toInt ≤ 63 ∧ p0.toInt ≤ 63 ∧ 0 ≤ p1.toInt))) := by
  refine zc_start RX9 hi pfX9_areDays rfl (Nat.le_of_ble_eq_true rfl) ?_
  intro G hG
  have hB := hG.1
  show zc_V 2 K G (zc_D shM K G σ0) [(0, .int p0), (1, .int p1)] 0 []
  refine zr_iload_n hB 0 dX9_areDays_0 rfl ?_
  refine zr_callsi hG (rest := []) dX9_areDays_1 wm_X9_97 (c_M_isDay K hG.2.2.2.2.2.1 σ0 p0 hO0 ) rfl rfl (Nat.le_of_ble_eq_true rfl) ⟨Nat.le_of_ble_eq_true rfl, Nat.le_of_ble_eq_true rfl, rfl, rfl⟩ (fun r1 σ2 h3 => ?_)
  obtain ⟨rfl, r1q⟩ := h3
  have r1z := r1q.b
  refine zr_if_eq hB dX9_areDays_4 (tgt := 24) rfl (fun c4 => ?_) (fun c4 => ?_)
  · have q5 := r1q.f c4
    refine zr_iconst hB dX9_areDays_24 rfl (fun c6 ec6 => ?_)
    exact zr_zret hG dX9_areDays_25 (by omega) (by omega) ⟨rfl, zc_if.mf (by omega) (by omega)⟩
  have q7 := r1q.t c4
  refine zr_iload_n hB 1 dX9_areDays_7 rfl ?_
  have v9 := And.intro (zn_lo p1) (zn_hi p1)
  refine zr_i2l hB dX9_areDays_8 (fun l8 el8 => ?_)
  refine zr_iload_n hB 0 dX9_areDays_9 rfl ?_
  refine zr_i2l hB dX9_areDays_10 (fun l10 el10 => ?_)
  refine zr_ldc2 hB dX9_areDays_11 wc_X9_95 (n := 63) rfl (fun c11 ec11 => ?_)
  refine zr_callsi hG (rest := []) dX9_areDays_14 wm_X9_91 (c_M_in K hG.2.2.2.2.2.1 σ0 l8 l10 c11 hO0 ) rfl rfl (Nat.le_of_ble_eq_true rfl) ⟨Nat.le_of_ble_eq_true rfl, Nat.le_of_ble_eq_true rfl, rfl, rfl⟩ (fun r12 σ13 h14 => ?_)
  obtain ⟨rfl, r12q⟩ := h14
  have r12z := r12q.b
  refine zr_if_eq hB dX9_areDays_17 (tgt := 24) rfl (fun c15 => ?_) (fun c15 => ?_)
  · have q16 := r12q.f c15
    refine zr_iconst hB dX9_areDays_24 rfl (fun c17 ec17 => ?_)
    exact zr_zret hG dX9_areDays_25 (by omega) (by omega) ⟨rfl, zc_if.mf (by omega) (by omega)⟩
  have q18 := r12q.t c15
  refine zr_iconst hB dX9_areDays_20 rfl (fun c19 ec19 => ?_)
  refine zr_goto hB dX9_areDays_21 (tgt := 25) rfl ?_
  exact zr_zret hG dX9_areDays_25 (by omega) (by omega) ⟨rfl, zc_if.mt (by omega) (by omega)⟩

set_option maxHeartbeats 1000000 in
set_option maxRecDepth 100000 in
theorem c_M_knownOn (K : zc_K) (hi : zc_inj shM K.2.2.2.1) (σ0 : zc_S) (p1 : Int32) (p2 : Int32) (p3 : Int32) (hO0 : zc_O okM σ0) (h1a : 0 ≤ p1.toInt) (h1b : p1.toInt ≤ 3) (h3a : 0 ≤ p3.toInt) (h3b : p3.toInt ≤ 63) : zc_M shM K yX9_knownOn cX9_knownOn 4 (some .int) (zrm 2 45) σ0 [.ref (zk K 0), .int p1, .int p2, .int p3] (zc_I (fun r9 σ9 => σ0 = σ9 ∧ (-1) ≤ r9.toInt ∧ r9.toInt ≤ 999 ∧ ((¬ (0 ≤ p2.toInt ∧ p2.toInt ≤ 63) ∧ r9.toInt = -1) ∨ ((0 ≤ p2.toInt ∧ p2.toInt ≤ 63) ∧ r9.toInt = (σ0.1 1 (256 * p3.toInt + 64 * p1.toInt + p2.toInt).toNat).toInt - 1)))) := by
  refine zc_start RX9 hi pfX9_knownOn rfl (Nat.le_of_ble_eq_true rfl) ?_
  intro G hG
  have hB := hG.1
  show zc_V 4 K G (zc_D shM K G σ0) [(0, .ref (zk K 0)), (1, .int p1), (2, .int p2), (3, .int p3)] 0 []
  refine zr_iload_n hB 2 dX9_knownOn_0 rfl ?_
  refine zr_callsi hG (rest := []) dX9_knownOn_1 wm_X9_97 (c_M_isDay K hG.2.2.2.2.2.1 σ0 p2 hO0 ) rfl rfl (Nat.le_of_ble_eq_true rfl) ⟨Nat.le_of_ble_eq_true rfl, Nat.le_of_ble_eq_true rfl, rfl, rfl⟩ (fun r1 σ2 h3 => ?_)
  obtain ⟨rfl, r1q⟩ := h3
  have r1z := r1q.b
  refine zr_if_eq hB dX9_knownOn_4 (tgt := 29) rfl (fun c4 => ?_) (fun c4 => ?_)
  · have q5 := r1q.f c4
    refine zr_iconst hB dX9_knownOn_29 rfl (fun c6 ec6 => ?_)
    exact zr_iret hG dX9_knownOn_30 ⟨rfl, by omega, by omega, (by omega)⟩
  have q7 := r1q.t c4
  refine zr_aload_n hB 0 dX9_knownOn_7 rfl ?_
  refine zr_getr hG 0 0 dX9_knownOn_8 rfl wf_X9_7 rfl ?_
  refine zr_sipush hB dX9_knownOn_11 rfl (fun c8 ec8 => ?_)
  refine zr_iload_n hB 3 dX9_knownOn_14 rfl ?_
  refine zr_imuld hB dX9_knownOn_15 ec8 (by omega) (by omega) (fun x9 ex9 => ?_)
  refine zr_bipush hB dX9_knownOn_16 rfl (fun c10 ec10 => ?_)
  refine zr_iload_n hB 1 dX9_knownOn_18 rfl ?_
  refine zr_imuld hB dX9_knownOn_19 ec10 (by omega) (by omega) (fun x11 ex11 => ?_)
  refine zr_iadd hB dX9_knownOn_20 (by omega) (by omega) (fun x12 ex12 => ?_)
  refine zr_iload_n hB 2 dX9_knownOn_21 rfl ?_
  refine zr_iadd hB dX9_knownOn_22 (by omega) (by omega) (fun x13 ex13 => ?_)
  refine zr_iald hG 1 dX9_knownOn_23 rfl (by omega) (by omega) (fun x14 ex14 => ?_)
  have bx14 : 0 ≤ x14.toInt ∧ x14.toInt ≤ 1000 := by rw [ex14]; exact ⟨(hO0 1 _).1, (hO0 1 _).2.1⟩
  refine zr_iconst hB dX9_knownOn_24 rfl (fun c15 ec15 => ?_)
  refine zr_isub hB dX9_knownOn_25 (by omega) (by omega) (fun x16 ex16 => ?_)
  refine zr_goto hB dX9_knownOn_26 (tgt := 30) rfl ?_
  exact zr_iret hG dX9_knownOn_30 ⟨rfl, by omega, by omega, (by have hq9 := congrArg Int32.toInt ex14; rw [show x13.toInt.toNat = (256 * p3.toInt + 64 * p1.toInt + p2.toInt).toNat by omega] at hq9; omega)⟩

def m_M_now : zc_ms := [(0, some 1)]
set_option maxHeartbeats 1000000 in
set_option maxRecDepth 100000 in
theorem c_M_now (K : zc_K) (hi : zc_inj shM K.2.2.2.1) (σ0 : zc_S) (p1 : Int32) (hO0 : zc_O okM σ0)  : zc_M shM K yX9_now cX9_now 3 (some .int) (zrm 1 25) σ0 [.ref (zk K 0), .int p1] (zc_I (fun r9 σ9 => zc_O okM σ9 ∧ zc_Ag m_M_now σ0 σ9 ∧ (-1) ≤ r9.toInt ∧ r9.toInt ≤ 63 ∧ (((p1.toInt < 0 ∨ p1.toInt < (σ0.1 0 1).toInt ∨ 63 < p1.toInt) ∧ r9.toInt = -1 ∧ (σ9.1 0 1).toInt = (σ0.1 0 1).toInt) ∨ (0 ≤ p1.toInt ∧ (σ0.1 0 1).toInt ≤ p1.toInt ∧ p1.toInt ≤ 63 ∧ r9.toInt = (σ0.1 0 1).toInt ∧ (σ9.1 0 1).toInt = p1.toInt)))) := by
  refine zc_start RX9 hi pfX9_now rfl (Nat.le_of_ble_eq_true rfl) ?_
  intro G hG
  have hB := hG.1
  have hA0 : zc_Ag m_M_now σ0 σ0 := zc_Ag.rf
  show zc_V 3 K G (zc_D shM K G σ0) [(0, .ref (zk K 0)), (1, .int p1)] 0 []
  refine zr_iload_n hB 1 dX9_now_0 rfl ?_
  have v2 := And.intro (zn_lo p1) (zn_hi p1)
  refine zr_i2l hB dX9_now_1 (fun l1 el1 => ?_)
  refine zr_aload_n hB 0 dX9_now_2 rfl ?_
  refine zr_geti' hG 0 1 (σ0.1 0 1) dX9_now_3 rfl wf_X9_101 rfl rfl ?_
  have b3 : 0 ≤ (σ0.1 0 1).toInt ∧ (σ0.1 0 1).toInt ≤ 63 := ⟨(hO0 0 1).1, (hO0 0 1).2.1⟩
  refine zr_i2l hB dX9_now_6 (fun l4 el4 => ?_)
  refine zr_ldc2 hB dX9_now_7 wc_X9_95 (n := 63) rfl (fun c5 ec5 => ?_)
  refine zr_callsi hG (rest := []) dX9_now_10 wm_X9_91 (c_M_in K hG.2.2.2.2.2.1 σ0 l1 l4 c5 hO0 ) rfl rfl (Nat.le_of_ble_eq_true rfl) ⟨Nat.le_of_ble_eq_true rfl, Nat.le_of_ble_eq_true rfl, rfl, rfl⟩ (fun r6 σ7 h8 => ?_)
  obtain ⟨rfl, r6q⟩ := h8
  have r6z := r6q.b
  refine zr_if_ne hB dX9_now_13 (tgt := 18) rfl (fun c9 => ?_) (fun c9 => ?_)
  · have q10 := r6q.t c9
    refine zr_aload_n hB 0 dX9_now_18 rfl ?_
    refine zr_geti' hG 0 1 (σ0.1 0 1) dX9_now_19 rfl wf_X9_101 rfl rfl ?_
    refine zr_istore_n hB dX9_now_22 rfl (by decide) (lv' := [(2, .int (σ0.1 0 1)), (0, .ref (zk K 0)), (1, .int p1)]) rfl ?_
    refine zr_aload_n hB 1 dX9_now_23 rfl ?_
    refine zr_iload_n hB 2 dX9_now_24 rfl ?_
    refine zr_puti hG 0 1 dX9_now_25 rfl wp_X9_101 rfl ?_
    have hOw11 := zc_O.u hO0 0 1 (v := p1) (show 0 ≤ p1.toInt by omega) (show p1.toInt ≤ 63 by omega) (Or.inr (show 0 ≤ p1.toInt by omega))
    have hAw11 := zc_Ag.u hA0 0 1 p1 rfl
    refine zr_iload_n hB 0 dX9_now_28 rfl ?_
    exact zr_iret hG dX9_now_29 ⟨hOw11, hAw11, by omega, by omega, (show (((p1.toInt < 0 ∨ p1.toInt < (σ0.1 0 1).toInt ∨ 63 < p1.toInt) ∧ (σ0.1 0 1).toInt = -1 ∧ p1.toInt = (σ0.1 0 1).toInt) ∨ (0 ≤ p1.toInt ∧ (σ0.1 0 1).toInt ≤ p1.toInt ∧ p1.toInt ≤ 63 ∧ (σ0.1 0 1).toInt = (σ0.1 0 1).toInt ∧ p1.toInt = p1.toInt)) by omega)⟩
  have q12 := r6q.f c9
  refine zr_iconst hB dX9_now_16 rfl (fun c13 ec13 => ?_)
  exact zr_iret hG dX9_now_17 ⟨hO0, hA0, by omega, by omega, (show (((p1.toInt < 0 ∨ p1.toInt < (σ0.1 0 1).toInt ∨ 63 < p1.toInt) ∧ c13.toInt = -1 ∧ (σ0.1 0 1).toInt = (σ0.1 0 1).toInt) ∨ (0 ≤ p1.toInt ∧ (σ0.1 0 1).toInt ≤ p1.toInt ∧ p1.toInt ≤ 63 ∧ c13.toInt = (σ0.1 0 1).toInt ∧ (σ0.1 0 1).toInt = p1.toInt)) by omega)⟩

def m_M_tellFigure : zc_ms := [(1, none), (0, some 2)]
set_option maxHeartbeats 1000000 in
set_option maxRecDepth 100000 in
theorem c_M_tellFigure (K : zc_K) (hi : zc_inj shM K.2.2.2.1) (σ0 : zc_S) (p1 : Int32) (p2 : Int32) (p3 : Int32) (hO0 : zc_O okM σ0) (h1a : 0 ≤ p1.toInt) (h1b : p1.toInt ≤ 3) (h2a : 0 ≤ p2.toInt) (h2b : p2.toInt ≤ 63) (h3a : (-1) ≤ p3.toInt) (h3b : p3.toInt ≤ 999) (hx0 : (σ0.1 0 2).toInt < 200) : zc_M shM K yX9_tellFigure cX9_tellFigure 5 none (zrm 0 0) σ0 [.ref (zk K 0), .int p1, .int p2, .int p3] (zc_N (fun σ9 => zc_O okM σ9 ∧ zc_Ag m_M_tellFigure σ0 σ9 ∧ ((σ9.1 0 2).toInt = (σ0.1 0 2).toInt + 1 ∧ zy_I σ0 σ9 (64 * p1.toInt + p2.toInt).toNat (p3.toInt + 1) (σ0.1 0 1).toInt 64))) := by
  refine zc_start RX9 hi pfX9_tellFigure rfl (Nat.le_of_ble_eq_true rfl) ?_
  intro G hG
  have hB := hG.1
  have hA0 : zc_Ag m_M_tellFigure σ0 σ0 := zc_Ag.rf
  show zc_V 5 K G (zc_D shM K G σ0) [(0, .ref (zk K 0)), (1, .int p1), (2, .int p2), (3, .int p3)] 0 []
  refine zr_aload_n hB 0 dX9_tellFigure_0 rfl ?_
  refine zr_geti' hG 0 1 (σ0.1 0 1) dX9_tellFigure_1 rfl wf_X9_101 rfl rfl ?_
  have b1 : 0 ≤ (σ0.1 0 1).toInt ∧ (σ0.1 0 1).toInt ≤ 63 := ⟨(hO0 0 1).1, (hO0 0 1).2.1⟩
  refine zr_istore hB dX9_tellFigure_4 (by decide) (lv' := [(4, .int (σ0.1 0 1)), (0, .ref (zk K 0)), (1, .int p1), (2, .int p2), (3, .int p3)]) rfl ?_
  have L6_6 : ∀ (n6 : Nat) (σ3 : zc_S) (y4_2 : Int32), zc_O okM σ3 → zc_Ag m_M_tellFigure σ0 σ3 → 0 ≤ y4_2.toInt → y4_2.toInt ≤ 64 → (σ0.1 0 1).toInt ≤ y4_2.toInt → (σ3.1 0 2).toInt = (σ0.1 0 2).toInt → zy_I σ0 σ3 (64 * p1.toInt + p2.toInt).toNat (p3.toInt + 1) (σ0.1 0 1).toInt y4_2.toInt → 64 - y4_2.toInt < (n6 : Int) → zc_V 5 K G (zc_D shM K G σ3) [(0, .ref (zk K 0)), (1, .int p1), (2, .int p2), (3, .int p3), (4, .int y4_2)] 6 [] := by
    intro n6
    induction n6 with
    | zero => intro σ3 y4_2 hO3 hA3 y4_2a y4_2b e4 e5 hzy hn6; exfalso; omega
    | succ n6 ih6 =>
      intro σ3 y4_2 hO3 hA3 y4_2a y4_2b e4 e5 hzy hn6
      refine zr_iload hB 4 dX9_tellFigure_6 rfl ?_
      refine zr_bipush hB dX9_tellFigure_8 rfl (fun c7 ec7 => ?_)
      refine zr_icmp_ge hB dX9_tellFigure_10 (tgt := 40) rfl (fun c8 => ?_) (fun c8 => ?_)
      · refine zr_aload_n hB 0 dX9_tellFigure_40 rfl ?_
        refine zr_dup hB dX9_tellFigure_41 rfl ?_
        refine zr_geti' hG 0 2 (σ3.1 0 2) dX9_tellFigure_42 rfl wf_X9_105 rfl rfl ?_
        have b9 : 0 ≤ (σ3.1 0 2).toInt ∧ (σ3.1 0 2).toInt ≤ 200 := ⟨(hO3 0 2).1, (hO3 0 2).2.1⟩
        refine zr_iconst hB dX9_tellFigure_45 rfl (fun c10 ec10 => ?_)
        refine zr_iadd hB dX9_tellFigure_46 (by omega) (by omega) (fun x11 ex11 => ?_)
        refine zr_puti hG 0 2 dX9_tellFigure_47 rfl wp_X9_105 rfl ?_
        have hOw12 := zc_O.u hO3 0 2 (v := x11) (show 0 ≤ x11.toInt by omega) (show x11.toInt ≤ 200 by omega) (Or.inr (show 0 ≤ x11.toInt by omega))
        have hAw12 := zc_Ag.u hA3 0 2 x11 rfl
        exact zr_vret hG dX9_tellFigure_50 ⟨hOw12, hAw12, (⟨(show x11.toInt = (σ0.1 0 2).toInt + 1 by omega), by have q9 := zy_In (k := 0) (j := 2) (x := x11) hzy (by decide); rw [show y4_2.toInt = 64 by omega] at q9; exact q9⟩)⟩
      refine zr_aload_n hB 0 dX9_tellFigure_13 rfl ?_
      refine zr_getr hG 0 0 dX9_tellFigure_14 rfl wf_X9_7 rfl ?_
      refine zr_sipush hB dX9_tellFigure_17 rfl (fun c13 ec13 => ?_)
      refine zr_iload hB 4 dX9_tellFigure_20 rfl ?_
      refine zr_imuld hB dX9_tellFigure_22 ec13 (by omega) (by omega) (fun x14 ex14 => ?_)
      refine zr_bipush hB dX9_tellFigure_23 rfl (fun c15 ec15 => ?_)
      refine zr_iload_n hB 1 dX9_tellFigure_25 rfl ?_
      refine zr_imuld hB dX9_tellFigure_26 ec15 (by omega) (by omega) (fun x16 ex16 => ?_)
      refine zr_iadd hB dX9_tellFigure_27 (by omega) (by omega) (fun x17 ex17 => ?_)
      refine zr_iload_n hB 2 dX9_tellFigure_28 rfl ?_
      refine zr_iadd hB dX9_tellFigure_29 (by omega) (by omega) (fun x18 ex18 => ?_)
      refine zr_iload_n hB 3 dX9_tellFigure_30 rfl ?_
      refine zr_iconst hB dX9_tellFigure_31 rfl (fun c19 ec19 => ?_)
      refine zr_iadd hB dX9_tellFigure_32 (by omega) (by omega) (fun x20 ex20 => ?_)
      refine zr_iast hG 1 dX9_tellFigure_33 rfl (by omega) (by omega)  ?_
      have hOw21 := zc_O.u hO3 1 x18.toInt.toNat (v := x20) (show 0 ≤ x20.toInt by omega) (show x20.toInt ≤ 1000 by omega) (Or.inr (show 0 ≤ x20.toInt by omega))
      have hAw21 := zc_Ag.u hA3 1 x18.toInt.toNat x20 rfl
      refine zr_iinc hB 4 dX9_tellFigure_34 rfl (by decide) rfl (by omega) (by omega) (fun x22 ex22 lv' hlv => ?_)
      obtain rfl : [(4, .int x22), (0, .ref (zk K 0)), (1, .int p1), (2, .int p2), (3, .int p3)] = lv' := hlv
      refine zr_goto hB dX9_tellFigure_37 (tgt := 6) rfl ?_
      have b23 : 0 ≤ (σ3.1 0 2).toInt ∧ (σ3.1 0 2).toInt ≤ 200 := ⟨(hOw21 0 2).1, (hOw21 0 2).2.1⟩
      exact zc_sub [1, 2, 3, 4, 0] rfl (ih6 (zc_u σ3 1 x18.toInt.toNat x20) x22 hOw21 hAw21 (by omega) (by omega) (show (σ0.1 0 1).toInt ≤ x22.toInt by omega) (show (σ3.1 0 2).toInt = (σ0.1 0 2).toInt by omega) (show zy_I σ0 (zc_u σ3 1 x18.toInt.toNat x20) (64 * p1.toInt + p2.toInt).toNat (p3.toInt + 1) (σ0.1 0 1).toInt x22.toInt by have q9 := zy_Iu (q := x18.toInt.toNat) (x := x20) hzy (by omega) (by omega) (by omega) (by omega) (by omega); rw [show x22.toInt = y4_2.toInt + 1 by omega]; exact q9) (by omega))
  have b24 : 0 ≤ (σ0.1 0 2).toInt ∧ (σ0.1 0 2).toInt ≤ 200 := ⟨(hO0 0 2).1, (hO0 0 2).2.1⟩
  exact zc_sub [1, 2, 3, 4, 0] rfl (L6_6 66 σ0 (σ0.1 0 1) hO0 hA0 (by omega) (by omega) (show (σ0.1 0 1).toInt ≤ (σ0.1 0 1).toInt by omega) (show (σ0.1 0 2).toInt = (σ0.1 0 2).toInt by omega) (show zy_I σ0 σ0 (64 * p1.toInt + p2.toInt).toNat (p3.toInt + 1) (σ0.1 0 1).toInt (σ0.1 0 1).toInt by exact zy_I0 (by omega)) (by omega))

set_option maxHeartbeats 1000000 in
set_option maxRecDepth 100000 in
theorem c_M_orNone (K : zc_K) (hi : zc_inj shM K.2.2.2.1) (σ0 : zc_S) (p0 : Int32) (hO0 : zc_O okM σ0) (h0a : (-1) ≤ p0.toInt) (h0b : p0.toInt ≤ 999) : zc_M shM K yX9_orNone cX9_orNone 1 (some .int) (zrm 0 0) σ0 [.int p0] (zc_I (fun r9 σ9 => σ0 = σ9 ∧ (-4) ≤ r9.toInt ∧ r9.toInt ≤ 999 ∧ ((p0.toInt < 0 ∧ r9.toInt = -4) ∨ (0 ≤ p0.toInt ∧ r9.toInt = p0.toInt)))) := by
  refine zc_start RX9 hi pfX9_orNone rfl (Nat.le_of_ble_eq_true rfl) ?_
  intro G hG
  have hB := hG.1
  show zc_V 1 K G (zc_D shM K G σ0) [(0, .int p0)] 0 []
  refine zr_iload_n hB 0 dX9_orNone_0 rfl ?_
  refine zr_if_ge hB dX9_orNone_1 (tgt := 9) rfl (fun c1 => ?_) (fun c1 => ?_)
  · refine zr_iload_n hB 0 dX9_orNone_9 rfl ?_
    exact zr_iret hG dX9_orNone_10 ⟨rfl, by omega, by omega, by omega⟩
  refine zr_bipush hB dX9_orNone_4 rfl (fun c2 ec2 => ?_)
  refine zr_goto hB dX9_orNone_6 (tgt := 10) rfl ?_
  exact zr_iret hG dX9_orNone_10 ⟨rfl, by omega, by omega, by omega⟩

def m_M_figure : zc_ms := [(1, none), (0, some 2)]
set_option maxHeartbeats 1000000 in
set_option maxRecDepth 100000 in
theorem c_M_figure (K : zc_K) (hi : zc_inj shM K.2.2.2.1) (σ0 : zc_S) (p1 : Int32) (p2 : Int32) (p3 : Int32) (hO0 : zc_O okM σ0)  : zc_M shM K yX9_figure cX9_figure 5 (some .int) (zrm 3 68) σ0 [.ref (zk K 0), .int p1, .int p2, .int p3] (zc_I (fun r9 σ9 => zc_O okM σ9 ∧ zc_Ag m_M_figure σ0 σ9 ∧ (-7) ≤ r9.toInt ∧ r9.toInt ≤ 999 ∧ ((¬ (0 ≤ p1.toInt ∧ p1.toInt ≤ 3 ∧ 0 ≤ p2.toInt ∧ p2.toInt ≤ 63 ∧ p2.toInt ≤ (σ0.1 0 1).toInt ∧ (p3.toInt = -4 ∨ (0 ≤ p3.toInt ∧ p3.toInt ≤ 999))) ∧ r9.toInt = -5 ∧ σ9 = σ0) ∨ ((0 ≤ p1.toInt ∧ p1.toInt ≤ 3 ∧ 0 ≤ p2.toInt ∧ p2.toInt ≤ 63 ∧ p2.toInt ≤ (σ0.1 0 1).toInt ∧ (p3.toInt = -4 ∨ (0 ≤ p3.toInt ∧ p3.toInt ≤ 999))) ∧ (σ0.1 0 2).toInt = 200 ∧ r9.toInt = -7 ∧ σ9 = σ0) ∨ ((0 ≤ p1.toInt ∧ p1.toInt ≤ 3 ∧ 0 ≤ p2.toInt ∧ p2.toInt ≤ 63 ∧ p2.toInt ≤ (σ0.1 0 1).toInt ∧ (p3.toInt = -4 ∨ (0 ≤ p3.toInt ∧ p3.toInt ≤ 999))) ∧ ¬ (σ0.1 0 2).toInt = 200 ∧ (((σ0.1 1 (256 * (σ0.1 0 1).toInt + 64 * p1.toInt + p2.toInt).toNat).toInt ≤ 0 ∧ r9.toInt = -4) ∨ (0 < (σ0.1 1 (256 * (σ0.1 0 1).toInt + 64 * p1.toInt + p2.toInt).toNat).toInt ∧ r9.toInt = (σ0.1 1 (256 * (σ0.1 0 1).toInt + 64 * p1.toInt + p2.toInt).toNat).toInt - 1)) ∧ ((p3.toInt = -4 ∧ zy_T σ0 σ9 (64 * p1.toInt + p2.toInt).toNat (-1)) ∨ (¬ p3.toInt = -4 ∧ zy_T σ0 σ9 (64 * p1.toInt + p2.toInt).toNat p3.toInt)))))) := by
  refine zc_start RX9 hi pfX9_figure rfl (Nat.le_of_ble_eq_true rfl) ?_
  intro G hG
  have hB := hG.1
  have hA0 : zc_Ag m_M_figure σ0 σ0 := zc_Ag.rf
  show zc_V 5 K G (zc_D shM K G σ0) [(0, .ref (zk K 0)), (1, .int p1), (2, .int p2), (3, .int p3)] 0 []
  refine zr_iload_n hB 1 dX9_figure_0 rfl ?_
  refine zr_callsi hG (rest := []) dX9_figure_1 wm_X9_108 (c_M_isShop K hG.2.2.2.2.2.1 σ0 p1 hO0 ) rfl rfl (Nat.le_of_ble_eq_true rfl) ⟨Nat.le_of_ble_eq_true rfl, Nat.le_of_ble_eq_true rfl, rfl, rfl⟩ (fun r1 σ2 h3 => ?_)
  obtain ⟨rfl, r1q⟩ := h3
  have r1z := r1q.b
  refine zr_if_eq hB dX9_figure_4 (tgt := 39) rfl (fun c4 => ?_) (fun c4 => ?_)
  · have q5 := r1q.f c4
    refine zr_bipush hB dX9_figure_39 rfl (fun c6 ec6 => ?_)
    exact zr_iret hG dX9_figure_41 ⟨hO0, hA0, by omega, by omega, (by first | (exfalso; omega) | exact Or.inl ⟨by omega, by omega, by first | rfl | assumption⟩ | exact Or.inr (Or.inl ⟨by omega, by omega, by omega, by first | rfl | assumption⟩) | exact Or.inr (Or.inr (⟨by omega, by omega, by omega, by first | rfl | assumption⟩)))⟩
  have q7 := r1q.t c4
  refine zr_iload_n hB 2 dX9_figure_7 rfl ?_
  have v9 := And.intro (zn_lo p2) (zn_hi p2)
  refine zr_i2l hB dX9_figure_8 (fun l8 el8 => ?_)
  refine zr_lconst hB dX9_figure_9 (m := 0) rfl (fun c10 ec10 => ?_)
  refine zr_aload_n hB 0 dX9_figure_10 rfl ?_
  refine zr_geti' hG 0 1 (σ0.1 0 1) dX9_figure_11 rfl wf_X9_101 rfl rfl ?_
  have b11 : 0 ≤ (σ0.1 0 1).toInt ∧ (σ0.1 0 1).toInt ≤ 63 := ⟨(hO0 0 1).1, (hO0 0 1).2.1⟩
  refine zr_i2l hB dX9_figure_14 (fun l12 el12 => ?_)
  refine zr_callsi hG (rest := []) dX9_figure_15 wm_X9_91 (c_M_in K hG.2.2.2.2.2.1 σ0 l8 c10 l12 hO0 ) rfl rfl (Nat.le_of_ble_eq_true rfl) ⟨Nat.le_of_ble_eq_true rfl, Nat.le_of_ble_eq_true rfl, rfl, rfl⟩ (fun r13 σ14 h15 => ?_)
  obtain ⟨rfl, r13q⟩ := h15
  have r13z := r13q.b
  refine zr_if_eq hB dX9_figure_18 (tgt := 39) rfl (fun c16 => ?_) (fun c16 => ?_)
  · have q17 := r13q.f c16
    refine zr_bipush hB dX9_figure_39 rfl (fun c18 ec18 => ?_)
    exact zr_iret hG dX9_figure_41 ⟨hO0, hA0, by omega, by omega, (by first | (exfalso; omega) | exact Or.inl ⟨by omega, by omega, by first | rfl | assumption⟩ | exact Or.inr (Or.inl ⟨by omega, by omega, by omega, by first | rfl | assumption⟩) | exact Or.inr (Or.inr (⟨by omega, by omega, by omega, by first | rfl | assumption⟩)))⟩
  have q19 := r13q.t c16
  refine zr_iload_n hB 3 dX9_figure_21 rfl ?_
  have v21 := And.intro (zn_lo p3) (zn_hi p3)
  refine zr_i2l hB dX9_figure_22 (fun l20 el20 => ?_)
  refine zr_lconst hB dX9_figure_23 (m := 0) rfl (fun c22 ec22 => ?_)
  refine zr_ldc2 hB dX9_figure_24 wc_X9_111 (n := 999) rfl (fun c23 ec23 => ?_)
  refine zr_callsi hG (rest := []) dX9_figure_27 wm_X9_91 (c_M_in K hG.2.2.2.2.2.1 σ0 l20 c22 c23 hO0 ) rfl rfl (Nat.le_of_ble_eq_true rfl) ⟨Nat.le_of_ble_eq_true rfl, Nat.le_of_ble_eq_true rfl, rfl, rfl⟩ (fun r24 σ25 h26 => ?_)
  obtain ⟨rfl, r24q⟩ := h26
  have r24z := r24q.b
  have L42_28 : zc_hid (((p3.toInt = -4 ∨ (0 ≤ p3.toInt ∧ p3.toInt ≤ 999))) → zc_V 5 K G (zc_D shM K G σ0) [(0, .ref (zk K 0)), (1, .int p1), (2, .int p2), (3, .int p3)] 42 []) := by
    intro e27
    refine zr_aload_n hB 0 dX9_figure_42 rfl ?_
    refine zr_geti' hG 0 2 (σ0.1 0 2) dX9_figure_43 rfl wf_X9_105 rfl rfl ?_
    have b29 : 0 ≤ (σ0.1 0 2).toInt ∧ (σ0.1 0 2).toInt ≤ 200 := ⟨(hO0 0 2).1, (hO0 0 2).2.1⟩
    refine zr_sipush hB dX9_figure_46 rfl (fun c30 ec30 => ?_)
    refine zr_icmp_ne hB dX9_figure_49 (tgt := 55) rfl (fun c31 => ?_) (fun c31 => ?_)
    · refine zr_aload_n hB 0 dX9_figure_55 rfl ?_
      refine zr_iload_n hB 1 dX9_figure_56 rfl ?_
      refine zr_iload_n hB 2 dX9_figure_57 rfl ?_
      refine zr_aload_n hB 0 dX9_figure_58 rfl ?_
      refine zr_geti' hG 0 1 (σ0.1 0 1) dX9_figure_59 rfl wf_X9_101 rfl rfl ?_
      refine zr_callvi hG (rest := []) 0 dX9_figure_62 wm_X9_113 rfl rfl (c_M_knownOn K hG.2.2.2.2.2.1 σ0 p1 p2 (σ0.1 0 1) hO0 (by omega) (by omega) (by omega) (by omega)) rfl rfl (Nat.le_of_ble_eq_true rfl) ⟨Nat.le_of_ble_eq_true rfl, Nat.le_of_ble_eq_true rfl, rfl, rfl⟩ (fun r32 σ33 h34 => ?_)
      obtain ⟨rfl, r32a, r32b, g35⟩ := h34
      refine zr_callsi hG (rest := []) dX9_figure_65 wm_X9_117 (c_M_orNone K hG.2.2.2.2.2.1 σ0 r32 hO0 (by omega) (by omega)) rfl rfl (Nat.le_of_ble_eq_true rfl) ⟨Nat.le_of_ble_eq_true rfl, Nat.le_of_ble_eq_true rfl, rfl, rfl⟩ (fun r36 σ37 h38 => ?_)
      obtain ⟨rfl, r36a, r36b, g39⟩ := h38
      refine zr_istore hB dX9_figure_68 (by decide) (lv' := [(4, .int r36), (0, .ref (zk K 0)), (1, .int p1), (2, .int p2), (3, .int p3)]) rfl ?_
      refine zr_aload_n hB 1 dX9_figure_70 rfl ?_
      refine zr_iload_n hB 2 dX9_figure_71 rfl ?_
      refine zr_iload_n hB 3 dX9_figure_72 rfl ?_
      refine zr_iload_n hB 4 dX9_figure_73 rfl ?_
      refine zr_bipush hB dX9_figure_74 rfl (fun c40 ec40 => ?_)
      refine zr_icmp_ne hB dX9_figure_76 (tgt := 83) rfl (fun c41 => ?_) (fun c41 => ?_)
      · refine zr_iload_n hB 4 dX9_figure_83 rfl ?_
        refine zr_callvn hG (rest := []) 0 dX9_figure_84 wm_X9_121 rfl rfl (c_M_tellFigure K hG.2.2.2.2.2.1 σ0 p1 p2 p3 hO0 (by omega) (by omega) (by omega) (by omega) (by omega) (by omega) (by omega)) rfl rfl (Nat.le_of_ble_eq_true rfl) ⟨Nat.le_of_ble_eq_true rfl, Nat.le_of_ble_eq_true rfl, rfl, rfl⟩ (fun σ43 h44 => ?_)
        obtain ⟨hO45, hAc46, g47⟩ := h44
        have hA48 := zc_Ag.tr hA0 hAc46 rfl
        have q49 : (σ43.1 0 1).toInt = (σ0.1 0 1).toInt := congrArg Int32.toInt (hAc46 0 1 rfl).1
        refine zr_iload hB 0 dX9_figure_87 rfl ?_
        exact zr_iret hG dX9_figure_89 ⟨hO45, hA48, by omega, by omega, (Or.inr (Or.inr ⟨by omega, by omega, by omega, Or.inr ⟨by omega, g47⟩⟩))⟩
      refine zr_iconst hB dX9_figure_79 rfl (fun c50 ec50 => ?_)
      refine zr_goto hB dX9_figure_80 (tgt := 84) rfl ?_
      refine zr_callvn hG (rest := []) 0 dX9_figure_84 wm_X9_121 rfl rfl (c_M_tellFigure K hG.2.2.2.2.2.1 σ0 p1 p2 c50 hO0 (by omega) (by omega) (by omega) (by omega) (by omega) (by omega) (by omega)) rfl rfl (Nat.le_of_ble_eq_true rfl) ⟨Nat.le_of_ble_eq_true rfl, Nat.le_of_ble_eq_true rfl, rfl, rfl⟩ (fun σ52 h53 => ?_)
      obtain ⟨hO54, hAc55, g56⟩ := h53
      have hA57 := zc_Ag.tr hA0 hAc55 rfl
      have q58 : (σ52.1 0 1).toInt = (σ0.1 0 1).toInt := congrArg Int32.toInt (hAc55 0 1 rfl).1
      refine zr_iload hB 0 dX9_figure_87 rfl ?_
      exact zr_iret hG dX9_figure_89 ⟨hO54, hA57, by omega, by omega, (Or.inr (Or.inr ⟨by omega, by omega, by omega, Or.inl ⟨by omega, by have h9 := g56; rw [ec50] at h9; exact h9⟩⟩))⟩
    refine zr_bipush hB dX9_figure_52 rfl (fun c59 ec59 => ?_)
    exact zr_iret hG dX9_figure_54 ⟨hO0, hA0, by omega, by omega, (by first | (exfalso; omega) | exact Or.inl ⟨by omega, by omega, by first | rfl | assumption⟩ | exact Or.inr (Or.inl ⟨by omega, by omega, by omega, by first | rfl | assumption⟩) | exact Or.inr (Or.inr (⟨by omega, by omega, by omega, by first | rfl | assumption⟩)))⟩
  refine zr_if_ne hB dX9_figure_30 (tgt := 42) rfl (fun c60 => ?_) (fun c60 => ?_)
  · have q61 := r24q.t c60
    exact L42_28 (show (p3.toInt = -4 ∨ (0 ≤ p3.toInt ∧ p3.toInt ≤ 999)) by omega)
  have q62 := r24q.f c60
  refine zr_iload_n hB 3 dX9_figure_33 rfl ?_
  refine zr_bipush hB dX9_figure_34 rfl (fun c63 ec63 => ?_)
  refine zr_icmp_eq hB dX9_figure_36 (tgt := 42) rfl (fun c64 => ?_) (fun c64 => ?_)
  · exact L42_28 (show (p3.toInt = -4 ∨ (0 ≤ p3.toInt ∧ p3.toInt ≤ 999)) by omega)
  refine zr_bipush hB dX9_figure_39 rfl (fun c65 ec65 => ?_)
  exact zr_iret hG dX9_figure_41 ⟨hO0, hA0, by omega, by omega, (by first | (exfalso; omega) | exact Or.inl ⟨by omega, by omega, by first | rfl | assumption⟩ | exact Or.inr (Or.inl ⟨by omega, by omega, by omega, by first | rfl | assumption⟩) | exact Or.inr (Or.inr (⟨by omega, by omega, by omega, by first | rfl | assumption⟩)))⟩

set_option maxHeartbeats 1000000 in
set_option maxRecDepth 100000 in
theorem c_M_known (K : zc_K) (hi : zc_inj shM K.2.2.2.1) (σ0 : zc_S) (p1 : Int32) (p2 : Int32) (p3 : Int32) (hO0 : zc_O okM σ0)  : zc_M shM K yX9_known cX9_known 4 (some .int) (zrm 3 68) σ0 [.ref (zk K 0), .int p1, .int p2, .int p3] (zc_I (fun r9 σ9 => σ0 = σ9 ∧ (-4) ≤ r9.toInt ∧ r9.toInt ≤ 999 ∧ ((¬ (0 ≤ p1.toInt ∧ p1.toInt ≤ 3 ∧ 0 ≤ p2.toInt ∧ p2.toInt ≤ 63 ∧ 0 ≤ p3.toInt ∧ p3.toInt ≤ 63) ∧ r9.toInt = -1) ∨ ((0 ≤ p1.toInt ∧ p1.toInt ≤ 3 ∧ 0 ≤ p2.toInt ∧ p2.toInt ≤ 63 ∧ 0 ≤ p3.toInt ∧ p3.toInt ≤ 63) ∧ (σ0.1 1 (256 * p3.toInt + 64 * p1.toInt + p2.toInt).toNat).toInt ≤ 0 ∧ r9.toInt = -4) ∨ ((0 ≤ p1.toInt ∧ p1.toInt ≤ 3 ∧ 0 ≤ p2.toInt ∧ p2.toInt ≤ 63 ∧ 0 ≤ p3.toInt ∧ p3.toInt ≤ 63) ∧ 0 < (σ0.1 1 (256 * p3.toInt + 64 * p1.toInt + p2.toInt).toNat).toInt ∧ r9.toInt = (σ0.1 1 (256 * p3.toInt + 64 * p1.toInt + p2.toInt).toNat).toInt - 1)))) := by
  refine zc_start RX9 hi pfX9_known rfl (Nat.le_of_ble_eq_true rfl) ?_
  intro G hG
  have hB := hG.1
  show zc_V 4 K G (zc_D shM K G σ0) [(0, .ref (zk K 0)), (1, .int p1), (2, .int p2), (3, .int p3)] 0 []
  refine zr_iload_n hB 1 dX9_known_0 rfl ?_
  refine zr_callsi hG (rest := []) dX9_known_1 wm_X9_108 (c_M_isShop K hG.2.2.2.2.2.1 σ0 p1 hO0 ) rfl rfl (Nat.le_of_ble_eq_true rfl) ⟨Nat.le_of_ble_eq_true rfl, Nat.le_of_ble_eq_true rfl, rfl, rfl⟩ (fun r1 σ2 h3 => ?_)
  obtain ⟨rfl, r1q⟩ := h3
  have r1z := r1q.b
  refine zr_if_eq hB dX9_known_4 (tgt := 34) rfl (fun c4 => ?_) (fun c4 => ?_)
  · have q5 := r1q.f c4
    refine zr_iconst hB dX9_known_34 rfl (fun c6 ec6 => ?_)
    exact zr_iret hG dX9_known_35 ⟨rfl, by omega, by omega, by omega⟩
  have q7 := r1q.t c4
  refine zr_iload_n hB 2 dX9_known_7 rfl ?_
  refine zr_callsi hG (rest := []) dX9_known_8 wm_X9_97 (c_M_isDay K hG.2.2.2.2.2.1 σ0 p2 hO0 ) rfl rfl (Nat.le_of_ble_eq_true rfl) ⟨Nat.le_of_ble_eq_true rfl, Nat.le_of_ble_eq_true rfl, rfl, rfl⟩ (fun r8 σ9 h10 => ?_)
  obtain ⟨rfl, r8q⟩ := h10
  have r8z := r8q.b
  refine zr_if_eq hB dX9_known_11 (tgt := 34) rfl (fun c11 => ?_) (fun c11 => ?_)
  · have q12 := r8q.f c11
    refine zr_iconst hB dX9_known_34 rfl (fun c13 ec13 => ?_)
    exact zr_iret hG dX9_known_35 ⟨rfl, by omega, by omega, by omega⟩
  have q14 := r8q.t c11
  refine zr_iload_n hB 3 dX9_known_14 rfl ?_
  refine zr_callsi hG (rest := []) dX9_known_15 wm_X9_97 (c_M_isDay K hG.2.2.2.2.2.1 σ0 p3 hO0 ) rfl rfl (Nat.le_of_ble_eq_true rfl) ⟨Nat.le_of_ble_eq_true rfl, Nat.le_of_ble_eq_true rfl, rfl, rfl⟩ (fun r15 σ16 h17 => ?_)
  obtain ⟨rfl, r15q⟩ := h17
  have r15z := r15q.b
  refine zr_if_eq hB dX9_known_18 (tgt := 34) rfl (fun c18 => ?_) (fun c18 => ?_)
  · have q19 := r15q.f c18
    refine zr_iconst hB dX9_known_34 rfl (fun c20 ec20 => ?_)
    exact zr_iret hG dX9_known_35 ⟨rfl, by omega, by omega, by omega⟩
  have q21 := r15q.t c18
  refine zr_aload_n hB 0 dX9_known_21 rfl ?_
  refine zr_iload_n hB 1 dX9_known_22 rfl ?_
  refine zr_iload_n hB 2 dX9_known_23 rfl ?_
  refine zr_iload_n hB 3 dX9_known_24 rfl ?_
  refine zr_callvi hG (rest := []) 0 dX9_known_25 wm_X9_113 rfl rfl (c_M_knownOn K hG.2.2.2.2.2.1 σ0 p1 p2 p3 hO0 (by omega) (by omega) (by omega) (by omega)) rfl rfl (Nat.le_of_ble_eq_true rfl) ⟨Nat.le_of_ble_eq_true rfl, Nat.le_of_ble_eq_true rfl, rfl, rfl⟩ (fun r22 σ23 h24 => ?_)
  obtain ⟨rfl, r22a, r22b, g25⟩ := h24
  refine zr_callsi hG (rest := []) dX9_known_28 wm_X9_117 (c_M_orNone K hG.2.2.2.2.2.1 σ0 r22 hO0 (by omega) (by omega)) rfl rfl (Nat.le_of_ble_eq_true rfl) ⟨Nat.le_of_ble_eq_true rfl, Nat.le_of_ble_eq_true rfl, rfl, rfl⟩ (fun r26 σ27 h28 => ?_)
  obtain ⟨rfl, r26a, r26b, g29⟩ := h28
  refine zr_goto hB dX9_known_31 (tgt := 35) rfl ?_
  exact zr_iret hG dX9_known_35 ⟨rfl, by omega, by omega, by omega⟩

def m_M_mark : zc_ms := [(2, none), (3, none)]
set_option maxHeartbeats 1000000 in
set_option maxRecDepth 100000 in
theorem c_M_mark (K : zc_K) (hi : zc_inj shM K.2.2.2.1) (σ0 : zc_S) (p1 : Int32) (p2 : Int32) (p3 : Int32) (hO0 : zc_O okM σ0) (h3a : 0 ≤ p3.toInt) (h3b : p3.toInt ≤ 1) : zc_M shM K yX9_mark cX9_mark 5 (some .int) (zrm 2 45) σ0 [.ref (zk K 0), .int p1, .int p2, .int p3] (zc_I (fun r9 σ9 => zc_O okM σ9 ∧ zc_Ag m_M_mark σ0 σ9 ∧ (-1) ≤ r9.toInt ∧ r9.toInt ≤ 1 ∧ ((¬ (0 ≤ p1.toInt ∧ p1.toInt ≤ 1 ∧ 0 ≤ p2.toInt ∧ p2.toInt ≤ 63) ∧ r9.toInt = -1 ∧ σ9 = σ0) ∨ (p1.toInt = 0 ∧ 0 ≤ p2.toInt ∧ p2.toInt ≤ 63 ∧ r9.toInt = (σ0.1 2 p2.toInt.toNat).toInt ∧ σ9 = zc_u σ0 2 p2.toInt.toNat p3) ∨ (p1.toInt = 1 ∧ 0 ≤ p2.toInt ∧ p2.toInt ≤ 63 ∧ r9.toInt = (σ0.1 3 p2.toInt.toNat).toInt ∧ σ9 = zc_u σ0 3 p2.toInt.toNat p3)))) := by
  refine zc_start RX9 hi pfX9_mark rfl (Nat.le_of_ble_eq_true rfl) ?_
  intro G hG
  have hB := hG.1
  have hA0 : zc_Ag m_M_mark σ0 σ0 := zc_Ag.rf
  show zc_V 5 K G (zc_D shM K G σ0) [(0, .ref (zk K 0)), (1, .int p1), (2, .int p2), (3, .int p3)] 0 []
  refine zr_iload_n hB 1 dX9_mark_0 rfl ?_
  have v2 := And.intro (zn_lo p1) (zn_hi p1)
  refine zr_i2l hB dX9_mark_1 (fun l1 el1 => ?_)
  refine zr_lconst hB dX9_mark_2 (m := 0) rfl (fun c3 ec3 => ?_)
  refine zr_lconst hB dX9_mark_3 (m := 1) rfl (fun c4 ec4 => ?_)
  refine zr_callsi hG (rest := []) dX9_mark_4 wm_X9_91 (c_M_in K hG.2.2.2.2.2.1 σ0 l1 c3 c4 hO0 ) rfl rfl (Nat.le_of_ble_eq_true rfl) ⟨Nat.le_of_ble_eq_true rfl, Nat.le_of_ble_eq_true rfl, rfl, rfl⟩ (fun r5 σ6 h7 => ?_)
  obtain ⟨rfl, r5q⟩ := h7
  have r5z := r5q.b
  refine zr_if_eq hB dX9_mark_7 (tgt := 17) rfl (fun c8 => ?_) (fun c8 => ?_)
  · have q9 := r5q.f c8
    refine zr_iconst hB dX9_mark_17 rfl (fun c10 ec10 => ?_)
    exact zr_iret hG dX9_mark_18 ⟨hO0, hA0, by omega, by omega, (by first | (exfalso; omega) | exact Or.inl ⟨by omega, by omega, by first | rfl | assumption⟩ | exact Or.inr (Or.inl ⟨by omega, by omega, by omega, by omega, by first | rfl | assumption⟩) | exact Or.inr (Or.inr (⟨by omega, by omega, by omega, by omega, by first | rfl | assumption⟩)))⟩
  have q11 := r5q.t c8
  refine zr_iload_n hB 2 dX9_mark_10 rfl ?_
  refine zr_callsi hG (rest := []) dX9_mark_11 wm_X9_97 (c_M_isDay K hG.2.2.2.2.2.1 σ0 p2 hO0 ) rfl rfl (Nat.le_of_ble_eq_true rfl) ⟨Nat.le_of_ble_eq_true rfl, Nat.le_of_ble_eq_true rfl, rfl, rfl⟩ (fun r12 σ13 h14 => ?_)
  obtain ⟨rfl, r12q⟩ := h14
  have r12z := r12q.b
  refine zr_if_ne hB dX9_mark_14 (tgt := 19) rfl (fun c15 => ?_) (fun c15 => ?_)
  · have q16 := r12q.t c15
    refine zr_iload_n hB 1 dX9_mark_19 rfl ?_
    refine zr_if_ne hB dX9_mark_20 (tgt := 32) rfl (fun c17 => ?_) (fun c17 => ?_)
    · refine zr_aload_n hB 0 dX9_mark_32 rfl ?_
      refine zr_getr hG 0 4 dX9_mark_33 rfl wf_X9_17 rfl ?_
      refine zr_iload_n hB 2 dX9_mark_36 rfl ?_
      refine zr_zald hG 3 dX9_mark_37 rfl (by omega) (by omega) (fun x18 ex18 => ?_)
      have bx18 : 0 ≤ x18.toInt ∧ x18.toInt ≤ 1 := by rw [ex18]; exact ⟨(hO0 3 _).1, (hO0 3 _).2.1⟩
      refine zr_istore hB dX9_mark_38 (by decide) (lv' := [(4, .int x18), (0, .ref (zk K 0)), (1, .int p1), (2, .int p2), (3, .int p3)]) rfl ?_
      refine zr_iload_n hB 2 dX9_mark_40 rfl ?_
      refine zr_if_ne hB dX9_mark_41 (tgt := 54) rfl (fun c19 => ?_) (fun c19 => ?_)
      · refine zr_aload_n hB 1 dX9_mark_54 rfl ?_
        refine zr_getr hG 0 4 dX9_mark_55 rfl wf_X9_17 rfl ?_
        refine zr_iload_n hB 3 dX9_mark_58 rfl ?_
        refine zr_iload_n hB 4 dX9_mark_59 rfl ?_
        refine zr_zast hG 3 dX9_mark_60 rfl (by omega) (by omega) (by omega) (by omega) ?_
        have hOw20 := zc_O.u hO0 3 p2.toInt.toNat (v := p3) (show 0 ≤ p3.toInt by omega) (show p3.toInt ≤ 1 by omega) (Or.inr (show 0 ≤ p3.toInt by omega))
        have hAw20 := zc_Ag.u hA0 3 p2.toInt.toNat p3 rfl
        refine zr_iload hB 0 dX9_mark_61 rfl ?_
        refine zr_if_eq hB dX9_mark_63 (tgt := 70) rfl (fun c21 => ?_) (fun c21 => ?_)
        · refine zr_iconst hB dX9_mark_70 rfl (fun c22 ec22 => ?_)
          exact zr_iret hG dX9_mark_71 ⟨hOw20, hAw20, by omega, by omega, (by have hqx18 := congrArg Int32.toInt ex18; first | (exfalso; omega) | exact Or.inl ⟨by omega, by omega, by first | rfl | assumption⟩ | exact Or.inr (Or.inl ⟨by omega, by omega, by omega, by omega, by first | rfl | assumption⟩) | exact Or.inr (Or.inr (⟨by omega, by omega, by omega, by omega, by first | rfl | assumption⟩)))⟩
        refine zr_iconst hB dX9_mark_66 rfl (fun c23 ec23 => ?_)
        refine zr_goto hB dX9_mark_67 (tgt := 71) rfl ?_
        exact zr_iret hG dX9_mark_71 ⟨hOw20, hAw20, by omega, by omega, (by have hqx18 := congrArg Int32.toInt ex18; first | (exfalso; omega) | exact Or.inl ⟨by omega, by omega, by first | rfl | assumption⟩ | exact Or.inr (Or.inl ⟨by omega, by omega, by omega, by omega, by first | rfl | assumption⟩) | exact Or.inr (Or.inr (⟨by omega, by omega, by omega, by omega, by first | rfl | assumption⟩)))⟩
      exfalso; omega
    refine zr_aload_n hB 0 dX9_mark_23 rfl ?_
    refine zr_getr hG 0 3 dX9_mark_24 rfl wf_X9_13 rfl ?_
    refine zr_iload_n hB 2 dX9_mark_27 rfl ?_
    refine zr_zald hG 2 dX9_mark_28 rfl (by omega) (by omega) (fun x24 ex24 => ?_)
    have bx24 : 0 ≤ x24.toInt ∧ x24.toInt ≤ 1 := by rw [ex24]; exact ⟨(hO0 2 _).1, (hO0 2 _).2.1⟩
    refine zr_goto hB dX9_mark_29 (tgt := 38) rfl ?_
    refine zr_istore hB dX9_mark_38 (by decide) (lv' := [(4, .int x24), (0, .ref (zk K 0)), (1, .int p1), (2, .int p2), (3, .int p3)]) rfl ?_
    refine zr_iload_n hB 2 dX9_mark_40 rfl ?_
    refine zr_if_ne hB dX9_mark_41 (tgt := 54) rfl (fun c25 => ?_) (fun c25 => ?_)
    · exfalso; omega
    refine zr_aload_n hB 1 dX9_mark_44 rfl ?_
    refine zr_getr hG 0 3 dX9_mark_45 rfl wf_X9_13 rfl ?_
    refine zr_iload_n hB 3 dX9_mark_48 rfl ?_
    refine zr_iload_n hB 4 dX9_mark_49 rfl ?_
    refine zr_zast hG 2 dX9_mark_50 rfl (by omega) (by omega) (by omega) (by omega) ?_
    have hOw26 := zc_O.u hO0 2 p2.toInt.toNat (v := p3) (show 0 ≤ p3.toInt by omega) (show p3.toInt ≤ 1 by omega) (Or.inr (show 0 ≤ p3.toInt by omega))
    have hAw26 := zc_Ag.u hA0 2 p2.toInt.toNat p3 rfl
    refine zr_goto hB dX9_mark_51 (tgt := 61) rfl ?_
    refine zr_iload hB 0 dX9_mark_61 rfl ?_
    refine zr_if_eq hB dX9_mark_63 (tgt := 70) rfl (fun c27 => ?_) (fun c27 => ?_)
    · refine zr_iconst hB dX9_mark_70 rfl (fun c28 ec28 => ?_)
      exact zr_iret hG dX9_mark_71 ⟨hOw26, hAw26, by omega, by omega, (by have hqx24 := congrArg Int32.toInt ex24; first | (exfalso; omega) | exact Or.inl ⟨by omega, by omega, by first | rfl | assumption⟩ | exact Or.inr (Or.inl ⟨by omega, by omega, by omega, by omega, by first | rfl | assumption⟩) | exact Or.inr (Or.inr (⟨by omega, by omega, by omega, by omega, by first | rfl | assumption⟩)))⟩
    refine zr_iconst hB dX9_mark_66 rfl (fun c29 ec29 => ?_)
    refine zr_goto hB dX9_mark_67 (tgt := 71) rfl ?_
    exact zr_iret hG dX9_mark_71 ⟨hOw26, hAw26, by omega, by omega, (by have hqx24 := congrArg Int32.toInt ex24; first | (exfalso; omega) | exact Or.inl ⟨by omega, by omega, by first | rfl | assumption⟩ | exact Or.inr (Or.inl ⟨by omega, by omega, by omega, by omega, by first | rfl | assumption⟩) | exact Or.inr (Or.inr (⟨by omega, by omega, by omega, by omega, by first | rfl | assumption⟩)))⟩
  have q30 := r12q.f c15
  refine zr_iconst hB dX9_mark_17 rfl (fun c31 ec31 => ?_)
  exact zr_iret hG dX9_mark_18 ⟨hO0, hA0, by omega, by omega, (by first | (exfalso; omega) | exact Or.inl ⟨by omega, by omega, by first | rfl | assumption⟩ | exact Or.inr (Or.inl ⟨by omega, by omega, by omega, by omega, by first | rfl | assumption⟩) | exact Or.inr (Or.inr (⟨by omega, by omega, by omega, by omega, by first | rfl | assumption⟩)))⟩

def m_M_feed : zc_ms := [(0, some 6), (4, none)]
set_option maxHeartbeats 1000000 in
set_option maxRecDepth 100000 in
theorem c_M_feed (K : zc_K) (hi : zc_inj shM K.2.2.2.1) (σ0 : zc_S) (p1 : Int64) (hO0 : zc_O okM σ0)  : zc_M shM K yX9_feed cX9_feed 4 (some .int) (zrm 0 0) σ0 [.ref (zk K 0), .long p1] (zc_I (fun r9 σ9 => zc_O okM σ9 ∧ zc_Ag m_M_feed σ0 σ9 ∧ (-3) ≤ r9.toInt ∧ r9.toInt ≤ 120 ∧ ((112 < (σ0.1 0 6).toInt ∧ r9.toInt = -3 ∧ (σ9.1 0 6).toInt = (σ0.1 0 6).toInt) ∨ ((σ0.1 0 6).toInt ≤ 112 ∧ r9.toInt = (σ0.1 0 6).toInt + 8 ∧ (σ9.1 0 6).toInt = (σ0.1 0 6).toInt + 8)))) := by
  refine zc_start RX9 hi pfX9_feed rfl (Nat.le_of_ble_eq_true rfl) ?_
  intro G hG
  have hB := hG.1
  have hA0 : zc_Ag m_M_feed σ0 σ0 := zc_Ag.rf
  show zc_V 4 K G (zc_D shM K G σ0) [(0, .ref (zk K 0)), (1, .long p1)] 0 []
  refine zr_aload_n hB 0 dX9_feed_0 rfl ?_
  refine zr_geti' hG 0 6 (σ0.1 0 6) dX9_feed_1 rfl wf_X9_125 rfl rfl ?_
  have b1 : 0 ≤ (σ0.1 0 6).toInt ∧ (σ0.1 0 6).toInt ≤ 120 := ⟨(hO0 0 6).1, (hO0 0 6).2.1⟩
  refine zr_bipush hB dX9_feed_4 rfl (fun c2 ec2 => ?_)
  refine zr_iadd hB dX9_feed_6 (by omega) (by omega) (fun x3 ex3 => ?_)
  refine zr_bipush hB dX9_feed_7 rfl (fun c4 ec4 => ?_)
  refine zr_icmp_le hB dX9_feed_9 (tgt := 15) rfl (fun c5 => ?_) (fun c5 => ?_)
  · refine zr_bipush hB dX9_feed_15 rfl (fun c6 ec6 => ?_)
    refine zr_istore_n hB dX9_feed_17 rfl (by decide) (lv' := [(3, .int c6), (0, .ref (zk K 0)), (1, .long p1)]) rfl ?_
    have L18_13 : ∀ (n18 : Nat) (σ8 : zc_S) (y3_7 : Int32), zc_O okM σ8 → zc_Ag m_M_feed σ0 σ8 → (-999) ≤ y3_7.toInt → y3_7.toInt ≤ 56 → (σ8.1 0 6).toInt * 8 + y3_7.toInt ≤ 952 → 0 ≤ (σ8.1 0 6).toInt → (σ8.1 0 6).toInt * 8 + y3_7.toInt = (σ0.1 0 6).toInt * 8 + 56 → -8 ≤ y3_7.toInt → y3_7.toInt - (-999) < (n18 : Int) → zc_V 4 K G (zc_D shM K G σ8) [(0, .ref (zk K 0)), (1, .long p1), (3, .int y3_7)] 18 [] := by
      intro n18
      induction n18 with
      | zero => intro σ8 y3_7 hO8 hA8 y3_7a y3_7b e9 e10 e11 e12 hn18; exfalso; omega
      | succ n18 ih18 =>
        intro σ8 y3_7 hO8 hA8 y3_7a y3_7b e9 e10 e11 e12 hn18
        refine zr_iload_n hB 2 dX9_feed_18 rfl ?_
        refine zr_if_lt hB dX9_feed_19 (tgt := 55) rfl (fun c14 => ?_) (fun c14 => ?_)
        · refine zr_aload_n hB 0 dX9_feed_55 rfl ?_
          refine zr_geti' hG 0 6 (σ8.1 0 6) dX9_feed_56 rfl wf_X9_125 rfl rfl ?_
          have b15 : 0 ≤ (σ8.1 0 6).toInt ∧ (σ8.1 0 6).toInt ≤ 120 := ⟨(hO8 0 6).1, (hO8 0 6).2.1⟩
          exact zr_iret hG dX9_feed_59 ⟨hO8, hA8, by omega, by omega, (show ((112 < (σ0.1 0 6).toInt ∧ (σ8.1 0 6).toInt = -3 ∧ (σ8.1 0 6).toInt = (σ0.1 0 6).toInt) ∨ ((σ0.1 0 6).toInt ≤ 112 ∧ (σ8.1 0 6).toInt = (σ0.1 0 6).toInt + 8 ∧ (σ8.1 0 6).toInt = (σ0.1 0 6).toInt + 8)) by omega)⟩
        refine zr_aload_n hB 0 dX9_feed_22 rfl ?_
        refine zr_getr hG 0 5 dX9_feed_23 rfl wf_X9_20 rfl ?_
        refine zr_aload_n hB 0 dX9_feed_26 rfl ?_
        refine zr_geti' hG 0 6 (σ8.1 0 6) dX9_feed_27 rfl wf_X9_125 rfl rfl ?_
        have b16 : 0 ≤ (σ8.1 0 6).toInt ∧ (σ8.1 0 6).toInt ≤ 120 := ⟨(hO8 0 6).1, (hO8 0 6).2.1⟩
        refine zr_lload_n hB 1 dX9_feed_30 rfl ?_
        refine zr_iload_n hB 2 dX9_feed_31 rfl ?_
        refine zr_lshr hB dX9_feed_32 (fun l17 el17 => ?_)
        refine zr_l2iw hB dX9_feed_33 (fun x18 ex18 => ?_)
        refine zr_sipush hB dX9_feed_34 rfl (fun c19 ec19 => ?_)
        refine zr_iand hB dX9_feed_37 (fun x20 ex20 => ?_)
        have bx20 := zn_and ex20 ec19 (k := 8) rfl (by decide)
        refine zr_iast hG 4 dX9_feed_38 rfl (by omega) (by omega)  ?_
        have hOw21 := zc_O.u hO8 4 (σ8.1 0 6).toInt.toNat (v := x20) (show 0 ≤ x20.toInt by omega) (show x20.toInt ≤ 255 by omega) (Or.inr (show 0 ≤ x20.toInt by omega))
        have hAw21 := zc_Ag.u hA8 4 (σ8.1 0 6).toInt.toNat x20 rfl
        refine zr_aload_n hB 0 dX9_feed_39 rfl ?_
        refine zr_dup hB dX9_feed_40 rfl ?_
        refine zr_geti' hG 0 6 (σ8.1 0 6) dX9_feed_41 rfl wf_X9_125 rfl rfl ?_
        refine zr_iconst hB dX9_feed_44 rfl (fun c22 ec22 => ?_)
        refine zr_iadd hB dX9_feed_45 (by omega) (by omega) (fun x23 ex23 => ?_)
        refine zr_puti hG 0 6 dX9_feed_46 rfl wp_X9_125 rfl ?_
        have hOw24 := zc_O.u hOw21 0 6 (v := x23) (show 0 ≤ x23.toInt by omega) (show x23.toInt ≤ 120 by omega) (Or.inr (show 0 ≤ x23.toInt by omega))
        have hAw24 := zc_Ag.u hAw21 0 6 x23 rfl
        refine zr_iinc hB 2 dX9_feed_49 rfl (by decide) rfl (by omega) (by omega) (fun x25 ex25 lv' hlv => ?_)
        obtain rfl : [(3, .int x25), (0, .ref (zk K 0)), (1, .long p1)] = lv' := hlv
        refine zr_goto hB dX9_feed_52 (tgt := 18) rfl ?_
        exact zc_sub [1, 2, 0] rfl (ih18 (zc_u (zc_u σ8 4 (σ8.1 0 6).toInt.toNat x20) 0 6 x23) x25 hOw24 hAw24 (by omega) (by omega) (show x23.toInt * 8 + x25.toInt ≤ 952 by omega) (show 0 ≤ x23.toInt by omega) (show x23.toInt * 8 + x25.toInt = (σ0.1 0 6).toInt * 8 + 56 by omega) (show -8 ≤ x25.toInt by omega) (by omega))
    exact zc_sub [1, 2, 0] rfl (L18_13 1057 σ0 c6 hO0 hA0 (by omega) (by omega) (show (σ0.1 0 6).toInt * 8 + c6.toInt ≤ 952 by omega) (show 0 ≤ (σ0.1 0 6).toInt by omega) (show (σ0.1 0 6).toInt * 8 + c6.toInt = (σ0.1 0 6).toInt * 8 + 56 by omega) (show -8 ≤ c6.toInt by omega) (by omega))
  refine zr_bipush hB dX9_feed_12 rfl (fun c26 ec26 => ?_)
  exact zr_iret hG dX9_feed_14 ⟨hO0, hA0, by omega, by omega, (show ((112 < (σ0.1 0 6).toInt ∧ c26.toInt = -3 ∧ (σ0.1 0 6).toInt = (σ0.1 0 6).toInt) ∨ ((σ0.1 0 6).toInt ≤ 112 ∧ c26.toInt = (σ0.1 0 6).toInt + 8 ∧ (σ0.1 0 6).toInt = (σ0.1 0 6).toInt + 8)) by omega)⟩

def m_M_end : zc_ms := [(0, some 6)]
set_option maxHeartbeats 1000000 in
set_option maxRecDepth 100000 in
theorem c_M_end (K : zc_K) (hi : zc_inj shM K.2.2.2.1) (σ0 : zc_S) (p1 : Int32) (hO0 : zc_O okM σ0)  : zc_M shM K yX9_end cX9_end 3 (some .int) (zrm 1 25) σ0 [.ref (zk K 0), .int p1] (zc_I (fun r9 σ9 => zc_O okM σ9 ∧ zc_Ag m_M_end σ0 σ9 ∧ (-1) ≤ r9.toInt ∧ r9.toInt ≤ 120 ∧ (((p1.toInt < 0 ∨ (σ0.1 0 6).toInt < p1.toInt) ∧ r9.toInt = -1 ∧ (σ9.1 0 6).toInt = (σ0.1 0 6).toInt) ∨ (0 ≤ p1.toInt ∧ p1.toInt ≤ (σ0.1 0 6).toInt ∧ r9.toInt = (σ0.1 0 6).toInt ∧ (σ9.1 0 6).toInt = p1.toInt)))) := by
  refine zc_start RX9 hi pfX9_end rfl (Nat.le_of_ble_eq_true rfl) ?_
  intro G hG
  have hB := hG.1
  have hA0 : zc_Ag m_M_end σ0 σ0 := zc_Ag.rf
  show zc_V 3 K G (zc_D shM K G σ0) [(0, .ref (zk K 0)), (1, .int p1)] 0 []
  refine zr_iload_n hB 1 dX9_end_0 rfl ?_
  have v2 := And.intro (zn_lo p1) (zn_hi p1)
  refine zr_i2l hB dX9_end_1 (fun l1 el1 => ?_)
  refine zr_lconst hB dX9_end_2 (m := 0) rfl (fun c3 ec3 => ?_)
  refine zr_aload_n hB 0 dX9_end_3 rfl ?_
  refine zr_geti' hG 0 6 (σ0.1 0 6) dX9_end_4 rfl wf_X9_125 rfl rfl ?_
  have b4 : 0 ≤ (σ0.1 0 6).toInt ∧ (σ0.1 0 6).toInt ≤ 120 := ⟨(hO0 0 6).1, (hO0 0 6).2.1⟩
  refine zr_i2l hB dX9_end_7 (fun l5 el5 => ?_)
  refine zr_callsi hG (rest := []) dX9_end_8 wm_X9_91 (c_M_in K hG.2.2.2.2.2.1 σ0 l1 c3 l5 hO0 ) rfl rfl (Nat.le_of_ble_eq_true rfl) ⟨Nat.le_of_ble_eq_true rfl, Nat.le_of_ble_eq_true rfl, rfl, rfl⟩ (fun r6 σ7 h8 => ?_)
  obtain ⟨rfl, r6q⟩ := h8
  have r6z := r6q.b
  refine zr_if_ne hB dX9_end_11 (tgt := 16) rfl (fun c9 => ?_) (fun c9 => ?_)
  · have q10 := r6q.t c9
    refine zr_aload_n hB 0 dX9_end_16 rfl ?_
    refine zr_geti' hG 0 6 (σ0.1 0 6) dX9_end_17 rfl wf_X9_125 rfl rfl ?_
    refine zr_istore_n hB dX9_end_20 rfl (by decide) (lv' := [(2, .int (σ0.1 0 6)), (0, .ref (zk K 0)), (1, .int p1)]) rfl ?_
    refine zr_aload_n hB 1 dX9_end_21 rfl ?_
    refine zr_iload_n hB 2 dX9_end_22 rfl ?_
    refine zr_puti hG 0 6 dX9_end_23 rfl wp_X9_125 rfl ?_
    have hOw11 := zc_O.u hO0 0 6 (v := p1) (show 0 ≤ p1.toInt by omega) (show p1.toInt ≤ 120 by omega) (Or.inr (show 0 ≤ p1.toInt by omega))
    have hAw11 := zc_Ag.u hA0 0 6 p1 rfl
    refine zr_iload_n hB 0 dX9_end_26 rfl ?_
    exact zr_iret hG dX9_end_27 ⟨hOw11, hAw11, by omega, by omega, (show (((p1.toInt < 0 ∨ (σ0.1 0 6).toInt < p1.toInt) ∧ (σ0.1 0 6).toInt = -1 ∧ p1.toInt = (σ0.1 0 6).toInt) ∨ (0 ≤ p1.toInt ∧ p1.toInt ≤ (σ0.1 0 6).toInt ∧ (σ0.1 0 6).toInt = (σ0.1 0 6).toInt ∧ p1.toInt = p1.toInt)) by omega)⟩
  have q12 := r6q.f c9
  refine zr_iconst hB dX9_end_14 rfl (fun c13 ec13 => ?_)
  exact zr_iret hG dX9_end_15 ⟨hO0, hA0, by omega, by omega, (show (((p1.toInt < 0 ∨ (σ0.1 0 6).toInt < p1.toInt) ∧ c13.toInt = -1 ∧ (σ0.1 0 6).toInt = (σ0.1 0 6).toInt) ∨ (0 ≤ p1.toInt ∧ p1.toInt ≤ (σ0.1 0 6).toInt ∧ c13.toInt = (σ0.1 0 6).toInt ∧ (σ0.1 0 6).toInt = p1.toInt)) by omega)⟩

set_option maxHeartbeats 1000000 in
set_option maxRecDepth 100000 in
theorem c_M_byteAt (K : zc_K) (hi : zc_inj shM K.2.2.2.1) (σ0 : zc_S) (p1 : Int32) (hO0 : zc_O okM σ0) (h1a : 0 ≤ p1.toInt) : zc_M shM K yX9_byteAt cX9_byteAt 2 (some .int) (zrm 0 0) σ0 [.ref (zk K 0), .int p1] (zc_I (fun r9 σ9 => σ0 = σ9 ∧ (-4) ≤ r9.toInt ∧ r9.toInt ≤ 255 ∧ (r9.toInt = (-4) ∨ 0 ≤ r9.toInt) ∧ (r9.toInt = -4 ∨ (p1.toInt < (σ0.1 0 6).toInt ∧ p1.toInt ≤ 119)))) := by
  refine zc_start RX9 hi pfX9_byteAt rfl (Nat.le_of_ble_eq_true rfl) ?_
  intro G hG
  have hB := hG.1
  show zc_V 2 K G (zc_D shM K G σ0) [(0, .ref (zk K 0)), (1, .int p1)] 0 []
  have bw0_6 : 0 ≤ (σ0.1 0 6).toInt ∧ (σ0.1 0 6).toInt ≤ 120 := ⟨(hO0 0 6).1, (hO0 0 6).2.1⟩
  refine zr_iload_n hB 1 dX9_byteAt_0 rfl ?_
  refine zr_aload_n hB 0 dX9_byteAt_1 rfl ?_
  refine zr_geti' hG 0 6 (σ0.1 0 6) dX9_byteAt_2 rfl wf_X9_125 rfl rfl ?_
  refine zr_icmp_ge hB dX9_byteAt_5 (tgt := 17) rfl (fun c1 => ?_) (fun c1 => ?_)
  · refine zr_bipush hB dX9_byteAt_17 rfl (fun c2 ec2 => ?_)
    exact zr_iret hG dX9_byteAt_19 ⟨rfl, by omega, by omega, by omega, by omega⟩
  refine zr_aload_n hB 0 dX9_byteAt_8 rfl ?_
  refine zr_getr hG 0 5 dX9_byteAt_9 rfl wf_X9_20 rfl ?_
  refine zr_iload_n hB 1 dX9_byteAt_12 rfl ?_
  refine zr_iald hG 4 dX9_byteAt_13 rfl (by omega) (by omega) (fun x3 ex3 => ?_)
  have bx3 : 0 ≤ x3.toInt ∧ x3.toInt ≤ 255 := by rw [ex3]; exact ⟨(hO0 4 _).1, (hO0 4 _).2.1⟩
  refine zr_goto hB dX9_byteAt_14 (tgt := 19) rfl ?_
  exact zr_iret hG dX9_byteAt_19 ⟨rfl, by omega, by omega, by omega, by omega⟩

def m_M_fails : zc_ms := [(0, some 8), (0, some 9)]
set_option maxHeartbeats 1000000 in
set_option maxRecDepth 100000 in
theorem c_M_fails (K : zc_K) (hi : zc_inj shM K.2.2.2.1) (σ0 : zc_S) (p1 : Int32) (hO0 : zc_O okM σ0) (h1a : 1 ≤ p1.toInt) (h1b : p1.toInt ≤ 5) : zc_M shM K yX9_fails cX9_fails 2 none (zrm 0 0) σ0 [.ref (zk K 0), .int p1] (zc_N (fun σ9 => zc_O okM σ9 ∧ zc_Ag m_M_fails σ0 σ9 ∧ 1 ≤ (σ9.1 0 8).toInt)) := by
  refine zc_start RX9 hi pfX9_fails rfl (Nat.le_of_ble_eq_true rfl) ?_
  intro G hG
  have hB := hG.1
  have hA0 : zc_Ag m_M_fails σ0 σ0 := zc_Ag.rf
  show zc_V 2 K G (zc_D shM K G σ0) [(0, .ref (zk K 0)), (1, .int p1)] 0 []
  have bw0_8 : 0 ≤ (σ0.1 0 8).toInt ∧ (σ0.1 0 8).toInt ≤ 5 := ⟨(hO0 0 8).1, (hO0 0 8).2.1⟩
  refine zr_aload_n hB 0 dX9_fails_0 rfl ?_
  refine zr_geti' hG 0 8 (σ0.1 0 8) dX9_fails_1 rfl wf_X9_128 rfl rfl ?_
  refine zr_if_ne hB dX9_fails_4 (tgt := 20) rfl (fun c1 => ?_) (fun c1 => ?_)
  · exact zr_vret hG dX9_fails_20 ⟨hO0, hA0, (show 1 ≤ (σ0.1 0 8).toInt by omega)⟩
  refine zr_aload_n hB 0 dX9_fails_7 rfl ?_
  refine zr_iload_n hB 1 dX9_fails_8 rfl ?_
  refine zr_puti hG 0 8 dX9_fails_9 rfl wp_X9_128 rfl ?_
  have hOw2 := zc_O.u hO0 0 8 (v := p1) (show 0 ≤ p1.toInt by omega) (show p1.toInt ≤ 5 by omega) (Or.inr (show 0 ≤ p1.toInt by omega))
  have hAw2 := zc_Ag.u hA0 0 8 p1 rfl
  refine zr_aload_n hB 0 dX9_fails_12 rfl ?_
  refine zr_aload_n hB 0 dX9_fails_13 rfl ?_
  refine zr_geti' hG 0 11 (σ0.1 0 11) dX9_fails_14 rfl wf_X9_131 rfl rfl ?_
  have b3 : 0 ≤ (σ0.1 0 11).toInt ∧ (σ0.1 0 11).toInt ≤ 120 := ⟨(hOw2 0 11).1, (hOw2 0 11).2.1⟩
  refine zr_puti hG 0 9 dX9_fails_17 rfl wp_X9_134 rfl ?_
  have hOw4 := zc_O.u hOw2 0 9 (v := (σ0.1 0 11)) (show 0 ≤ (σ0.1 0 11).toInt by omega) (show (σ0.1 0 11).toInt ≤ 120 by omega) (Or.inr (show 0 ≤ (σ0.1 0 11).toInt by omega))
  have hAw4 := zc_Ag.u hAw2 0 9 (σ0.1 0 11) rfl
  exact zr_vret hG dX9_fails_20 ⟨hOw4, hAw4, (show 1 ≤ p1.toInt by omega)⟩

def m_M_next : zc_ms := [(0, some 8), (0, some 9), (0, some 10), (0, some 11), (0, some 12), (0, some 13)]
set_option maxHeartbeats 1000000 in
set_option maxRecDepth 100000 in
theorem c_M_next (K : zc_K) (hi : zc_inj shM K.2.2.2.1) (σ0 : zc_S)  (hO0 : zc_O okM σ0)  : zc_M shM K yX9_next cX9_next 2 none (zrm 1 25) σ0 [.ref (zk K 0)] (zc_N (fun σ9 => zc_O okM σ9 ∧ zc_Ag m_M_next σ0 σ9 ∧ ((σ0.1 0 8).toInt = 0 ∨ 1 ≤ (σ9.1 0 8).toInt))) := by
  refine zc_start RX9 hi pfX9_next rfl (Nat.le_of_ble_eq_true rfl) ?_
  intro G hG
  have hB := hG.1
  have hA0 : zc_Ag m_M_next σ0 σ0 := zc_Ag.rf
  show zc_V 2 K G (zc_D shM K G σ0) [(0, .ref (zk K 0))] 0 []
  have bw0_8 : 0 ≤ (σ0.1 0 8).toInt ∧ (σ0.1 0 8).toInt ≤ 5 := ⟨(hO0 0 8).1, (hO0 0 8).2.1⟩
  have bw0_10 : 0 ≤ (σ0.1 0 10).toInt ∧ (σ0.1 0 10).toInt ≤ 120 := ⟨(hO0 0 10).1, (hO0 0 10).2.1⟩
  refine zr_aload_n hB 0 dX9_next_0 rfl ?_
  refine zr_geti' hG 0 8 (σ0.1 0 8) dX9_next_1 rfl wf_X9_128 rfl rfl ?_
  refine zr_if_le hB dX9_next_4 (tgt := 8) rfl (fun c1 => ?_) (fun c1 => ?_)
  · have L8_5 : ∀ (n8 : Nat) (σ2 : zc_S) , zc_O okM σ2 → zc_Ag m_M_next σ0 σ2 → 0 ≤ (σ2.1 0 10).toInt → (σ2.1 0 10).toInt ≤ 120 → 120 - (σ2.1 0 10).toInt < (n8 : Int) → zc_V 2 K G (zc_D shM K G σ2) [(0, .ref (zk K 0))] 8 [] := by
      intro n8
      induction n8 with
      | zero => intro σ2 hO2 hA2 e3 e4 hn8; exfalso; omega
      | succ n8 ih8 =>
        intro σ2 hO2 hA2 e3 e4 hn8
        refine zr_aload_n hB 0 dX9_next_8 rfl ?_
        refine zr_aload_n hB 0 dX9_next_9 rfl ?_
        refine zr_geti' hG 0 10 (σ2.1 0 10) dX9_next_10 rfl wf_X9_137 rfl rfl ?_
        have b6 : 0 ≤ (σ2.1 0 10).toInt ∧ (σ2.1 0 10).toInt ≤ 120 := ⟨(hO2 0 10).1, (hO2 0 10).2.1⟩
        refine zr_callvi hG (rest := []) 0 dX9_next_13 wm_X9_140 rfl rfl (c_M_byteAt K hG.2.2.2.2.2.1 σ2 (σ2.1 0 10) hO2 (by omega)) rfl rfl (Nat.le_of_ble_eq_true rfl) ⟨Nat.le_of_ble_eq_true rfl, Nat.le_of_ble_eq_true rfl, rfl, rfl⟩ (fun r7 σ8 h9 => ?_)
        obtain ⟨rfl, r7a, r7b, r7h, g10⟩ := h9
        refine zr_bipush hB dX9_next_16 rfl (fun c11 ec11 => ?_)
        refine zr_icmp_ne hB dX9_next_18 (tgt := 34) rfl (fun c12 => ?_) (fun c12 => ?_)
        · refine zr_aload_n hB 0 dX9_next_34 rfl ?_
          refine zr_aload_n hB 0 dX9_next_35 rfl ?_
          refine zr_geti' hG 0 10 (σ2.1 0 10) dX9_next_36 rfl wf_X9_137 rfl rfl ?_
          refine zr_puti hG 0 11 dX9_next_39 rfl wp_X9_131 rfl ?_
          have hOw13 := zc_O.u hO2 0 11 (v := (σ2.1 0 10)) (show 0 ≤ (σ2.1 0 10).toInt by omega) (show (σ2.1 0 10).toInt ≤ 120 by omega) (Or.inr (show 0 ≤ (σ2.1 0 10).toInt by omega))
          have hAw13 := zc_Ag.u hA2 0 11 (σ2.1 0 10) rfl
          refine zr_aload_n hB 0 dX9_next_42 rfl ?_
          refine zr_aload_n hB 0 dX9_next_43 rfl ?_
          refine zr_geti' hG 0 10 (σ2.1 0 10) dX9_next_44 rfl wf_X9_137 rfl rfl ?_
          refine zr_callvi hG (rest := []) 0 dX9_next_47 wm_X9_140 rfl rfl (c_M_byteAt K hG.2.2.2.2.2.1 (zc_u σ2 0 11 (σ2.1 0 10)) (σ2.1 0 10) hOw13 (by omega)) rfl rfl (Nat.le_of_ble_eq_true rfl) ⟨Nat.le_of_ble_eq_true rfl, Nat.le_of_ble_eq_true rfl, rfl, rfl⟩ (fun r14 σ15 h16 => ?_)
          obtain ⟨rfl, r14a, r14b, r14h, g17⟩ := h16
          have g17' : (r14.toInt = -4 ∨ ((σ2.1 0 10).toInt < (σ2.1 0 6).toInt ∧ (σ2.1 0 10).toInt ≤ 119)) := g17
          refine zr_istore_n hB dX9_next_50 rfl (by decide) (lv' := [(1, .int r14), (0, .ref (zk K 0))]) rfl ?_
          refine zr_aload_n hB 1 dX9_next_51 rfl ?_
          refine zr_iconst hB dX9_next_52 rfl (fun c18 ec18 => ?_)
          refine zr_puti hG 0 13 dX9_next_53 rfl wp_X9_143 rfl ?_
          have hOw19 := zc_O.u hOw13 0 13 (v := c18) (zn_lo _) (zn_hi _) (Or.inr (zn_lo _))
          have hAw19 := zc_Ag.u hAw13 0 13 c18 rfl
          refine zr_iload_n hB 0 dX9_next_56 rfl ?_
          refine zr_bipush hB dX9_next_57 rfl (fun c20 ec20 => ?_)
          refine zr_icmp_ne hB dX9_next_59 (tgt := 70) rfl (fun c21 => ?_) (fun c21 => ?_)
          · refine zr_iload_n hB 0 dX9_next_70 rfl ?_
            refine zr_i2l hB dX9_next_71 (fun l22 el22 => ?_)
            refine zr_ldc2 hB dX9_next_72 wc_X9_149 (n := 97) rfl (fun c23 ec23 => ?_)
            refine zr_ldc2 hB dX9_next_75 wc_X9_151 (n := 122) rfl (fun c24 ec24 => ?_)
            refine zr_callsi hG (rest := []) dX9_next_78 wm_X9_91 (c_M_in K hG.2.2.2.2.2.1 (zc_u (zc_u σ2 0 11 (σ2.1 0 10)) 0 13 c18) l22 c23 c24 hOw19 ) rfl rfl (Nat.le_of_ble_eq_true rfl) ⟨Nat.le_of_ble_eq_true rfl, Nat.le_of_ble_eq_true rfl, rfl, rfl⟩ (fun r25 σ26 h27 => ?_)
            obtain ⟨rfl, r25q⟩ := h27
            have r25z := r25q.b
            refine zr_if_eq hB dX9_next_81 (tgt := 126) rfl (fun c28 => ?_) (fun c28 => ?_)
            · have q29 := r25q.f c28
              refine zr_iload_n hB 0 dX9_next_126 rfl ?_
              refine zr_i2l hB dX9_next_127 (fun l30 el30 => ?_)
              refine zr_ldc2 hB dX9_next_128 wc_X9_153 (n := 48) rfl (fun c31 ec31 => ?_)
              refine zr_ldc2 hB dX9_next_131 wc_X9_155 (n := 57) rfl (fun c32 ec32 => ?_)
              refine zr_callsi hG (rest := []) dX9_next_134 wm_X9_91 (c_M_in K hG.2.2.2.2.2.1 (zc_u (zc_u σ2 0 11 (σ2.1 0 10)) 0 13 c18) l30 c31 c32 hOw19 ) rfl rfl (Nat.le_of_ble_eq_true rfl) ⟨Nat.le_of_ble_eq_true rfl, Nat.le_of_ble_eq_true rfl, rfl, rfl⟩ (fun r33 σ34 h35 => ?_)
              obtain ⟨rfl, r33q⟩ := h35
              have r33z := r33q.b
              refine zr_if_eq hB dX9_next_137 (tgt := 243) rfl (fun c36 => ?_) (fun c36 => ?_)
              · have q37 := r33q.f c36
                refine zr_aload_n hB 1 dX9_next_243 rfl ?_
                refine zr_iconst hB dX9_next_244 rfl (fun c38 ec38 => ?_)
                refine zr_puti hG 0 12 dX9_next_245 rfl wp_X9_146 rfl ?_
                have hOw39 := zc_O.u hOw19 0 12 (v := c38) (show 0 ≤ c38.toInt by omega) (show c38.toInt ≤ 3 by omega) (Or.inr (show 0 ≤ c38.toInt by omega))
                have hAw39 := zc_Ag.u hAw19 0 12 c38 rfl
                refine zr_aload_n hB 1 dX9_next_248 rfl ?_
                refine zr_dup hB dX9_next_249 rfl ?_
                refine zr_geti' hG 0 10 (σ2.1 0 10) dX9_next_250 rfl wf_X9_137 rfl rfl ?_
                refine zr_iconst hB dX9_next_253 rfl (fun c40 ec40 => ?_)
                refine zr_iadd hB dX9_next_254 (by omega) (by omega) (fun x41 ex41 => ?_)
                refine zr_puti hG 0 10 dX9_next_255 rfl wp_X9_137 rfl ?_
                have hOw42 := zc_O.u hOw39 0 10 (v := x41) (show 0 ≤ x41.toInt by omega) (show x41.toInt ≤ 120 by omega) (Or.inr (show 0 ≤ x41.toInt by omega))
                have hAw42 := zc_Ag.u hAw39 0 10 x41 rfl
                refine zr_iload_n hB 0 dX9_next_258 rfl ?_
                refine zr_bipush hB dX9_next_259 rfl (fun c43 ec43 => ?_)
                refine zr_icmp_eq hB dX9_next_261 (tgt := 269) rfl (fun c44 => ?_) (fun c44 => ?_)
                · exact zr_vret hG dX9_next_269 ⟨hOw42, hAw42, (show ((σ0.1 0 8).toInt = 0 ∨ 1 ≤ (σ2.1 0 8).toInt) by omega)⟩
                refine zr_aload_n hB 1 dX9_next_264 rfl ?_
                refine zr_iconst hB dX9_next_265 rfl (fun c45 ec45 => ?_)
                refine zr_callvn hG (rest := []) 0 dX9_next_266 wm_X9_157 rfl rfl (c_M_fails K hG.2.2.2.2.2.1 (zc_u (zc_u (zc_u (zc_u σ2 0 11 (σ2.1 0 10)) 0 13 c18) 0 12 c38) 0 10 x41) c45 hOw42 (by omega) (by omega)) rfl rfl (Nat.le_of_ble_eq_true rfl) ⟨Nat.le_of_ble_eq_true rfl, Nat.le_of_ble_eq_true rfl, rfl, rfl⟩ (fun σ47 h48 => ?_)
                obtain ⟨hO49, hAc50, g51⟩ := h48
                have hA52 := zc_Ag.tr hAw42 hAc50 rfl
                have q53 : (σ47.1 0 10).toInt = x41.toInt := congrArg Int32.toInt (hAc50 0 10 rfl).1
                have q54 : (σ47.1 0 11).toInt = (σ2.1 0 10).toInt := congrArg Int32.toInt (hAc50 0 11 rfl).1
                have q55 : (σ47.1 0 13).toInt = c18.toInt := congrArg Int32.toInt (hAc50 0 13 rfl).1
                have q56 : (σ47.1 0 12).toInt = c38.toInt := congrArg Int32.toInt (hAc50 0 12 rfl).1
                have g51' : 1 ≤ (σ47.1 0 8).toInt := g51
                exact zr_vret hG dX9_next_269 ⟨hO49, hA52, (show ((σ0.1 0 8).toInt = 0 ∨ 1 ≤ (σ47.1 0 8).toInt) by omega)⟩
              have q57 := r33q.t c36
              have L140_61 : ∀ (n140 : Nat) (σ58 : zc_S) , zc_O okM σ58 → zc_Ag m_M_next σ0 σ58 → 0 ≤ (σ58.1 0 10).toInt → (σ58.1 0 10).toInt ≤ 120 → 120 - (σ58.1 0 10).toInt < (n140 : Int) → zc_V 2 K G (zc_D shM K G σ58) [(0, .ref (zk K 0)), (1, .int r14)] 140 [] := by
                intro n140
                induction n140 with
                | zero => intro σ58 hO58 hA58 e59 e60 hn140; exfalso; omega
                | succ n140 ih140 =>
                  intro σ58 hO58 hA58 e59 e60 hn140
                  refine zr_aload_n hB 0 dX9_next_140 rfl ?_
                  refine zr_aload_n hB 0 dX9_next_141 rfl ?_
                  refine zr_geti' hG 0 10 (σ58.1 0 10) dX9_next_142 rfl wf_X9_137 rfl rfl ?_
                  have b62 : 0 ≤ (σ58.1 0 10).toInt ∧ (σ58.1 0 10).toInt ≤ 120 := ⟨(hO58 0 10).1, (hO58 0 10).2.1⟩
                  refine zr_callvi hG (rest := []) 0 dX9_next_145 wm_X9_140 rfl rfl (c_M_byteAt K hG.2.2.2.2.2.1 σ58 (σ58.1 0 10) hO58 (by omega)) rfl rfl (Nat.le_of_ble_eq_true rfl) ⟨Nat.le_of_ble_eq_true rfl, Nat.le_of_ble_eq_true rfl, rfl, rfl⟩ (fun r63 σ64 h65 => ?_)
                  obtain ⟨rfl, r63a, r63b, r63h, g66⟩ := h65
                  refine zr_i2l hB dX9_next_148 (fun l67 el67 => ?_)
                  refine zr_ldc2 hB dX9_next_149 wc_X9_153 (n := 48) rfl (fun c68 ec68 => ?_)
                  refine zr_ldc2 hB dX9_next_152 wc_X9_155 (n := 57) rfl (fun c69 ec69 => ?_)
                  refine zr_callsi hG (rest := []) dX9_next_155 wm_X9_91 (c_M_in K hG.2.2.2.2.2.1 σ58 l67 c68 c69 hO58 ) rfl rfl (Nat.le_of_ble_eq_true rfl) ⟨Nat.le_of_ble_eq_true rfl, Nat.le_of_ble_eq_true rfl, rfl, rfl⟩ (fun r70 σ71 h72 => ?_)
                  obtain ⟨rfl, r70q⟩ := h72
                  have r70z := r70q.b
                  refine zr_if_eq hB dX9_next_158 (tgt := 217) rfl (fun c73 => ?_) (fun c73 => ?_)
                  · have q74 := r70q.f c73
                    refine zr_aload_n hB 0 dX9_next_217 rfl ?_
                    refine zr_iconst hB dX9_next_218 rfl (fun c75 ec75 => ?_)
                    refine zr_puti hG 0 12 dX9_next_219 rfl wp_X9_146 rfl ?_
                    have hOw76 := zc_O.u hO58 0 12 (v := c75) (show 0 ≤ c75.toInt by omega) (show c75.toInt ≤ 3 by omega) (Or.inr (show 0 ≤ c75.toInt by omega))
                    have hAw76 := zc_Ag.u hA58 0 12 c75 rfl
                    refine zr_aload_n hB 0 dX9_next_222 rfl ?_
                    refine zr_geti' hG 0 10 (σ58.1 0 10) dX9_next_223 rfl wf_X9_137 rfl rfl ?_
                    refine zr_aload_n hB 0 dX9_next_226 rfl ?_
                    refine zr_geti' hG 0 11 (σ58.1 0 11) dX9_next_227 rfl wf_X9_131 rfl rfl ?_
                    have b77 : 0 ≤ (σ58.1 0 11).toInt ∧ (σ58.1 0 11).toInt ≤ 120 := ⟨(hOw76 0 11).1, (hOw76 0 11).2.1⟩
                    refine zr_isub hB dX9_next_230 (by omega) (by omega) (fun x78 ex78 => ?_)
                    refine zr_iconst hB dX9_next_231 rfl (fun c79 ec79 => ?_)
                    refine zr_icmp_le hB dX9_next_232 (tgt := 269) rfl (fun c80 => ?_) (fun c80 => ?_)
                    · exact zr_vret hG dX9_next_269 ⟨hOw76, hAw76, (show ((σ0.1 0 8).toInt = 0 ∨ 1 ≤ (σ58.1 0 8).toInt) by omega)⟩
                    refine zr_aload_n hB 0 dX9_next_235 rfl ?_
                    refine zr_iconst hB dX9_next_236 rfl (fun c81 ec81 => ?_)
                    refine zr_callvn hG (rest := []) 0 dX9_next_237 wm_X9_157 rfl rfl (c_M_fails K hG.2.2.2.2.2.1 (zc_u σ58 0 12 c75) c81 hOw76 (by omega) (by omega)) rfl rfl (Nat.le_of_ble_eq_true rfl) ⟨Nat.le_of_ble_eq_true rfl, Nat.le_of_ble_eq_true rfl, rfl, rfl⟩ (fun σ83 h84 => ?_)
                    obtain ⟨hO85, hAc86, g87⟩ := h84
                    have hA88 := zc_Ag.tr hAw76 hAc86 rfl
                    have q89 : (σ83.1 0 10).toInt = (σ58.1 0 10).toInt := congrArg Int32.toInt (hAc86 0 10 rfl).1
                    have q90 : (σ83.1 0 12).toInt = c75.toInt := congrArg Int32.toInt (hAc86 0 12 rfl).1
                    have q91 : (σ83.1 0 11).toInt = (σ58.1 0 11).toInt := congrArg Int32.toInt (hAc86 0 11 rfl).1
                    have g87' : 1 ≤ (σ83.1 0 8).toInt := g87
                    refine zr_goto hB dX9_next_240 (tgt := 269) rfl ?_
                    exact zr_vret hG dX9_next_269 ⟨hO85, hA88, (show ((σ0.1 0 8).toInt = 0 ∨ 1 ≤ (σ83.1 0 8).toInt) by omega)⟩
                  have q92 := r70q.t c73
                  refine zr_aload_n hB 0 dX9_next_161 rfl ?_
                  refine zr_aload_n hB 0 dX9_next_162 rfl ?_
                  refine zr_geti' hG 0 10 (σ58.1 0 10) dX9_next_163 rfl wf_X9_137 rfl rfl ?_
                  refine zr_aload_n hB 0 dX9_next_166 rfl ?_
                  refine zr_geti' hG 0 11 (σ58.1 0 11) dX9_next_167 rfl wf_X9_131 rfl rfl ?_
                  have b93 : 0 ≤ (σ58.1 0 11).toInt ∧ (σ58.1 0 11).toInt ≤ 120 := ⟨(hO58 0 11).1, (hO58 0 11).2.1⟩
                  refine zr_isub hB dX9_next_170 (by omega) (by omega) (fun x94 ex94 => ?_)
                  refine zr_iconst hB dX9_next_171 rfl (fun c95 ec95 => ?_)
                  refine zr_icmp_ge hB dX9_next_172 (tgt := 197) rfl (fun c96 => ?_) (fun c96 => ?_)
                  · refine zr_aload_n hB 0 dX9_next_197 rfl ?_
                    refine zr_geti' hG 0 13 (σ58.1 0 13) dX9_next_198 rfl wf_X9_143 rfl rfl ?_
                    refine zr_puti hG 0 13 dX9_next_201 rfl wp_X9_143 rfl ?_
                    have hOw97 := zc_O.u hO58 0 13 (v := (σ58.1 0 13)) (zn_lo _) (zn_hi _) (Or.inr (zn_lo _))
                    have hAw97 := zc_Ag.u hA58 0 13 (σ58.1 0 13) rfl
                    refine zr_aload_n hB 0 dX9_next_204 rfl ?_
                    refine zr_dup hB dX9_next_205 rfl ?_
                    refine zr_geti' hG 0 10 (σ58.1 0 10) dX9_next_206 rfl wf_X9_137 rfl rfl ?_
                    refine zr_iconst hB dX9_next_209 rfl (fun c98 ec98 => ?_)
                    refine zr_iadd hB dX9_next_210 (by omega) (by omega) (fun x99 ex99 => ?_)
                    refine zr_puti hG 0 10 dX9_next_211 rfl wp_X9_137 rfl ?_
                    have hOw100 := zc_O.u hOw97 0 10 (v := x99) (show 0 ≤ x99.toInt by omega) (show x99.toInt ≤ 120 by omega) (Or.inr (show 0 ≤ x99.toInt by omega))
                    have hAw100 := zc_Ag.u hAw97 0 10 x99 rfl
                    refine zr_goto hB dX9_next_214 (tgt := 140) rfl ?_
                    exact ih140 (zc_u (zc_u σ58 0 13 (σ58.1 0 13)) 0 10 x99) hOw100 hAw100 (show 0 ≤ x99.toInt by omega) (show x99.toInt ≤ 120 by omega) (show 120 - x99.toInt < (n140 : Int) by omega)
                  refine zr_bipush hB dX9_next_175 rfl (fun c101 ec101 => ?_)
                  refine zr_aload_n hB 0 dX9_next_177 rfl ?_
                  refine zr_geti' hG 0 13 (σ58.1 0 13) dX9_next_178 rfl wf_X9_143 rfl rfl ?_
                  refine zr_imulw hB dX9_next_181 (fun x102 ex102 => ?_)
                  refine zr_aload_n hB 0 dX9_next_182 rfl ?_
                  refine zr_aload_n hB 0 dX9_next_183 rfl ?_
                  refine zr_geti' hG 0 10 (σ58.1 0 10) dX9_next_184 rfl wf_X9_137 rfl rfl ?_
                  refine zr_callvi hG (rest := [.int x102, .ref (zk K 0)]) 0 dX9_next_187 wm_X9_140 rfl rfl (c_M_byteAt K hG.2.2.2.2.2.1 σ58 (σ58.1 0 10) hO58 (by omega)) rfl rfl (Nat.le_of_ble_eq_true rfl) ⟨Nat.le_of_ble_eq_true rfl, Nat.le_of_ble_eq_true rfl, rfl, rfl⟩ (fun r103 σ104 h105 => ?_)
                  obtain ⟨rfl, r103a, r103b, r103h, g106⟩ := h105
                  refine zr_iaddw hB dX9_next_190 (fun x107 ex107 => ?_)
                  refine zr_bipush hB dX9_next_191 rfl (fun c108 ec108 => ?_)
                  refine zr_isubw hB dX9_next_193 (fun x109 ex109 => ?_)
                  refine zr_goto hB dX9_next_194 (tgt := 201) rfl ?_
                  refine zr_puti hG 0 13 dX9_next_201 rfl wp_X9_143 rfl ?_
                  have hOw110 := zc_O.u hO58 0 13 (v := x109) (zn_lo _) (zn_hi _) (Or.inr (zn_lo _))
                  have hAw110 := zc_Ag.u hA58 0 13 x109 rfl
                  refine zr_aload_n hB 0 dX9_next_204 rfl ?_
                  refine zr_dup hB dX9_next_205 rfl ?_
                  refine zr_geti' hG 0 10 (σ58.1 0 10) dX9_next_206 rfl wf_X9_137 rfl rfl ?_
                  refine zr_iconst hB dX9_next_209 rfl (fun c111 ec111 => ?_)
                  refine zr_iadd hB dX9_next_210 (by omega) (by omega) (fun x112 ex112 => ?_)
                  refine zr_puti hG 0 10 dX9_next_211 rfl wp_X9_137 rfl ?_
                  have hOw113 := zc_O.u hOw110 0 10 (v := x112) (show 0 ≤ x112.toInt by omega) (show x112.toInt ≤ 120 by omega) (Or.inr (show 0 ≤ x112.toInt by omega))
                  have hAw113 := zc_Ag.u hAw110 0 10 x112 rfl
                  refine zr_goto hB dX9_next_214 (tgt := 140) rfl ?_
                  exact ih140 (zc_u (zc_u σ58 0 13 x109) 0 10 x112) hOw113 hAw113 (show 0 ≤ x112.toInt by omega) (show x112.toInt ≤ 120 by omega) (show 120 - x112.toInt < (n140 : Int) by omega)
              exact zc_sub [1, 0] rfl (L140_61 122 (zc_u (zc_u σ2 0 11 (σ2.1 0 10)) 0 13 c18) hOw19 hAw19 (show 0 ≤ (σ2.1 0 10).toInt by omega) (show (σ2.1 0 10).toInt ≤ 120 by omega) (show 120 - (σ2.1 0 10).toInt < ((122 : Nat) : Int) by omega))
            have q114 := r25q.t c28
            have L84_118 : ∀ (n84 : Nat) (σ115 : zc_S) , zc_O okM σ115 → zc_Ag m_M_next σ0 σ115 → 0 ≤ (σ115.1 0 10).toInt → (σ115.1 0 10).toInt ≤ 120 → 120 - (σ115.1 0 10).toInt < (n84 : Int) → zc_V 2 K G (zc_D shM K G σ115) [(0, .ref (zk K 0)), (1, .int r14)] 84 [] := by
              intro n84
              induction n84 with
              | zero => intro σ115 hO115 hA115 e116 e117 hn84; exfalso; omega
              | succ n84 ih84 =>
                intro σ115 hO115 hA115 e116 e117 hn84
                refine zr_aload_n hB 0 dX9_next_84 rfl ?_
                refine zr_aload_n hB 0 dX9_next_85 rfl ?_
                refine zr_geti' hG 0 10 (σ115.1 0 10) dX9_next_86 rfl wf_X9_137 rfl rfl ?_
                have b119 : 0 ≤ (σ115.1 0 10).toInt ∧ (σ115.1 0 10).toInt ≤ 120 := ⟨(hO115 0 10).1, (hO115 0 10).2.1⟩
                refine zr_callvi hG (rest := []) 0 dX9_next_89 wm_X9_140 rfl rfl (c_M_byteAt K hG.2.2.2.2.2.1 σ115 (σ115.1 0 10) hO115 (by omega)) rfl rfl (Nat.le_of_ble_eq_true rfl) ⟨Nat.le_of_ble_eq_true rfl, Nat.le_of_ble_eq_true rfl, rfl, rfl⟩ (fun r120 σ121 h122 => ?_)
                obtain ⟨rfl, r120a, r120b, r120h, g123⟩ := h122
                refine zr_i2l hB dX9_next_92 (fun l124 el124 => ?_)
                refine zr_ldc2 hB dX9_next_93 wc_X9_149 (n := 97) rfl (fun c125 ec125 => ?_)
                refine zr_ldc2 hB dX9_next_96 wc_X9_151 (n := 122) rfl (fun c126 ec126 => ?_)
                refine zr_callsi hG (rest := []) dX9_next_99 wm_X9_91 (c_M_in K hG.2.2.2.2.2.1 σ115 l124 c125 c126 hO115 ) rfl rfl (Nat.le_of_ble_eq_true rfl) ⟨Nat.le_of_ble_eq_true rfl, Nat.le_of_ble_eq_true rfl, rfl, rfl⟩ (fun r127 σ128 h129 => ?_)
                obtain ⟨rfl, r127q⟩ := h129
                have r127z := r127q.b
                refine zr_if_eq hB dX9_next_102 (tgt := 118) rfl (fun c130 => ?_) (fun c130 => ?_)
                · have q131 := r127q.f c130
                  refine zr_aload_n hB 0 dX9_next_118 rfl ?_
                  refine zr_iconst hB dX9_next_119 rfl (fun c132 ec132 => ?_)
                  refine zr_puti hG 0 12 dX9_next_120 rfl wp_X9_146 rfl ?_
                  have hOw133 := zc_O.u hO115 0 12 (v := c132) (show 0 ≤ c132.toInt by omega) (show c132.toInt ≤ 3 by omega) (Or.inr (show 0 ≤ c132.toInt by omega))
                  have hAw133 := zc_Ag.u hA115 0 12 c132 rfl
                  refine zr_goto hB dX9_next_123 (tgt := 269) rfl ?_
                  exact zr_vret hG dX9_next_269 ⟨hOw133, hAw133, (show ((σ0.1 0 8).toInt = 0 ∨ 1 ≤ (σ115.1 0 8).toInt) by omega)⟩
                have q134 := r127q.t c130
                refine zr_aload_n hB 0 dX9_next_105 rfl ?_
                refine zr_dup hB dX9_next_106 rfl ?_
                refine zr_geti' hG 0 10 (σ115.1 0 10) dX9_next_107 rfl wf_X9_137 rfl rfl ?_
                refine zr_iconst hB dX9_next_110 rfl (fun c135 ec135 => ?_)
                refine zr_iadd hB dX9_next_111 (by omega) (by omega) (fun x136 ex136 => ?_)
                refine zr_puti hG 0 10 dX9_next_112 rfl wp_X9_137 rfl ?_
                have hOw137 := zc_O.u hO115 0 10 (v := x136) (show 0 ≤ x136.toInt by omega) (show x136.toInt ≤ 120 by omega) (Or.inr (show 0 ≤ x136.toInt by omega))
                have hAw137 := zc_Ag.u hA115 0 10 x136 rfl
                refine zr_goto hB dX9_next_115 (tgt := 84) rfl ?_
                exact ih84 (zc_u σ115 0 10 x136) hOw137 hAw137 (show 0 ≤ x136.toInt by omega) (show x136.toInt ≤ 120 by omega) (show 120 - x136.toInt < (n84 : Int) by omega)
            exact zc_sub [1, 0] rfl (L84_118 122 (zc_u (zc_u σ2 0 11 (σ2.1 0 10)) 0 13 c18) hOw19 hAw19 (show 0 ≤ (σ2.1 0 10).toInt by omega) (show (σ2.1 0 10).toInt ≤ 120 by omega) (show 120 - (σ2.1 0 10).toInt < ((122 : Nat) : Int) by omega))
          refine zr_aload_n hB 1 dX9_next_62 rfl ?_
          refine zr_iconst hB dX9_next_63 rfl (fun c138 ec138 => ?_)
          refine zr_puti hG 0 12 dX9_next_64 rfl wp_X9_146 rfl ?_
          have hOw139 := zc_O.u hOw19 0 12 (v := c138) (show 0 ≤ c138.toInt by omega) (show c138.toInt ≤ 3 by omega) (Or.inr (show 0 ≤ c138.toInt by omega))
          have hAw139 := zc_Ag.u hAw19 0 12 c138 rfl
          refine zr_goto hB dX9_next_67 (tgt := 269) rfl ?_
          exact zr_vret hG dX9_next_269 ⟨hOw139, hAw139, (show ((σ0.1 0 8).toInt = 0 ∨ 1 ≤ (σ2.1 0 8).toInt) by omega)⟩
        refine zr_aload_n hB 0 dX9_next_21 rfl ?_
        refine zr_dup hB dX9_next_22 rfl ?_
        refine zr_geti' hG 0 10 (σ2.1 0 10) dX9_next_23 rfl wf_X9_137 rfl rfl ?_
        refine zr_iconst hB dX9_next_26 rfl (fun c140 ec140 => ?_)
        refine zr_iadd hB dX9_next_27 (by omega) (by omega) (fun x141 ex141 => ?_)
        refine zr_puti hG 0 10 dX9_next_28 rfl wp_X9_137 rfl ?_
        have hOw142 := zc_O.u hO2 0 10 (v := x141) (show 0 ≤ x141.toInt by omega) (show x141.toInt ≤ 120 by omega) (Or.inr (show 0 ≤ x141.toInt by omega))
        have hAw142 := zc_Ag.u hA2 0 10 x141 rfl
        refine zr_goto hB dX9_next_31 (tgt := 8) rfl ?_
        exact ih8 (zc_u σ2 0 10 x141) hOw142 hAw142 (show 0 ≤ x141.toInt by omega) (show x141.toInt ≤ 120 by omega) (show 120 - x141.toInt < (n8 : Int) by omega)
    exact L8_5 122 σ0 hO0 hA0 (show 0 ≤ (σ0.1 0 10).toInt by omega) (show (σ0.1 0 10).toInt ≤ 120 by omega) (show 120 - (σ0.1 0 10).toInt < ((122 : Nat) : Int) by omega)
  exact zr_vret hG dX9_next_7 ⟨hO0, hA0, (show ((σ0.1 0 8).toInt = 0 ∨ 1 ≤ (σ0.1 0 8).toInt) by omega)⟩

set_option maxHeartbeats 1000000 in
set_option maxRecDepth 100000 in
theorem c_M_nameHere (K : zc_K) (hi : zc_inj shM K.2.2.2.1) (σ0 : zc_S)  (hO0 : zc_O okM σ0)  : zc_M shM K yX9_nameHere cX9_nameHere 4 (some .int) (zrm 1 21) σ0 [.ref (zk K 0)] (zc_I (fun r9 σ9 => σ0 = σ9 ∧ (-4) ≤ r9.toInt ∧ r9.toInt ≤ 4 ∧ (r9.toInt = (-4) ∨ 0 ≤ r9.toInt))) := by
  refine zc_start RX9 hi pfX9_nameHere rfl (Nat.le_of_ble_eq_true rfl) ?_
  intro G hG
  have hB := hG.1
  show zc_V 4 K G (zc_D shM K G σ0) [(0, .ref (zk K 0))] 0 []
  have bw0_10 : 0 ≤ (σ0.1 0 10).toInt ∧ (σ0.1 0 10).toInt ≤ 120 := ⟨(hO0 0 10).1, (hO0 0 10).2.1⟩
  have bw0_11 : 0 ≤ (σ0.1 0 11).toInt ∧ (σ0.1 0 11).toInt ≤ 120 := ⟨(hO0 0 11).1, (hO0 0 11).2.1⟩
  refine zr_iconst hB dX9_nameHere_0 rfl (fun c1 ec1 => ?_)
  refine zr_istore_n hB dX9_nameHere_1 rfl (by decide) (lv' := [(1, .int c1), (0, .ref (zk K 0))]) rfl ?_
  have L2_3 : ∀ (n2 : Nat) (y1_2 : Int32), 0 ≤ y1_2.toInt → y1_2.toInt ≤ 5 → 5 - y1_2.toInt < (n2 : Int) → zc_V 4 K G (zc_D shM K G σ0) [(0, .ref (zk K 0)), (1, .int y1_2)] 2 [] := by
    intro n2
    induction n2 with
    | zero => intro y1_2 y1_2a y1_2b hn2; exfalso; omega
    | succ n2 ih2 =>
      intro y1_2 y1_2a y1_2b hn2
      refine zr_iload_n hB 1 dX9_nameHere_2 rfl ?_
      refine zr_iconst hB dX9_nameHere_3 rfl (fun c4 ec4 => ?_)
      refine zr_icmp_ge hB dX9_nameHere_4 (tgt := 117) rfl (fun c5 => ?_) (fun c5 => ?_)
      · refine zr_bipush hB dX9_nameHere_117 rfl (fun c6 ec6 => ?_)
        exact zr_iret hG dX9_nameHere_119 ⟨rfl, by omega, by omega, by omega⟩
      refine zr_aload_n hB 0 dX9_nameHere_7 rfl ?_
      refine zr_geti' hG 0 12 (σ0.1 0 12) dX9_nameHere_8 rfl wf_X9_146 rfl rfl ?_
      have b7 : 0 ≤ (σ0.1 0 12).toInt ∧ (σ0.1 0 12).toInt ≤ 3 := ⟨(hO0 0 12).1, (hO0 0 12).2.1⟩
      refine zr_iconst hB dX9_nameHere_11 rfl (fun c8 ec8 => ?_)
      refine zr_icmp_ne hB dX9_nameHere_12 (tgt := 46) rfl (fun c9 => ?_) (fun c9 => ?_)
      · refine zr_iconst hB dX9_nameHere_46 rfl (fun c10 ec10 => ?_)
        refine zr_istore_n hB dX9_nameHere_47 rfl (by decide) (lv' := [(2, .int c10), (0, .ref (zk K 0)), (1, .int y1_2)]) rfl ?_
        refine zr_iconst hB dX9_nameHere_48 rfl (fun c11 ec11 => ?_)
        refine zr_istore_n hB dX9_nameHere_49 rfl (by decide) (lv' := [(3, .int c11), (2, .int c10), (0, .ref (zk K 0)), (1, .int y1_2)]) rfl ?_
        have L50_15 : ∀ (n50 : Nat) (y2_12 : Int32) (y3_13 : Int32), 0 ≤ y2_12.toInt → y2_12.toInt ≤ 1 → 0 ≤ y3_13.toInt → y3_13.toInt ≤ 120 → y2_12.toInt = 0 → 120 - y3_13.toInt < (n50 : Int) → zc_V 4 K G (zc_D shM K G σ0) [(0, .ref (zk K 0)), (1, .int y1_2), (2, .int y2_12), (3, .int y3_13)] 50 [] := by
          intro n50
          induction n50 with
          | zero => intro y2_12 y3_13 y2_12a y2_12b y3_13a y3_13b e14 hn50; exfalso; omega
          | succ n50 ih50 =>
            intro y2_12 y3_13 y2_12a y2_12b y3_13a y3_13b e14 hn50
            refine zr_iload_n hB 2 dX9_nameHere_50 rfl ?_
            refine zr_if_eq hB dX9_nameHere_51 (tgt := 105) rfl (fun c16 => ?_) (fun c16 => ?_)
            · refine zr_iload_n hB 2 dX9_nameHere_105 rfl ?_
              refine zr_if_eq hB dX9_nameHere_106 (tgt := 111) rfl (fun c17 => ?_) (fun c17 => ?_)
              · refine zr_iinc hB 1 dX9_nameHere_111 rfl (by decide) rfl (by omega) (by omega) (fun x18 ex18 lv' hlv => ?_)
                obtain rfl : [(1, .int x18), (0, .ref (zk K 0)), (2, .int y2_12), (3, .int y3_13)] = lv' := hlv
                refine zr_goto hB dX9_nameHere_114 (tgt := 2) rfl ?_
                exact zc_sub [1, 0] rfl (ih2 x18 (by omega) (by omega) (by omega))
              exfalso; omega
            refine zr_iload_n hB 3 dX9_nameHere_54 rfl ?_
            refine zr_aload_n hB 0 dX9_nameHere_55 rfl ?_
            refine zr_geti' hG 0 10 (σ0.1 0 10) dX9_nameHere_56 rfl wf_X9_137 rfl rfl ?_
            refine zr_aload_n hB 0 dX9_nameHere_59 rfl ?_
            refine zr_geti' hG 0 11 (σ0.1 0 11) dX9_nameHere_60 rfl wf_X9_131 rfl rfl ?_
            refine zr_isub hB dX9_nameHere_63 (by omega) (by omega) (fun x19 ex19 => ?_)
            refine zr_icmp_ge hB dX9_nameHere_64 (tgt := 105) rfl (fun c20 => ?_) (fun c20 => ?_)
            · refine zr_iload_n hB 2 dX9_nameHere_105 rfl ?_
              refine zr_if_eq hB dX9_nameHere_106 (tgt := 111) rfl (fun c21 => ?_) (fun c21 => ?_)
              · exfalso; omega
              refine zr_iload_n hB 1 dX9_nameHere_109 rfl ?_
              exact zr_iret hG dX9_nameHere_110 ⟨rfl, by omega, by omega, by omega⟩
            refine zr_aload_n hB 0 dX9_nameHere_67 rfl ?_
            refine zr_aload_n hB 0 dX9_nameHere_68 rfl ?_
            refine zr_geti' hG 0 11 (σ0.1 0 11) dX9_nameHere_69 rfl wf_X9_131 rfl rfl ?_
            refine zr_iload_n hB 3 dX9_nameHere_72 rfl ?_
            refine zr_iadd hB dX9_nameHere_73 (by omega) (by omega) (fun x22 ex22 => ?_)
            refine zr_callvi hG (rest := []) 0 dX9_nameHere_74 wm_X9_140 rfl rfl (c_M_byteAt K hG.2.2.2.2.2.1 σ0 x22 hO0 (by omega)) rfl rfl (Nat.le_of_ble_eq_true rfl) ⟨Nat.le_of_ble_eq_true rfl, Nat.le_of_ble_eq_true rfl, rfl, rfl⟩ (fun r23 σ24 h25 => ?_)
            obtain ⟨rfl, r23a, r23b, r23h, g26⟩ := h25
            refine zr_aload_n hB 0 dX9_nameHere_77 rfl ?_
            refine zr_getr hG 0 15 dX9_nameHere_78 rfl wf_X9_26 rfl ?_
            refine zr_aload_n hB 0 dX9_nameHere_81 rfl ?_
            refine zr_getr hG 0 14 dX9_nameHere_82 rfl wf_X9_23 rfl ?_
            refine zr_iload_n hB 1 dX9_nameHere_85 rfl ?_
            refine zr_iald hG 5 dX9_nameHere_86 rfl (by omega) (by omega) (fun x27 ex27 => ?_)
            have bx27 : 0 ≤ x27.toInt ∧ x27.toInt ≤ 22 := by rw [ex27]; exact ⟨(hO0 5 _).1, (hO0 5 _).2.1⟩
            refine zr_iload_n hB 3 dX9_nameHere_87 rfl ?_
            refine zr_iadd hB dX9_nameHere_88 (by omega) (by omega) (fun x28 ex28 => ?_)
            refine zr_iald hG 6 dX9_nameHere_89 rfl (by omega) (by omega) (fun x29 ex29 => ?_)
            refine zr_icmp_ne hB dX9_nameHere_90 (tgt := 97) rfl (fun c30 => ?_) (fun c30 => ?_)
            · refine zr_iconst hB dX9_nameHere_97 rfl (fun c31 ec31 => ?_)
              refine zr_istore_n hB dX9_nameHere_98 rfl (by decide) (lv' := [(2, .int c31), (0, .ref (zk K 0)), (1, .int y1_2), (3, .int y3_13)]) rfl ?_
              refine zr_iinc hB 3 dX9_nameHere_99 rfl (by decide) rfl (by omega) (by omega) (fun x32 ex32 lv' hlv => ?_)
              obtain rfl : [(3, .int x32), (2, .int c31), (0, .ref (zk K 0)), (1, .int y1_2)] = lv' := hlv
              refine zr_goto hB dX9_nameHere_102 (tgt := 50) rfl ?_
              exact zc_sub [2, 3, 1, 0] rfl (ih50 c31 x32 (by omega) (by omega) (by omega) (by omega) (show c31.toInt = 0 by omega) (by omega))
            refine zr_iconst hB dX9_nameHere_93 rfl (fun c33 ec33 => ?_)
            refine zr_goto hB dX9_nameHere_94 (tgt := 98) rfl ?_
            refine zr_istore_n hB dX9_nameHere_98 rfl (by decide) (lv' := [(2, .int c33), (0, .ref (zk K 0)), (1, .int y1_2), (3, .int y3_13)]) rfl ?_
            refine zr_iinc hB 3 dX9_nameHere_99 rfl (by decide) rfl (by omega) (by omega) (fun x34 ex34 lv' hlv => ?_)
            obtain rfl : [(3, .int x34), (2, .int c33), (0, .ref (zk K 0)), (1, .int y1_2)] = lv' := hlv
            refine zr_goto hB dX9_nameHere_102 (tgt := 50) rfl ?_
            exact zc_sub [2, 3, 1, 0] rfl (ih50 c33 x34 (by omega) (by omega) (by omega) (by omega) (show c33.toInt = 0 by omega) (by omega))
        exact zc_sub [2, 3, 1, 0] rfl (L50_15 122 c10 c11 (by omega) (by omega) (by omega) (by omega) (show c10.toInt = 0 by omega) (by omega))
      refine zr_aload_n hB 0 dX9_nameHere_15 rfl ?_
      refine zr_geti' hG 0 10 (σ0.1 0 10) dX9_nameHere_16 rfl wf_X9_137 rfl rfl ?_
      refine zr_aload_n hB 0 dX9_nameHere_19 rfl ?_
      refine zr_geti' hG 0 11 (σ0.1 0 11) dX9_nameHere_20 rfl wf_X9_131 rfl rfl ?_
      refine zr_isub hB dX9_nameHere_23 (by omega) (by omega) (fun x35 ex35 => ?_)
      refine zr_aload_n hB 0 dX9_nameHere_24 rfl ?_
      refine zr_getr hG 0 14 dX9_nameHere_25 rfl wf_X9_23 rfl ?_
      refine zr_iload_n hB 1 dX9_nameHere_28 rfl ?_
      refine zr_iconst hB dX9_nameHere_29 rfl (fun c36 ec36 => ?_)
      refine zr_iadd hB dX9_nameHere_30 (by omega) (by omega) (fun x37 ex37 => ?_)
      refine zr_iald hG 5 dX9_nameHere_31 rfl (by omega) (by omega) (fun x38 ex38 => ?_)
      have bx38 : 0 ≤ x38.toInt ∧ x38.toInt ≤ 22 := by rw [ex38]; exact ⟨(hO0 5 _).1, (hO0 5 _).2.1⟩
      refine zr_aload_n hB 0 dX9_nameHere_32 rfl ?_
      refine zr_getr hG 0 14 dX9_nameHere_33 rfl wf_X9_23 rfl ?_
      refine zr_iload_n hB 1 dX9_nameHere_36 rfl ?_
      refine zr_iald hG 5 dX9_nameHere_37 rfl (by omega) (by omega) (fun x39 ex39 => ?_)
      have bx39 : 0 ≤ x39.toInt ∧ x39.toInt ≤ 22 := by rw [ex39]; exact ⟨(hO0 5 _).1, (hO0 5 _).2.1⟩
      refine zr_isub hB dX9_nameHere_38 (by omega) (by omega) (fun x40 ex40 => ?_)
      refine zr_icmp_ne hB dX9_nameHere_39 (tgt := 46) rfl (fun c41 => ?_) (fun c41 => ?_)
      · refine zr_iconst hB dX9_nameHere_46 rfl (fun c42 ec42 => ?_)
        refine zr_istore_n hB dX9_nameHere_47 rfl (by decide) (lv' := [(2, .int c42), (0, .ref (zk K 0)), (1, .int y1_2)]) rfl ?_
        refine zr_iconst hB dX9_nameHere_48 rfl (fun c43 ec43 => ?_)
        refine zr_istore_n hB dX9_nameHere_49 rfl (by decide) (lv' := [(3, .int c43), (2, .int c42), (0, .ref (zk K 0)), (1, .int y1_2)]) rfl ?_
        have L50_47 : ∀ (n50 : Nat) (y2_44 : Int32) (y3_45 : Int32), 0 ≤ y2_44.toInt → y2_44.toInt ≤ 1 → 0 ≤ y3_45.toInt → y3_45.toInt ≤ 120 → ((y2_44.toInt = 0 ∨ (σ0.1 0 10).toInt - (σ0.1 0 11).toInt = x38.toInt - x39.toInt)) → 120 - y3_45.toInt < (n50 : Int) → zc_V 4 K G (zc_D shM K G σ0) [(0, .ref (zk K 0)), (1, .int y1_2), (2, .int y2_44), (3, .int y3_45)] 50 [] := by
          intro n50
          induction n50 with
          | zero => intro y2_44 y3_45 y2_44a y2_44b y3_45a y3_45b e46 hn50; exfalso; omega
          | succ n50 ih50 =>
            intro y2_44 y3_45 y2_44a y2_44b y3_45a y3_45b e46 hn50
            refine zr_iload_n hB 2 dX9_nameHere_50 rfl ?_
            refine zr_if_eq hB dX9_nameHere_51 (tgt := 105) rfl (fun c48 => ?_) (fun c48 => ?_)
            · refine zr_iload_n hB 2 dX9_nameHere_105 rfl ?_
              refine zr_if_eq hB dX9_nameHere_106 (tgt := 111) rfl (fun c49 => ?_) (fun c49 => ?_)
              · refine zr_iinc hB 1 dX9_nameHere_111 rfl (by decide) rfl (by omega) (by omega) (fun x50 ex50 lv' hlv => ?_)
                obtain rfl : [(1, .int x50), (0, .ref (zk K 0)), (2, .int y2_44), (3, .int y3_45)] = lv' := hlv
                refine zr_goto hB dX9_nameHere_114 (tgt := 2) rfl ?_
                exact zc_sub [1, 0] rfl (ih2 x50 (by omega) (by omega) (by omega))
              exfalso; omega
            refine zr_iload_n hB 3 dX9_nameHere_54 rfl ?_
            refine zr_aload_n hB 0 dX9_nameHere_55 rfl ?_
            refine zr_geti' hG 0 10 (σ0.1 0 10) dX9_nameHere_56 rfl wf_X9_137 rfl rfl ?_
            refine zr_aload_n hB 0 dX9_nameHere_59 rfl ?_
            refine zr_geti' hG 0 11 (σ0.1 0 11) dX9_nameHere_60 rfl wf_X9_131 rfl rfl ?_
            refine zr_isub hB dX9_nameHere_63 (by omega) (by omega) (fun x51 ex51 => ?_)
            refine zr_icmp_ge hB dX9_nameHere_64 (tgt := 105) rfl (fun c52 => ?_) (fun c52 => ?_)
            · refine zr_iload_n hB 2 dX9_nameHere_105 rfl ?_
              refine zr_if_eq hB dX9_nameHere_106 (tgt := 111) rfl (fun c53 => ?_) (fun c53 => ?_)
              · exfalso; omega
              refine zr_iload_n hB 1 dX9_nameHere_109 rfl ?_
              exact zr_iret hG dX9_nameHere_110 ⟨rfl, by omega, by omega, by omega⟩
            refine zr_aload_n hB 0 dX9_nameHere_67 rfl ?_
            refine zr_aload_n hB 0 dX9_nameHere_68 rfl ?_
            refine zr_geti' hG 0 11 (σ0.1 0 11) dX9_nameHere_69 rfl wf_X9_131 rfl rfl ?_
            refine zr_iload_n hB 3 dX9_nameHere_72 rfl ?_
            refine zr_iadd hB dX9_nameHere_73 (by omega) (by omega) (fun x54 ex54 => ?_)
            refine zr_callvi hG (rest := []) 0 dX9_nameHere_74 wm_X9_140 rfl rfl (c_M_byteAt K hG.2.2.2.2.2.1 σ0 x54 hO0 (by omega)) rfl rfl (Nat.le_of_ble_eq_true rfl) ⟨Nat.le_of_ble_eq_true rfl, Nat.le_of_ble_eq_true rfl, rfl, rfl⟩ (fun r55 σ56 h57 => ?_)
            obtain ⟨rfl, r55a, r55b, r55h, g58⟩ := h57
            refine zr_aload_n hB 0 dX9_nameHere_77 rfl ?_
            refine zr_getr hG 0 15 dX9_nameHere_78 rfl wf_X9_26 rfl ?_
            refine zr_aload_n hB 0 dX9_nameHere_81 rfl ?_
            refine zr_getr hG 0 14 dX9_nameHere_82 rfl wf_X9_23 rfl ?_
            refine zr_iload_n hB 1 dX9_nameHere_85 rfl ?_
            refine zr_iald hG 5 dX9_nameHere_86 rfl (by omega) (by omega) (fun x59 ex59 => ?_)
            obtain rfl : x39 = x59 := ex39.trans ex59.symm
            refine zr_iload_n hB 3 dX9_nameHere_87 rfl ?_
            refine zr_iadd hB dX9_nameHere_88 (by omega) (by omega) (fun x60 ex60 => ?_)
            refine zr_iald hG 6 dX9_nameHere_89 rfl (by omega) (by omega) (fun x61 ex61 => ?_)
            refine zr_icmp_ne hB dX9_nameHere_90 (tgt := 97) rfl (fun c62 => ?_) (fun c62 => ?_)
            · refine zr_iconst hB dX9_nameHere_97 rfl (fun c63 ec63 => ?_)
              refine zr_istore_n hB dX9_nameHere_98 rfl (by decide) (lv' := [(2, .int c63), (0, .ref (zk K 0)), (1, .int y1_2), (3, .int y3_45)]) rfl ?_
              refine zr_iinc hB 3 dX9_nameHere_99 rfl (by decide) rfl (by omega) (by omega) (fun x64 ex64 lv' hlv => ?_)
              obtain rfl : [(3, .int x64), (2, .int c63), (0, .ref (zk K 0)), (1, .int y1_2)] = lv' := hlv
              refine zr_goto hB dX9_nameHere_102 (tgt := 50) rfl ?_
              exact zc_sub [2, 3, 1, 0] rfl (ih50 c63 x64 (by omega) (by omega) (by omega) (by omega) (show (c63.toInt = 0 ∨ (σ0.1 0 10).toInt - (σ0.1 0 11).toInt = x38.toInt - x39.toInt) by omega) (by omega))
            refine zr_iconst hB dX9_nameHere_93 rfl (fun c65 ec65 => ?_)
            refine zr_goto hB dX9_nameHere_94 (tgt := 98) rfl ?_
            refine zr_istore_n hB dX9_nameHere_98 rfl (by decide) (lv' := [(2, .int c65), (0, .ref (zk K 0)), (1, .int y1_2), (3, .int y3_45)]) rfl ?_
            refine zr_iinc hB 3 dX9_nameHere_99 rfl (by decide) rfl (by omega) (by omega) (fun x66 ex66 lv' hlv => ?_)
            obtain rfl : [(3, .int x66), (2, .int c65), (0, .ref (zk K 0)), (1, .int y1_2)] = lv' := hlv
            refine zr_goto hB dX9_nameHere_102 (tgt := 50) rfl ?_
            exact zc_sub [2, 3, 1, 0] rfl (ih50 c65 x66 (by omega) (by omega) (by omega) (by omega) (show (c65.toInt = 0 ∨ (σ0.1 0 10).toInt - (σ0.1 0 11).toInt = x38.toInt - x39.toInt) by omega) (by omega))
        exact zc_sub [2, 3, 1, 0] rfl (L50_47 122 c42 c43 (by omega) (by omega) (by omega) (by omega) (show (c42.toInt = 0 ∨ (σ0.1 0 10).toInt - (σ0.1 0 11).toInt = x38.toInt - x39.toInt) by omega) (by omega))
      refine zr_iconst hB dX9_nameHere_42 rfl (fun c67 ec67 => ?_)
      refine zr_goto hB dX9_nameHere_43 (tgt := 47) rfl ?_
      refine zr_istore_n hB dX9_nameHere_47 rfl (by decide) (lv' := [(2, .int c67), (0, .ref (zk K 0)), (1, .int y1_2)]) rfl ?_
      refine zr_iconst hB dX9_nameHere_48 rfl (fun c68 ec68 => ?_)
      refine zr_istore_n hB dX9_nameHere_49 rfl (by decide) (lv' := [(3, .int c68), (2, .int c67), (0, .ref (zk K 0)), (1, .int y1_2)]) rfl ?_
      have L50_72 : ∀ (n50 : Nat) (y2_69 : Int32) (y3_70 : Int32), 0 ≤ y2_69.toInt → y2_69.toInt ≤ 1 → 0 ≤ y3_70.toInt → y3_70.toInt ≤ 120 → ((y2_69.toInt = 0 ∨ (σ0.1 0 10).toInt - (σ0.1 0 11).toInt = x38.toInt - x39.toInt)) → 120 - y3_70.toInt < (n50 : Int) → zc_V 4 K G (zc_D shM K G σ0) [(0, .ref (zk K 0)), (1, .int y1_2), (2, .int y2_69), (3, .int y3_70)] 50 [] := by
        intro n50
        induction n50 with
        | zero => intro y2_69 y3_70 y2_69a y2_69b y3_70a y3_70b e71 hn50; exfalso; omega
        | succ n50 ih50 =>
          intro y2_69 y3_70 y2_69a y2_69b y3_70a y3_70b e71 hn50
          refine zr_iload_n hB 2 dX9_nameHere_50 rfl ?_
          refine zr_if_eq hB dX9_nameHere_51 (tgt := 105) rfl (fun c73 => ?_) (fun c73 => ?_)
          · refine zr_iload_n hB 2 dX9_nameHere_105 rfl ?_
            refine zr_if_eq hB dX9_nameHere_106 (tgt := 111) rfl (fun c74 => ?_) (fun c74 => ?_)
            · refine zr_iinc hB 1 dX9_nameHere_111 rfl (by decide) rfl (by omega) (by omega) (fun x75 ex75 lv' hlv => ?_)
              obtain rfl : [(1, .int x75), (0, .ref (zk K 0)), (2, .int y2_69), (3, .int y3_70)] = lv' := hlv
              refine zr_goto hB dX9_nameHere_114 (tgt := 2) rfl ?_
              exact zc_sub [1, 0] rfl (ih2 x75 (by omega) (by omega) (by omega))
            exfalso; omega
          refine zr_iload_n hB 3 dX9_nameHere_54 rfl ?_
          refine zr_aload_n hB 0 dX9_nameHere_55 rfl ?_
          refine zr_geti' hG 0 10 (σ0.1 0 10) dX9_nameHere_56 rfl wf_X9_137 rfl rfl ?_
          refine zr_aload_n hB 0 dX9_nameHere_59 rfl ?_
          refine zr_geti' hG 0 11 (σ0.1 0 11) dX9_nameHere_60 rfl wf_X9_131 rfl rfl ?_
          refine zr_isub hB dX9_nameHere_63 (by omega) (by omega) (fun x76 ex76 => ?_)
          refine zr_icmp_ge hB dX9_nameHere_64 (tgt := 105) rfl (fun c77 => ?_) (fun c77 => ?_)
          · refine zr_iload_n hB 2 dX9_nameHere_105 rfl ?_
            refine zr_if_eq hB dX9_nameHere_106 (tgt := 111) rfl (fun c78 => ?_) (fun c78 => ?_)
            · exfalso; omega
            refine zr_iload_n hB 1 dX9_nameHere_109 rfl ?_
            exact zr_iret hG dX9_nameHere_110 ⟨rfl, by omega, by omega, by omega⟩
          refine zr_aload_n hB 0 dX9_nameHere_67 rfl ?_
          refine zr_aload_n hB 0 dX9_nameHere_68 rfl ?_
          refine zr_geti' hG 0 11 (σ0.1 0 11) dX9_nameHere_69 rfl wf_X9_131 rfl rfl ?_
          refine zr_iload_n hB 3 dX9_nameHere_72 rfl ?_
          refine zr_iadd hB dX9_nameHere_73 (by omega) (by omega) (fun x79 ex79 => ?_)
          refine zr_callvi hG (rest := []) 0 dX9_nameHere_74 wm_X9_140 rfl rfl (c_M_byteAt K hG.2.2.2.2.2.1 σ0 x79 hO0 (by omega)) rfl rfl (Nat.le_of_ble_eq_true rfl) ⟨Nat.le_of_ble_eq_true rfl, Nat.le_of_ble_eq_true rfl, rfl, rfl⟩ (fun r80 σ81 h82 => ?_)
          obtain ⟨rfl, r80a, r80b, r80h, g83⟩ := h82
          refine zr_aload_n hB 0 dX9_nameHere_77 rfl ?_
          refine zr_getr hG 0 15 dX9_nameHere_78 rfl wf_X9_26 rfl ?_
          refine zr_aload_n hB 0 dX9_nameHere_81 rfl ?_
          refine zr_getr hG 0 14 dX9_nameHere_82 rfl wf_X9_23 rfl ?_
          refine zr_iload_n hB 1 dX9_nameHere_85 rfl ?_
          refine zr_iald hG 5 dX9_nameHere_86 rfl (by omega) (by omega) (fun x84 ex84 => ?_)
          obtain rfl : x39 = x84 := ex39.trans ex84.symm
          refine zr_iload_n hB 3 dX9_nameHere_87 rfl ?_
          refine zr_iadd hB dX9_nameHere_88 (by omega) (by omega) (fun x85 ex85 => ?_)
          refine zr_iald hG 6 dX9_nameHere_89 rfl (by omega) (by omega) (fun x86 ex86 => ?_)
          refine zr_icmp_ne hB dX9_nameHere_90 (tgt := 97) rfl (fun c87 => ?_) (fun c87 => ?_)
          · refine zr_iconst hB dX9_nameHere_97 rfl (fun c88 ec88 => ?_)
            refine zr_istore_n hB dX9_nameHere_98 rfl (by decide) (lv' := [(2, .int c88), (0, .ref (zk K 0)), (1, .int y1_2), (3, .int y3_70)]) rfl ?_
            refine zr_iinc hB 3 dX9_nameHere_99 rfl (by decide) rfl (by omega) (by omega) (fun x89 ex89 lv' hlv => ?_)
            obtain rfl : [(3, .int x89), (2, .int c88), (0, .ref (zk K 0)), (1, .int y1_2)] = lv' := hlv
            refine zr_goto hB dX9_nameHere_102 (tgt := 50) rfl ?_
            exact zc_sub [2, 3, 1, 0] rfl (ih50 c88 x89 (by omega) (by omega) (by omega) (by omega) (show (c88.toInt = 0 ∨ (σ0.1 0 10).toInt - (σ0.1 0 11).toInt = x38.toInt - x39.toInt) by omega) (by omega))
          refine zr_iconst hB dX9_nameHere_93 rfl (fun c90 ec90 => ?_)
          refine zr_goto hB dX9_nameHere_94 (tgt := 98) rfl ?_
          refine zr_istore_n hB dX9_nameHere_98 rfl (by decide) (lv' := [(2, .int c90), (0, .ref (zk K 0)), (1, .int y1_2), (3, .int y3_70)]) rfl ?_
          refine zr_iinc hB 3 dX9_nameHere_99 rfl (by decide) rfl (by omega) (by omega) (fun x91 ex91 lv' hlv => ?_)
          obtain rfl : [(3, .int x91), (2, .int c90), (0, .ref (zk K 0)), (1, .int y1_2)] = lv' := hlv
          refine zr_goto hB dX9_nameHere_102 (tgt := 50) rfl ?_
          exact zc_sub [2, 3, 1, 0] rfl (ih50 c90 x91 (by omega) (by omega) (by omega) (by omega) (show (c90.toInt = 0 ∨ (σ0.1 0 10).toInt - (σ0.1 0 11).toInt = x38.toInt - x39.toInt) by omega) (by omega))
      exact zc_sub [2, 3, 1, 0] rfl (L50_72 122 c67 c68 (by omega) (by omega) (by omega) (by omega) (show (c67.toInt = 0 ∨ (σ0.1 0 10).toInt - (σ0.1 0 11).toInt = x38.toInt - x39.toInt) by omega) (by omega))
  exact zc_sub [1, 0] rfl (L2_3 7 c1 (by omega) (by omega) (by omega))

def m_M_number : zc_ms := [(0, some 8), (0, some 9), (0, some 10), (0, some 11), (0, some 12), (0, some 13)]
set_option maxHeartbeats 1000000 in
set_option maxRecDepth 100000 in
theorem c_M_number (K : zc_K) (hi : zc_inj shM K.2.2.2.1) (σ0 : zc_S) (p1 : Int32) (p2 : Int32) (hO0 : zc_O okM σ0)  : zc_M shM K yX9_number cX9_number 4 (some .int) (zrm 2 46) σ0 [.ref (zk K 0), .int p1, .int p2] (zc_I (fun r9 σ9 => zc_O okM σ9 ∧ zc_Ag m_M_number σ0 σ9 ∧ (1 ≤ (σ9.1 0 8).toInt ∨ (p1.toInt ≤ r9.toInt ∧ r9.toInt ≤ p2.toInt)) ∧ ((σ0.1 0 8).toInt = 0 ∨ 1 ≤ (σ9.1 0 8).toInt))) := by
  refine zc_start RX9 hi pfX9_number rfl (Nat.le_of_ble_eq_true rfl) ?_
  intro G hG
  have hB := hG.1
  have hA0 : zc_Ag m_M_number σ0 σ0 := zc_Ag.rf
  show zc_V 4 K G (zc_D shM K G σ0) [(0, .ref (zk K 0)), (1, .int p1), (2, .int p2)] 0 []
  have bw0_8 : 0 ≤ (σ0.1 0 8).toInt ∧ (σ0.1 0 8).toInt ≤ 5 := ⟨(hO0 0 8).1, (hO0 0 8).2.1⟩
  refine zr_aload_n hB 0 dX9_number_0 rfl ?_
  refine zr_geti' hG 0 8 (σ0.1 0 8) dX9_number_1 rfl wf_X9_128 rfl rfl ?_
  have L20_3 : ∀ (σ1 : zc_S) , zc_O okM σ1 → zc_Ag m_M_number σ0 σ1 → (((σ0.1 0 8).toInt = 0 ∨ 1 ≤ (σ1.1 0 8).toInt)) → zc_V 4 K G (zc_D shM K G σ1) [(0, .ref (zk K 0)), (1, .int p1), (2, .int p2)] 20 [] := by
    intro σ1 hO1 hA1 e2
    refine zr_aload_n hB 0 dX9_number_20 rfl ?_
    refine zr_geti' hG 0 8 (σ1.1 0 8) dX9_number_21 rfl wf_X9_128 rfl rfl ?_
    have b4 : 0 ≤ (σ1.1 0 8).toInt ∧ (σ1.1 0 8).toInt ≤ 5 := ⟨(hO1 0 8).1, (hO1 0 8).2.1⟩
    refine zr_if_ne hB dX9_number_24 (tgt := 47) rfl (fun c5 => ?_) (fun c5 => ?_)
    · refine zr_aload_n hB 0 dX9_number_47 rfl ?_
      refine zr_geti' hG 0 13 (σ1.1 0 13) dX9_number_48 rfl wf_X9_143 rfl rfl ?_
      refine zr_istore_n hB dX9_number_51 rfl (by decide) (lv' := [(3, .int (σ1.1 0 13)), (0, .ref (zk K 0)), (1, .int p1), (2, .int p2)]) rfl ?_
      refine zr_aload_n hB 1 dX9_number_52 rfl ?_
      refine zr_callvn hG (rest := []) 0 dX9_number_53 wm_X9_161 rfl rfl (c_M_next K hG.2.2.2.2.2.1 σ1  hO1 ) rfl rfl (Nat.le_of_ble_eq_true rfl) ⟨Nat.le_of_ble_eq_true rfl, Nat.le_of_ble_eq_true rfl, rfl, rfl⟩ (fun σ7 h8 => ?_)
      obtain ⟨hO9, hAc10, g11⟩ := h8
      have hA12 := zc_Ag.tr hA1 hAc10 rfl
      refine zr_iload_n hB 0 dX9_number_56 rfl ?_
      exact zr_iret hG dX9_number_57 ⟨hO9, hA12, (show (1 ≤ (σ7.1 0 8).toInt ∨ (p1.toInt ≤ (σ1.1 0 13).toInt ∧ (σ1.1 0 13).toInt ≤ p2.toInt)) by omega), (show ((σ0.1 0 8).toInt = 0 ∨ 1 ≤ (σ7.1 0 8).toInt) by omega)⟩
    refine zr_aload_n hB 0 dX9_number_27 rfl ?_
    refine zr_geti' hG 0 13 (σ1.1 0 13) dX9_number_28 rfl wf_X9_143 rfl rfl ?_
    have v14 := And.intro (zn_lo (σ1.1 0 13)) (zn_hi (σ1.1 0 13))
    refine zr_i2l hB dX9_number_31 (fun l13 el13 => ?_)
    refine zr_iload_n hB 1 dX9_number_32 rfl ?_
    have v16 := And.intro (zn_lo p1) (zn_hi p1)
    refine zr_i2l hB dX9_number_33 (fun l15 el15 => ?_)
    refine zr_iload_n hB 2 dX9_number_34 rfl ?_
    have v18 := And.intro (zn_lo p2) (zn_hi p2)
    refine zr_i2l hB dX9_number_35 (fun l17 el17 => ?_)
    refine zr_callsi hG (rest := []) dX9_number_36 wm_X9_91 (c_M_in K hG.2.2.2.2.2.1 σ1 l13 l15 l17 hO1 ) rfl rfl (Nat.le_of_ble_eq_true rfl) ⟨Nat.le_of_ble_eq_true rfl, Nat.le_of_ble_eq_true rfl, rfl, rfl⟩ (fun r19 σ20 h21 => ?_)
    obtain ⟨rfl, r19q⟩ := h21
    have r19z := r19q.b
    refine zr_if_ne hB dX9_number_39 (tgt := 47) rfl (fun c22 => ?_) (fun c22 => ?_)
    · have q23 := r19q.t c22
      refine zr_aload_n hB 0 dX9_number_47 rfl ?_
      refine zr_geti' hG 0 13 (σ1.1 0 13) dX9_number_48 rfl wf_X9_143 rfl rfl ?_
      refine zr_istore_n hB dX9_number_51 rfl (by decide) (lv' := [(3, .int (σ1.1 0 13)), (0, .ref (zk K 0)), (1, .int p1), (2, .int p2)]) rfl ?_
      refine zr_aload_n hB 1 dX9_number_52 rfl ?_
      refine zr_callvn hG (rest := []) 0 dX9_number_53 wm_X9_161 rfl rfl (c_M_next K hG.2.2.2.2.2.1 σ1  hO1 ) rfl rfl (Nat.le_of_ble_eq_true rfl) ⟨Nat.le_of_ble_eq_true rfl, Nat.le_of_ble_eq_true rfl, rfl, rfl⟩ (fun σ25 h26 => ?_)
      obtain ⟨hO27, hAc28, g29⟩ := h26
      have hA30 := zc_Ag.tr hA1 hAc28 rfl
      refine zr_iload_n hB 0 dX9_number_56 rfl ?_
      exact zr_iret hG dX9_number_57 ⟨hO27, hA30, (show (1 ≤ (σ25.1 0 8).toInt ∨ (p1.toInt ≤ (σ1.1 0 13).toInt ∧ (σ1.1 0 13).toInt ≤ p2.toInt)) by omega), (show ((σ0.1 0 8).toInt = 0 ∨ 1 ≤ (σ25.1 0 8).toInt) by omega)⟩
    have q31 := r19q.f c22
    refine zr_aload_n hB 0 dX9_number_42 rfl ?_
    refine zr_iconst hB dX9_number_43 rfl (fun c32 ec32 => ?_)
    refine zr_callvn hG (rest := []) 0 dX9_number_44 wm_X9_157 rfl rfl (c_M_fails K hG.2.2.2.2.2.1 σ1 c32 hO1 (by omega) (by omega)) rfl rfl (Nat.le_of_ble_eq_true rfl) ⟨Nat.le_of_ble_eq_true rfl, Nat.le_of_ble_eq_true rfl, rfl, rfl⟩ (fun σ34 h35 => ?_)
    obtain ⟨hO36, hAc37, g38⟩ := h35
    have hA39 := zc_Ag.tr hA1 hAc37 rfl
    have q40 : (σ34.1 0 13).toInt = (σ1.1 0 13).toInt := congrArg Int32.toInt (hAc37 0 13 rfl).1
    refine zr_aload_n hB 0 dX9_number_47 rfl ?_
    refine zr_geti' hG 0 13 (σ34.1 0 13) dX9_number_48 rfl wf_X9_143 rfl rfl ?_
    refine zr_istore_n hB dX9_number_51 rfl (by decide) (lv' := [(3, .int (σ34.1 0 13)), (0, .ref (zk K 0)), (1, .int p1), (2, .int p2)]) rfl ?_
    refine zr_aload_n hB 1 dX9_number_52 rfl ?_
    refine zr_callvn hG (rest := []) 0 dX9_number_53 wm_X9_161 rfl rfl (c_M_next K hG.2.2.2.2.2.1 σ34  hO36 ) rfl rfl (Nat.le_of_ble_eq_true rfl) ⟨Nat.le_of_ble_eq_true rfl, Nat.le_of_ble_eq_true rfl, rfl, rfl⟩ (fun σ42 h43 => ?_)
    obtain ⟨hO44, hAc45, g46⟩ := h43
    have hA47 := zc_Ag.tr hA39 hAc45 rfl
    refine zr_iload_n hB 0 dX9_number_56 rfl ?_
    exact zr_iret hG dX9_number_57 ⟨hO44, hA47, (show (1 ≤ (σ42.1 0 8).toInt ∨ (p1.toInt ≤ (σ34.1 0 13).toInt ∧ (σ34.1 0 13).toInt ≤ p2.toInt)) by omega), (show ((σ0.1 0 8).toInt = 0 ∨ 1 ≤ (σ42.1 0 8).toInt) by omega)⟩
  refine zr_if_ne hB dX9_number_4 (tgt := 20) rfl (fun c48 => ?_) (fun c48 => ?_)
  · exact L20_3 σ0 hO0 hA0 (show ((σ0.1 0 8).toInt = 0 ∨ 1 ≤ (σ0.1 0 8).toInt) by omega)
  refine zr_aload_n hB 0 dX9_number_7 rfl ?_
  refine zr_geti' hG 0 12 (σ0.1 0 12) dX9_number_8 rfl wf_X9_146 rfl rfl ?_
  have b49 : 0 ≤ (σ0.1 0 12).toInt ∧ (σ0.1 0 12).toInt ≤ 3 := ⟨(hO0 0 12).1, (hO0 0 12).2.1⟩
  refine zr_iconst hB dX9_number_11 rfl (fun c50 ec50 => ?_)
  refine zr_icmp_eq hB dX9_number_12 (tgt := 20) rfl (fun c51 => ?_) (fun c51 => ?_)
  · exact L20_3 σ0 hO0 hA0 (show ((σ0.1 0 8).toInt = 0 ∨ 1 ≤ (σ0.1 0 8).toInt) by omega)
  refine zr_aload_n hB 0 dX9_number_15 rfl ?_
  refine zr_iconst hB dX9_number_16 rfl (fun c52 ec52 => ?_)
  refine zr_callvn hG (rest := []) 0 dX9_number_17 wm_X9_157 rfl rfl (c_M_fails K hG.2.2.2.2.2.1 σ0 c52 hO0 (by omega) (by omega)) rfl rfl (Nat.le_of_ble_eq_true rfl) ⟨Nat.le_of_ble_eq_true rfl, Nat.le_of_ble_eq_true rfl, rfl, rfl⟩ (fun σ54 h55 => ?_)
  obtain ⟨hO56, hAc57, g58⟩ := h55
  have hA59 := zc_Ag.tr hA0 hAc57 rfl
  have q60 : (σ54.1 0 12).toInt = (σ0.1 0 12).toInt := congrArg Int32.toInt (hAc57 0 12 rfl).1
  have b61 : 0 ≤ (σ54.1 0 8).toInt ∧ (σ54.1 0 8).toInt ≤ 5 := ⟨(hO56 0 8).1, (hO56 0 8).2.1⟩
  exact L20_3 σ54 hO56 hA59 (show ((σ0.1 0 8).toInt = 0 ∨ 1 ≤ (σ54.1 0 8).toInt) by omega)

def m_M_readLine : zc_ms := [(0, some 8), (0, some 9), (0, some 10), (0, some 11), (0, some 12), (0, some 13), (0, some 21), (11, none), (12, none), (13, none)]
set_option maxHeartbeats 1000000 in
set_option maxRecDepth 100000 in
theorem c_M_readLine (K : zc_K) (hi : zc_inj shM K.2.2.2.1) (σ0 : zc_S)  (hO0 : zc_O okM σ0) (hx0 : (σ0.1 0 8).toInt = 0) (hN : zm_N σ0) : zc_M shM K yX9_readLine cX9_readLine 4 none (zrm 3 69) σ0 [.ref (zk K 0)] (zc_N (fun σ9 => zc_O okM σ9 ∧ zc_Ag m_M_readLine σ0 σ9 ∧ (1 ≤ (σ9.1 0 8).toInt ∨ (σ9.1 0 21).toInt = (σ0.1 0 21).toInt + 1) ∧ (σ0.1 0 21).toInt ≤ (σ9.1 0 21).toInt ∧ zm_N σ9)) := by
  refine zc_start RX9 hi pfX9_readLine rfl (Nat.le_of_ble_eq_true rfl) ?_
  intro G hG
  have hB := hG.1
  have hA0 : zc_Ag m_M_readLine σ0 σ0 := zc_Ag.rf
  show zc_V 4 K G (zc_D shM K G σ0) [(0, .ref (zk K 0))] 0 []
  have bw0_8 : 0 ≤ (σ0.1 0 8).toInt ∧ (σ0.1 0 8).toInt ≤ 5 := ⟨(hO0 0 8).1, (hO0 0 8).2.1⟩
  have bw0_21 : 0 ≤ (σ0.1 0 21).toInt ∧ (σ0.1 0 21).toInt ≤ 6 := ⟨(hO0 0 21).1, (hO0 0 21).2.1⟩
  refine zr_aload_n hB 0 dX9_readLine_0 rfl ?_
  refine zr_callvi hG (rest := []) 0 dX9_readLine_1 wm_X9_164 rfl rfl (c_M_nameHere K hG.2.2.2.2.2.1 σ0  hO0 ) rfl rfl (Nat.le_of_ble_eq_true rfl) ⟨Nat.le_of_ble_eq_true rfl, Nat.le_of_ble_eq_true rfl, rfl, rfl⟩ (fun r1 σ2 h3 => ?_)
  obtain ⟨rfl, r1a, r1b, r1h⟩ := h3
  refine zr_istore_n hB dX9_readLine_4 rfl (by decide) (lv' := [(1, .int r1), (0, .ref (zk K 0))]) rfl ?_
  refine zr_iload_n hB 0 dX9_readLine_5 rfl ?_
  refine zr_bipush hB dX9_readLine_6 rfl (fun c4 ec4 => ?_)
  have L53_8 : ∀ (σ5 : zc_S) , zc_O okM σ5 → zc_Ag m_M_readLine σ0 σ5 → zm_N σ5 → ((1 ≤ (σ5.1 0 8).toInt ∨ (0 ≤ r1.toInt ∧ (σ5.1 0 21).toInt ≤ 5))) → (σ5.1 0 21).toInt = (σ0.1 0 21).toInt → zc_V 4 K G (zc_D shM K G σ5) [(0, .ref (zk K 0)), (1, .int r1)] 53 [] := by
    intro σ5 hO5 hA5 hc9 e6 e7
    refine zr_aload_n hB 0 dX9_readLine_53 rfl ?_
    refine zr_geti' hG 0 8 (σ5.1 0 8) dX9_readLine_54 rfl wf_X9_128 rfl rfl ?_
    have b10 : 0 ≤ (σ5.1 0 8).toInt ∧ (σ5.1 0 8).toInt ≤ 5 := ⟨(hO5 0 8).1, (hO5 0 8).2.1⟩
    refine zr_if_le hB dX9_readLine_57 (tgt := 61) rfl (fun c11 => ?_) (fun c11 => ?_)
    · refine zr_aload_n hB 0 dX9_readLine_61 rfl ?_
      refine zr_callvn hG (rest := []) 0 dX9_readLine_62 wm_X9_161 rfl rfl (c_M_next K hG.2.2.2.2.2.1 σ5  hO5 ) rfl rfl (Nat.le_of_ble_eq_true rfl) ⟨Nat.le_of_ble_eq_true rfl, Nat.le_of_ble_eq_true rfl, rfl, rfl⟩ (fun σ13 h14 => ?_)
      obtain ⟨hO15, hAc16, g17⟩ := h14
      have hA18 := zc_Ag.tr hA5 hAc16 rfl
      have q19 : (σ13.1 0 21).toInt = (σ5.1 0 21).toInt := congrArg Int32.toInt (hAc16 0 21 rfl).1
      have hc20 : zm_N σ13 := zm_N.ag hc9 hAc16 rfl (fun _ => rfl) (fun _ => rfl)
      refine zr_aload_n hB 0 dX9_readLine_65 rfl ?_
      refine zr_iload_n hB 1 dX9_readLine_66 rfl ?_
      refine zr_iconst hB dX9_readLine_67 rfl (fun c21 ec21 => ?_)
      refine zr_icmp_ne hB dX9_readLine_68 (tgt := 75) rfl (fun c22 => ?_) (fun c22 => ?_)
      · refine zr_iconst hB dX9_readLine_75 rfl (fun c23 ec23 => ?_)
        refine zr_aload_n hB 0 dX9_readLine_76 rfl ?_
        refine zr_getr hG 0 16 dX9_readLine_77 rfl wf_X9_29 rfl ?_
        refine zr_iload_n hB 1 dX9_readLine_80 rfl ?_
        refine zr_iald hG 7 dX9_readLine_81 rfl (by omega) (by omega) (fun x24 ex24 => ?_)
        have bx24 : 0 ≤ x24.toInt ∧ x24.toInt ≤ 30 := by rw [ex24]; exact ⟨(hO15 7 _).1, (hO15 7 _).2.1⟩
        refine zr_callvi hG (rest := []) 0 dX9_readLine_82 wm_X9_171 rfl rfl (c_M_number K hG.2.2.2.2.2.1 σ13 c23 x24 hO15 ) rfl rfl (Nat.le_of_ble_eq_true rfl) ⟨Nat.le_of_ble_eq_true rfl, Nat.le_of_ble_eq_true rfl, rfl, rfl⟩ (fun r25 σ26 h27 => ?_)
        obtain ⟨hO28, hAc29, g30, g31⟩ := h27
        have hA32 := zc_Ag.tr hA18 hAc29 rfl
        have q33 : (σ26.1 0 21).toInt = (σ13.1 0 21).toInt := congrArg Int32.toInt (hAc29 0 21 rfl).1
        have hc34 : zm_N σ26 := zm_N.ag hc20 hAc29 rfl (fun _ => rfl) (fun _ => rfl)
        refine zr_istore_n hB dX9_readLine_85 rfl (by decide) (lv' := [(2, .int r25), (0, .ref (zk K 0)), (1, .int r1)]) rfl ?_
        refine zr_iload_n hB 2 dX9_readLine_86 rfl ?_
        refine zr_iconst hB dX9_readLine_87 rfl (fun c35 ec35 => ?_)
        refine zr_icmp_ne hB dX9_readLine_88 (tgt := 101) rfl (fun c36 => ?_) (fun c36 => ?_)
        · refine zr_iconst hB dX9_readLine_101 rfl (fun c37 ec37 => ?_)
          refine zr_istore_n hB dX9_readLine_102 rfl (by decide) (lv' := [(3, .int c37), (2, .int r25), (0, .ref (zk K 0)), (1, .int r1)]) rfl ?_
          refine zr_aload_n hB 2 dX9_readLine_103 rfl ?_
          refine zr_geti' hG 0 8 (σ26.1 0 8) dX9_readLine_104 rfl wf_X9_128 rfl rfl ?_
          have b38 : 0 ≤ (σ26.1 0 8).toInt ∧ (σ26.1 0 8).toInt ≤ 5 := ⟨(hO28 0 8).1, (hO28 0 8).2.1⟩
          have L123_42 : ∀ (σ39 : zc_S) , zc_O okM σ39 → zc_Ag m_M_readLine σ0 σ39 → zm_N σ39 → ((1 ≤ (σ39.1 0 8).toInt ∨ r1.toInt = 2 ∨ 1 ≤ r25.toInt)) → (σ39.1 0 21).toInt = (σ0.1 0 21).toInt → zc_V 4 K G (zc_D shM K G σ39) [(0, .ref (zk K 0)), (1, .int r1), (2, .int r25), (3, .int c37)] 123 [] := by
            intro σ39 hO39 hA39 hc43 e40 e41
            refine zr_aload_n hB 0 dX9_readLine_123 rfl ?_
            refine zr_geti' hG 0 8 (σ39.1 0 8) dX9_readLine_124 rfl wf_X9_128 rfl rfl ?_
            have b44 : 0 ≤ (σ39.1 0 8).toInt ∧ (σ39.1 0 8).toInt ≤ 5 := ⟨(hO39 0 8).1, (hO39 0 8).2.1⟩
            refine zr_if_ne hB dX9_readLine_127 (tgt := 174) rfl (fun c45 => ?_) (fun c45 => ?_)
            · exact zr_vret hG dX9_readLine_174 ⟨hO39, hA39, (show (1 ≤ (σ39.1 0 8).toInt ∨ (σ39.1 0 21).toInt = (σ0.1 0 21).toInt + 1) by omega), (show (σ0.1 0 21).toInt ≤ (σ39.1 0 21).toInt by omega), hc43⟩
            refine zr_aload_n hB 0 dX9_readLine_130 rfl ?_
            refine zr_getr hG 0 22 dX9_readLine_131 rfl wf_X9_41 rfl ?_
            refine zr_aload_n hB 0 dX9_readLine_134 rfl ?_
            refine zr_geti' hG 0 21 (σ39.1 0 21) dX9_readLine_135 rfl wf_X9_168 rfl rfl ?_
            have b46 : 0 ≤ (σ39.1 0 21).toInt ∧ (σ39.1 0 21).toInt ≤ 6 := ⟨(hO39 0 21).1, (hO39 0 21).2.1⟩
            refine zr_iload_n hB 1 dX9_readLine_138 rfl ?_
            refine zr_iast hG 11 dX9_readLine_139 rfl (by omega) (by omega)  ?_
            have hOw47 := zc_O.u hO39 11 (σ39.1 0 21).toInt.toNat (v := r1) (show 0 ≤ r1.toInt by omega) (show r1.toInt ≤ 4 by omega) (Or.inr (show 0 ≤ r1.toInt by omega))
            have hAw47 := zc_Ag.u hA39 11 (σ39.1 0 21).toInt.toNat r1 rfl
            refine zr_aload_n hB 0 dX9_readLine_140 rfl ?_
            refine zr_getr hG 0 23 dX9_readLine_141 rfl wf_X9_44 rfl ?_
            refine zr_aload_n hB 0 dX9_readLine_144 rfl ?_
            refine zr_geti' hG 0 21 (σ39.1 0 21) dX9_readLine_145 rfl wf_X9_168 rfl rfl ?_
            refine zr_iload_n hB 2 dX9_readLine_148 rfl ?_
            refine zr_iast hG 12 dX9_readLine_149 rfl (by omega) (by omega)  ?_
            have hOw48 := zc_O.u hOw47 12 (σ39.1 0 21).toInt.toNat (v := r25) (zn_lo _) (zn_hi _) (Or.inr (zn_lo _))
            have hAw48 := zc_Ag.u hAw47 12 (σ39.1 0 21).toInt.toNat r25 rfl
            refine zr_aload_n hB 0 dX9_readLine_150 rfl ?_
            refine zr_getr hG 0 24 dX9_readLine_151 rfl wf_X9_47 rfl ?_
            refine zr_aload_n hB 0 dX9_readLine_154 rfl ?_
            refine zr_geti' hG 0 21 (σ39.1 0 21) dX9_readLine_155 rfl wf_X9_168 rfl rfl ?_
            refine zr_iload_n hB 3 dX9_readLine_158 rfl ?_
            refine zr_iast hG 13 dX9_readLine_159 rfl (by omega) (by omega)  ?_
            have hOw49 := zc_O.u hOw48 13 (σ39.1 0 21).toInt.toNat (v := c37) (zn_lo _) (zn_hi _) (Or.inr (zn_lo _))
            have hAw49 := zc_Ag.u hAw48 13 (σ39.1 0 21).toInt.toNat c37 rfl
            refine zr_aload_n hB 0 dX9_readLine_160 rfl ?_
            refine zr_dup hB dX9_readLine_161 rfl ?_
            refine zr_geti' hG 0 21 (σ39.1 0 21) dX9_readLine_162 rfl wf_X9_168 rfl rfl ?_
            refine zr_iconst hB dX9_readLine_165 rfl (fun c50 ec50 => ?_)
            refine zr_iadd hB dX9_readLine_166 (by omega) (by omega) (fun x51 ex51 => ?_)
            refine zr_puti hG 0 21 dX9_readLine_167 rfl wp_X9_168 rfl ?_
            have hOw52 := zc_O.u hOw49 0 21 (v := x51) (show 0 ≤ x51.toInt by omega) (show x51.toInt ≤ 6 by omega) (Or.inr (show 0 ≤ x51.toInt by omega))
            have hAw52 := zc_Ag.u hAw49 0 21 x51 rfl
            have hc53 : zm_N (zc_u (zc_u (zc_u (zc_u σ39 11 (σ39.1 0 21).toInt.toNat r1) 12 (σ39.1 0 21).toInt.toNat r25) 13 (σ39.1 0 21).toInt.toNat c37) 0 21 x51) := zm_N_add hc43 (by omega) (by omega) (by omega)
            refine zr_aload_n hB 0 dX9_readLine_170 rfl ?_
            refine zr_callvn hG (rest := []) 0 dX9_readLine_171 wm_X9_161 rfl rfl (c_M_next K hG.2.2.2.2.2.1 (zc_u (zc_u (zc_u (zc_u σ39 11 (σ39.1 0 21).toInt.toNat r1) 12 (σ39.1 0 21).toInt.toNat r25) 13 (σ39.1 0 21).toInt.toNat c37) 0 21 x51)  hOw52 ) rfl rfl (Nat.le_of_ble_eq_true rfl) ⟨Nat.le_of_ble_eq_true rfl, Nat.le_of_ble_eq_true rfl, rfl, rfl⟩ (fun σ55 h56 => ?_)
            obtain ⟨hO57, hAc58, g59⟩ := h56
            have hA60 := zc_Ag.tr hAw52 hAc58 rfl
            have q61 : (σ55.1 0 21).toInt = x51.toInt := congrArg Int32.toInt (hAc58 0 21 rfl).1
            have hc62 : zm_N σ55 := zm_N.ag hc53 hAc58 rfl (fun _ => rfl) (fun _ => rfl)
            have g59' : ((σ39.1 0 8).toInt = 0 ∨ 1 ≤ (σ55.1 0 8).toInt) := g59
            exact zr_vret hG dX9_readLine_174 ⟨hO57, hA60, (show (1 ≤ (σ55.1 0 8).toInt ∨ (σ55.1 0 21).toInt = (σ0.1 0 21).toInt + 1) by omega), (show (σ0.1 0 21).toInt ≤ (σ55.1 0 21).toInt by omega), hc62⟩
          refine zr_if_ne hB dX9_readLine_107 (tgt := 123) rfl (fun c63 => ?_) (fun c63 => ?_)
          · have b64 : 0 ≤ (σ26.1 0 21).toInt ∧ (σ26.1 0 21).toInt ≤ 6 := ⟨(hO28 0 21).1, (hO28 0 21).2.1⟩
            exact zc_sub [2, 3, 1, 0] rfl (L123_42 σ26 hO28 hA32 hc34 (show (1 ≤ (σ26.1 0 8).toInt ∨ r1.toInt = 2 ∨ 1 ≤ r25.toInt) by omega) (show (σ26.1 0 21).toInt = (σ0.1 0 21).toInt by omega))
          refine zr_aload_n hB 2 dX9_readLine_110 rfl ?_
          refine zr_geti' hG 0 12 (σ26.1 0 12) dX9_readLine_111 rfl wf_X9_146 rfl rfl ?_
          have b65 : 0 ≤ (σ26.1 0 12).toInt ∧ (σ26.1 0 12).toInt ≤ 3 := ⟨(hO28 0 12).1, (hO28 0 12).2.1⟩
          refine zr_iconst hB dX9_readLine_114 rfl (fun c66 ec66 => ?_)
          refine zr_icmp_eq hB dX9_readLine_115 (tgt := 123) rfl (fun c67 => ?_) (fun c67 => ?_)
          · have b68 : 0 ≤ (σ26.1 0 21).toInt ∧ (σ26.1 0 21).toInt ≤ 6 := ⟨(hO28 0 21).1, (hO28 0 21).2.1⟩
            exact zc_sub [2, 3, 1, 0] rfl (L123_42 σ26 hO28 hA32 hc34 (show (1 ≤ (σ26.1 0 8).toInt ∨ r1.toInt = 2 ∨ 1 ≤ r25.toInt) by omega) (show (σ26.1 0 21).toInt = (σ0.1 0 21).toInt by omega))
          refine zr_aload_n hB 2 dX9_readLine_118 rfl ?_
          refine zr_iconst hB dX9_readLine_119 rfl (fun c69 ec69 => ?_)
          refine zr_callvn hG (rest := []) 0 dX9_readLine_120 wm_X9_157 rfl rfl (c_M_fails K hG.2.2.2.2.2.1 σ26 c69 hO28 (by omega) (by omega)) rfl rfl (Nat.le_of_ble_eq_true rfl) ⟨Nat.le_of_ble_eq_true rfl, Nat.le_of_ble_eq_true rfl, rfl, rfl⟩ (fun σ71 h72 => ?_)
          obtain ⟨hO73, hAc74, g75⟩ := h72
          have hA76 := zc_Ag.tr hA32 hAc74 rfl
          have q77 : (σ71.1 0 21).toInt = (σ26.1 0 21).toInt := congrArg Int32.toInt (hAc74 0 21 rfl).1
          have q78 : (σ71.1 0 12).toInt = (σ26.1 0 12).toInt := congrArg Int32.toInt (hAc74 0 12 rfl).1
          have hc79 : zm_N σ71 := zm_N.ag hc34 hAc74 rfl (fun _ => rfl) (fun _ => rfl)
          have b80 : 0 ≤ (σ71.1 0 8).toInt ∧ (σ71.1 0 8).toInt ≤ 5 := ⟨(hO73 0 8).1, (hO73 0 8).2.1⟩
          have b81 : 0 ≤ (σ71.1 0 21).toInt ∧ (σ71.1 0 21).toInt ≤ 6 := ⟨(hO73 0 21).1, (hO73 0 21).2.1⟩
          exact zc_sub [2, 3, 1, 0] rfl (L123_42 σ71 hO73 hA76 hc79 (show (1 ≤ (σ71.1 0 8).toInt ∨ r1.toInt = 2 ∨ 1 ≤ r25.toInt) by omega) (show (σ71.1 0 21).toInt = (σ0.1 0 21).toInt by omega))
        refine zr_aload_n hB 1 dX9_readLine_91 rfl ?_
        refine zr_iconst hB dX9_readLine_92 rfl (fun c82 ec82 => ?_)
        refine zr_bipush hB dX9_readLine_93 rfl (fun c83 ec83 => ?_)
        refine zr_callvi hG (rest := []) 0 dX9_readLine_95 wm_X9_171 rfl rfl (c_M_number K hG.2.2.2.2.2.1 σ26 c82 c83 hO28 ) rfl rfl (Nat.le_of_ble_eq_true rfl) ⟨Nat.le_of_ble_eq_true rfl, Nat.le_of_ble_eq_true rfl, rfl, rfl⟩ (fun r84 σ85 h86 => ?_)
        obtain ⟨hO87, hAc88, g89, g90⟩ := h86
        have hA91 := zc_Ag.tr hA32 hAc88 rfl
        have q92 : (σ85.1 0 21).toInt = (σ26.1 0 21).toInt := congrArg Int32.toInt (hAc88 0 21 rfl).1
        have hc93 : zm_N σ85 := zm_N.ag hc34 hAc88 rfl (fun _ => rfl) (fun _ => rfl)
        refine zr_goto hB dX9_readLine_98 (tgt := 102) rfl ?_
        refine zr_istore_n hB dX9_readLine_102 rfl (by decide) (lv' := [(3, .int r84), (2, .int r25), (0, .ref (zk K 0)), (1, .int r1)]) rfl ?_
        refine zr_aload_n hB 2 dX9_readLine_103 rfl ?_
        refine zr_geti' hG 0 8 (σ85.1 0 8) dX9_readLine_104 rfl wf_X9_128 rfl rfl ?_
        have b94 : 0 ≤ (σ85.1 0 8).toInt ∧ (σ85.1 0 8).toInt ≤ 5 := ⟨(hO87 0 8).1, (hO87 0 8).2.1⟩
        have L123_98 : ∀ (σ95 : zc_S) , zc_O okM σ95 → zc_Ag m_M_readLine σ0 σ95 → zm_N σ95 → ((1 ≤ (σ95.1 0 8).toInt ∨ r1.toInt = 2 ∨ 1 ≤ r25.toInt)) → (σ95.1 0 21).toInt = (σ0.1 0 21).toInt → zc_V 4 K G (zc_D shM K G σ95) [(0, .ref (zk K 0)), (1, .int r1), (2, .int r25), (3, .int r84)] 123 [] := by
          intro σ95 hO95 hA95 hc99 e96 e97
          refine zr_aload_n hB 0 dX9_readLine_123 rfl ?_
          refine zr_geti' hG 0 8 (σ95.1 0 8) dX9_readLine_124 rfl wf_X9_128 rfl rfl ?_
          have b100 : 0 ≤ (σ95.1 0 8).toInt ∧ (σ95.1 0 8).toInt ≤ 5 := ⟨(hO95 0 8).1, (hO95 0 8).2.1⟩
          refine zr_if_ne hB dX9_readLine_127 (tgt := 174) rfl (fun c101 => ?_) (fun c101 => ?_)
          · exact zr_vret hG dX9_readLine_174 ⟨hO95, hA95, (show (1 ≤ (σ95.1 0 8).toInt ∨ (σ95.1 0 21).toInt = (σ0.1 0 21).toInt + 1) by omega), (show (σ0.1 0 21).toInt ≤ (σ95.1 0 21).toInt by omega), hc99⟩
          refine zr_aload_n hB 0 dX9_readLine_130 rfl ?_
          refine zr_getr hG 0 22 dX9_readLine_131 rfl wf_X9_41 rfl ?_
          refine zr_aload_n hB 0 dX9_readLine_134 rfl ?_
          refine zr_geti' hG 0 21 (σ95.1 0 21) dX9_readLine_135 rfl wf_X9_168 rfl rfl ?_
          have b102 : 0 ≤ (σ95.1 0 21).toInt ∧ (σ95.1 0 21).toInt ≤ 6 := ⟨(hO95 0 21).1, (hO95 0 21).2.1⟩
          refine zr_iload_n hB 1 dX9_readLine_138 rfl ?_
          refine zr_iast hG 11 dX9_readLine_139 rfl (by omega) (by omega)  ?_
          have hOw103 := zc_O.u hO95 11 (σ95.1 0 21).toInt.toNat (v := r1) (show 0 ≤ r1.toInt by omega) (show r1.toInt ≤ 4 by omega) (Or.inr (show 0 ≤ r1.toInt by omega))
          have hAw103 := zc_Ag.u hA95 11 (σ95.1 0 21).toInt.toNat r1 rfl
          refine zr_aload_n hB 0 dX9_readLine_140 rfl ?_
          refine zr_getr hG 0 23 dX9_readLine_141 rfl wf_X9_44 rfl ?_
          refine zr_aload_n hB 0 dX9_readLine_144 rfl ?_
          refine zr_geti' hG 0 21 (σ95.1 0 21) dX9_readLine_145 rfl wf_X9_168 rfl rfl ?_
          refine zr_iload_n hB 2 dX9_readLine_148 rfl ?_
          refine zr_iast hG 12 dX9_readLine_149 rfl (by omega) (by omega)  ?_
          have hOw104 := zc_O.u hOw103 12 (σ95.1 0 21).toInt.toNat (v := r25) (zn_lo _) (zn_hi _) (Or.inr (zn_lo _))
          have hAw104 := zc_Ag.u hAw103 12 (σ95.1 0 21).toInt.toNat r25 rfl
          refine zr_aload_n hB 0 dX9_readLine_150 rfl ?_
          refine zr_getr hG 0 24 dX9_readLine_151 rfl wf_X9_47 rfl ?_
          refine zr_aload_n hB 0 dX9_readLine_154 rfl ?_
          refine zr_geti' hG 0 21 (σ95.1 0 21) dX9_readLine_155 rfl wf_X9_168 rfl rfl ?_
          refine zr_iload_n hB 3 dX9_readLine_158 rfl ?_
          refine zr_iast hG 13 dX9_readLine_159 rfl (by omega) (by omega)  ?_
          have hOw105 := zc_O.u hOw104 13 (σ95.1 0 21).toInt.toNat (v := r84) (zn_lo _) (zn_hi _) (Or.inr (zn_lo _))
          have hAw105 := zc_Ag.u hAw104 13 (σ95.1 0 21).toInt.toNat r84 rfl
          refine zr_aload_n hB 0 dX9_readLine_160 rfl ?_
          refine zr_dup hB dX9_readLine_161 rfl ?_
          refine zr_geti' hG 0 21 (σ95.1 0 21) dX9_readLine_162 rfl wf_X9_168 rfl rfl ?_
          refine zr_iconst hB dX9_readLine_165 rfl (fun c106 ec106 => ?_)
          refine zr_iadd hB dX9_readLine_166 (by omega) (by omega) (fun x107 ex107 => ?_)
          refine zr_puti hG 0 21 dX9_readLine_167 rfl wp_X9_168 rfl ?_
          have hOw108 := zc_O.u hOw105 0 21 (v := x107) (show 0 ≤ x107.toInt by omega) (show x107.toInt ≤ 6 by omega) (Or.inr (show 0 ≤ x107.toInt by omega))
          have hAw108 := zc_Ag.u hAw105 0 21 x107 rfl
          have hc109 : zm_N (zc_u (zc_u (zc_u (zc_u σ95 11 (σ95.1 0 21).toInt.toNat r1) 12 (σ95.1 0 21).toInt.toNat r25) 13 (σ95.1 0 21).toInt.toNat r84) 0 21 x107) := zm_N_add hc99 (by omega) (by omega) (by omega)
          refine zr_aload_n hB 0 dX9_readLine_170 rfl ?_
          refine zr_callvn hG (rest := []) 0 dX9_readLine_171 wm_X9_161 rfl rfl (c_M_next K hG.2.2.2.2.2.1 (zc_u (zc_u (zc_u (zc_u σ95 11 (σ95.1 0 21).toInt.toNat r1) 12 (σ95.1 0 21).toInt.toNat r25) 13 (σ95.1 0 21).toInt.toNat r84) 0 21 x107)  hOw108 ) rfl rfl (Nat.le_of_ble_eq_true rfl) ⟨Nat.le_of_ble_eq_true rfl, Nat.le_of_ble_eq_true rfl, rfl, rfl⟩ (fun σ111 h112 => ?_)
          obtain ⟨hO113, hAc114, g115⟩ := h112
          have hA116 := zc_Ag.tr hAw108 hAc114 rfl
          have q117 : (σ111.1 0 21).toInt = x107.toInt := congrArg Int32.toInt (hAc114 0 21 rfl).1
          have hc118 : zm_N σ111 := zm_N.ag hc109 hAc114 rfl (fun _ => rfl) (fun _ => rfl)
          have g115' : ((σ95.1 0 8).toInt = 0 ∨ 1 ≤ (σ111.1 0 8).toInt) := g115
          exact zr_vret hG dX9_readLine_174 ⟨hO113, hA116, (show (1 ≤ (σ111.1 0 8).toInt ∨ (σ111.1 0 21).toInt = (σ0.1 0 21).toInt + 1) by omega), (show (σ0.1 0 21).toInt ≤ (σ111.1 0 21).toInt by omega), hc118⟩
        refine zr_if_ne hB dX9_readLine_107 (tgt := 123) rfl (fun c119 => ?_) (fun c119 => ?_)
        · have b120 : 0 ≤ (σ85.1 0 21).toInt ∧ (σ85.1 0 21).toInt ≤ 6 := ⟨(hO87 0 21).1, (hO87 0 21).2.1⟩
          exact zc_sub [2, 3, 1, 0] rfl (L123_98 σ85 hO87 hA91 hc93 (show (1 ≤ (σ85.1 0 8).toInt ∨ r1.toInt = 2 ∨ 1 ≤ r25.toInt) by omega) (show (σ85.1 0 21).toInt = (σ0.1 0 21).toInt by omega))
        refine zr_aload_n hB 2 dX9_readLine_110 rfl ?_
        refine zr_geti' hG 0 12 (σ85.1 0 12) dX9_readLine_111 rfl wf_X9_146 rfl rfl ?_
        have b121 : 0 ≤ (σ85.1 0 12).toInt ∧ (σ85.1 0 12).toInt ≤ 3 := ⟨(hO87 0 12).1, (hO87 0 12).2.1⟩
        refine zr_iconst hB dX9_readLine_114 rfl (fun c122 ec122 => ?_)
        refine zr_icmp_eq hB dX9_readLine_115 (tgt := 123) rfl (fun c123 => ?_) (fun c123 => ?_)
        · have b124 : 0 ≤ (σ85.1 0 21).toInt ∧ (σ85.1 0 21).toInt ≤ 6 := ⟨(hO87 0 21).1, (hO87 0 21).2.1⟩
          exact zc_sub [2, 3, 1, 0] rfl (L123_98 σ85 hO87 hA91 hc93 (show (1 ≤ (σ85.1 0 8).toInt ∨ r1.toInt = 2 ∨ 1 ≤ r25.toInt) by omega) (show (σ85.1 0 21).toInt = (σ0.1 0 21).toInt by omega))
        refine zr_aload_n hB 2 dX9_readLine_118 rfl ?_
        refine zr_iconst hB dX9_readLine_119 rfl (fun c125 ec125 => ?_)
        refine zr_callvn hG (rest := []) 0 dX9_readLine_120 wm_X9_157 rfl rfl (c_M_fails K hG.2.2.2.2.2.1 σ85 c125 hO87 (by omega) (by omega)) rfl rfl (Nat.le_of_ble_eq_true rfl) ⟨Nat.le_of_ble_eq_true rfl, Nat.le_of_ble_eq_true rfl, rfl, rfl⟩ (fun σ127 h128 => ?_)
        obtain ⟨hO129, hAc130, g131⟩ := h128
        have hA132 := zc_Ag.tr hA91 hAc130 rfl
        have q133 : (σ127.1 0 21).toInt = (σ85.1 0 21).toInt := congrArg Int32.toInt (hAc130 0 21 rfl).1
        have q134 : (σ127.1 0 12).toInt = (σ85.1 0 12).toInt := congrArg Int32.toInt (hAc130 0 12 rfl).1
        have hc135 : zm_N σ127 := zm_N.ag hc93 hAc130 rfl (fun _ => rfl) (fun _ => rfl)
        have b136 : 0 ≤ (σ127.1 0 8).toInt ∧ (σ127.1 0 8).toInt ≤ 5 := ⟨(hO129 0 8).1, (hO129 0 8).2.1⟩
        have b137 : 0 ≤ (σ127.1 0 21).toInt ∧ (σ127.1 0 21).toInt ≤ 6 := ⟨(hO129 0 21).1, (hO129 0 21).2.1⟩
        exact zc_sub [2, 3, 1, 0] rfl (L123_98 σ127 hO129 hA132 hc135 (show (1 ≤ (σ127.1 0 8).toInt ∨ r1.toInt = 2 ∨ 1 ≤ r25.toInt) by omega) (show (σ127.1 0 21).toInt = (σ0.1 0 21).toInt by omega))
      refine zr_iconst hB dX9_readLine_71 rfl (fun c138 ec138 => ?_)
      refine zr_goto hB dX9_readLine_72 (tgt := 76) rfl ?_
      refine zr_aload_n hB 0 dX9_readLine_76 rfl ?_
      refine zr_getr hG 0 16 dX9_readLine_77 rfl wf_X9_29 rfl ?_
      refine zr_iload_n hB 1 dX9_readLine_80 rfl ?_
      refine zr_iald hG 7 dX9_readLine_81 rfl (by omega) (by omega) (fun x139 ex139 => ?_)
      have bx139 : 0 ≤ x139.toInt ∧ x139.toInt ≤ 30 := by rw [ex139]; exact ⟨(hO15 7 _).1, (hO15 7 _).2.1⟩
      refine zr_callvi hG (rest := []) 0 dX9_readLine_82 wm_X9_171 rfl rfl (c_M_number K hG.2.2.2.2.2.1 σ13 c138 x139 hO15 ) rfl rfl (Nat.le_of_ble_eq_true rfl) ⟨Nat.le_of_ble_eq_true rfl, Nat.le_of_ble_eq_true rfl, rfl, rfl⟩ (fun r140 σ141 h142 => ?_)
      obtain ⟨hO143, hAc144, g145, g146⟩ := h142
      have hA147 := zc_Ag.tr hA18 hAc144 rfl
      have q148 : (σ141.1 0 21).toInt = (σ13.1 0 21).toInt := congrArg Int32.toInt (hAc144 0 21 rfl).1
      have hc149 : zm_N σ141 := zm_N.ag hc20 hAc144 rfl (fun _ => rfl) (fun _ => rfl)
      refine zr_istore_n hB dX9_readLine_85 rfl (by decide) (lv' := [(2, .int r140), (0, .ref (zk K 0)), (1, .int r1)]) rfl ?_
      refine zr_iload_n hB 2 dX9_readLine_86 rfl ?_
      refine zr_iconst hB dX9_readLine_87 rfl (fun c150 ec150 => ?_)
      refine zr_icmp_ne hB dX9_readLine_88 (tgt := 101) rfl (fun c151 => ?_) (fun c151 => ?_)
      · exfalso; omega
      refine zr_aload_n hB 1 dX9_readLine_91 rfl ?_
      refine zr_iconst hB dX9_readLine_92 rfl (fun c152 ec152 => ?_)
      refine zr_bipush hB dX9_readLine_93 rfl (fun c153 ec153 => ?_)
      refine zr_callvi hG (rest := []) 0 dX9_readLine_95 wm_X9_171 rfl rfl (c_M_number K hG.2.2.2.2.2.1 σ141 c152 c153 hO143 ) rfl rfl (Nat.le_of_ble_eq_true rfl) ⟨Nat.le_of_ble_eq_true rfl, Nat.le_of_ble_eq_true rfl, rfl, rfl⟩ (fun r154 σ155 h156 => ?_)
      obtain ⟨hO157, hAc158, g159, g160⟩ := h156
      have hA161 := zc_Ag.tr hA147 hAc158 rfl
      have q162 : (σ155.1 0 21).toInt = (σ141.1 0 21).toInt := congrArg Int32.toInt (hAc158 0 21 rfl).1
      have hc163 : zm_N σ155 := zm_N.ag hc149 hAc158 rfl (fun _ => rfl) (fun _ => rfl)
      refine zr_goto hB dX9_readLine_98 (tgt := 102) rfl ?_
      refine zr_istore_n hB dX9_readLine_102 rfl (by decide) (lv' := [(3, .int r154), (2, .int r140), (0, .ref (zk K 0)), (1, .int r1)]) rfl ?_
      refine zr_aload_n hB 2 dX9_readLine_103 rfl ?_
      refine zr_geti' hG 0 8 (σ155.1 0 8) dX9_readLine_104 rfl wf_X9_128 rfl rfl ?_
      have b164 : 0 ≤ (σ155.1 0 8).toInt ∧ (σ155.1 0 8).toInt ≤ 5 := ⟨(hO157 0 8).1, (hO157 0 8).2.1⟩
      have L123_168 : ∀ (σ165 : zc_S) , zc_O okM σ165 → zc_Ag m_M_readLine σ0 σ165 → zm_N σ165 → ((1 ≤ (σ165.1 0 8).toInt ∨ r1.toInt = 2 ∨ 1 ≤ r140.toInt)) → (σ165.1 0 21).toInt = (σ0.1 0 21).toInt → zc_V 4 K G (zc_D shM K G σ165) [(0, .ref (zk K 0)), (1, .int r1), (2, .int r140), (3, .int r154)] 123 [] := by
        intro σ165 hO165 hA165 hc169 e166 e167
        refine zr_aload_n hB 0 dX9_readLine_123 rfl ?_
        refine zr_geti' hG 0 8 (σ165.1 0 8) dX9_readLine_124 rfl wf_X9_128 rfl rfl ?_
        have b170 : 0 ≤ (σ165.1 0 8).toInt ∧ (σ165.1 0 8).toInt ≤ 5 := ⟨(hO165 0 8).1, (hO165 0 8).2.1⟩
        refine zr_if_ne hB dX9_readLine_127 (tgt := 174) rfl (fun c171 => ?_) (fun c171 => ?_)
        · exact zr_vret hG dX9_readLine_174 ⟨hO165, hA165, (show (1 ≤ (σ165.1 0 8).toInt ∨ (σ165.1 0 21).toInt = (σ0.1 0 21).toInt + 1) by omega), (show (σ0.1 0 21).toInt ≤ (σ165.1 0 21).toInt by omega), hc169⟩
        refine zr_aload_n hB 0 dX9_readLine_130 rfl ?_
        refine zr_getr hG 0 22 dX9_readLine_131 rfl wf_X9_41 rfl ?_
        refine zr_aload_n hB 0 dX9_readLine_134 rfl ?_
        refine zr_geti' hG 0 21 (σ165.1 0 21) dX9_readLine_135 rfl wf_X9_168 rfl rfl ?_
        have b172 : 0 ≤ (σ165.1 0 21).toInt ∧ (σ165.1 0 21).toInt ≤ 6 := ⟨(hO165 0 21).1, (hO165 0 21).2.1⟩
        refine zr_iload_n hB 1 dX9_readLine_138 rfl ?_
        refine zr_iast hG 11 dX9_readLine_139 rfl (by omega) (by omega)  ?_
        have hOw173 := zc_O.u hO165 11 (σ165.1 0 21).toInt.toNat (v := r1) (show 0 ≤ r1.toInt by omega) (show r1.toInt ≤ 4 by omega) (Or.inr (show 0 ≤ r1.toInt by omega))
        have hAw173 := zc_Ag.u hA165 11 (σ165.1 0 21).toInt.toNat r1 rfl
        refine zr_aload_n hB 0 dX9_readLine_140 rfl ?_
        refine zr_getr hG 0 23 dX9_readLine_141 rfl wf_X9_44 rfl ?_
        refine zr_aload_n hB 0 dX9_readLine_144 rfl ?_
        refine zr_geti' hG 0 21 (σ165.1 0 21) dX9_readLine_145 rfl wf_X9_168 rfl rfl ?_
        refine zr_iload_n hB 2 dX9_readLine_148 rfl ?_
        refine zr_iast hG 12 dX9_readLine_149 rfl (by omega) (by omega)  ?_
        have hOw174 := zc_O.u hOw173 12 (σ165.1 0 21).toInt.toNat (v := r140) (zn_lo _) (zn_hi _) (Or.inr (zn_lo _))
        have hAw174 := zc_Ag.u hAw173 12 (σ165.1 0 21).toInt.toNat r140 rfl
        refine zr_aload_n hB 0 dX9_readLine_150 rfl ?_
        refine zr_getr hG 0 24 dX9_readLine_151 rfl wf_X9_47 rfl ?_
        refine zr_aload_n hB 0 dX9_readLine_154 rfl ?_
        refine zr_geti' hG 0 21 (σ165.1 0 21) dX9_readLine_155 rfl wf_X9_168 rfl rfl ?_
        refine zr_iload_n hB 3 dX9_readLine_158 rfl ?_
        refine zr_iast hG 13 dX9_readLine_159 rfl (by omega) (by omega)  ?_
        have hOw175 := zc_O.u hOw174 13 (σ165.1 0 21).toInt.toNat (v := r154) (zn_lo _) (zn_hi _) (Or.inr (zn_lo _))
        have hAw175 := zc_Ag.u hAw174 13 (σ165.1 0 21).toInt.toNat r154 rfl
        refine zr_aload_n hB 0 dX9_readLine_160 rfl ?_
        refine zr_dup hB dX9_readLine_161 rfl ?_
        refine zr_geti' hG 0 21 (σ165.1 0 21) dX9_readLine_162 rfl wf_X9_168 rfl rfl ?_
        refine zr_iconst hB dX9_readLine_165 rfl (fun c176 ec176 => ?_)
        refine zr_iadd hB dX9_readLine_166 (by omega) (by omega) (fun x177 ex177 => ?_)
        refine zr_puti hG 0 21 dX9_readLine_167 rfl wp_X9_168 rfl ?_
        have hOw178 := zc_O.u hOw175 0 21 (v := x177) (show 0 ≤ x177.toInt by omega) (show x177.toInt ≤ 6 by omega) (Or.inr (show 0 ≤ x177.toInt by omega))
        have hAw178 := zc_Ag.u hAw175 0 21 x177 rfl
        have hc179 : zm_N (zc_u (zc_u (zc_u (zc_u σ165 11 (σ165.1 0 21).toInt.toNat r1) 12 (σ165.1 0 21).toInt.toNat r140) 13 (σ165.1 0 21).toInt.toNat r154) 0 21 x177) := zm_N_add hc169 (by omega) (by omega) (by omega)
        refine zr_aload_n hB 0 dX9_readLine_170 rfl ?_
        refine zr_callvn hG (rest := []) 0 dX9_readLine_171 wm_X9_161 rfl rfl (c_M_next K hG.2.2.2.2.2.1 (zc_u (zc_u (zc_u (zc_u σ165 11 (σ165.1 0 21).toInt.toNat r1) 12 (σ165.1 0 21).toInt.toNat r140) 13 (σ165.1 0 21).toInt.toNat r154) 0 21 x177)  hOw178 ) rfl rfl (Nat.le_of_ble_eq_true rfl) ⟨Nat.le_of_ble_eq_true rfl, Nat.le_of_ble_eq_true rfl, rfl, rfl⟩ (fun σ181 h182 => ?_)
        obtain ⟨hO183, hAc184, g185⟩ := h182
        have hA186 := zc_Ag.tr hAw178 hAc184 rfl
        have q187 : (σ181.1 0 21).toInt = x177.toInt := congrArg Int32.toInt (hAc184 0 21 rfl).1
        have hc188 : zm_N σ181 := zm_N.ag hc179 hAc184 rfl (fun _ => rfl) (fun _ => rfl)
        have g185' : ((σ165.1 0 8).toInt = 0 ∨ 1 ≤ (σ181.1 0 8).toInt) := g185
        exact zr_vret hG dX9_readLine_174 ⟨hO183, hA186, (show (1 ≤ (σ181.1 0 8).toInt ∨ (σ181.1 0 21).toInt = (σ0.1 0 21).toInt + 1) by omega), (show (σ0.1 0 21).toInt ≤ (σ181.1 0 21).toInt by omega), hc188⟩
      refine zr_if_ne hB dX9_readLine_107 (tgt := 123) rfl (fun c189 => ?_) (fun c189 => ?_)
      · have b190 : 0 ≤ (σ155.1 0 21).toInt ∧ (σ155.1 0 21).toInt ≤ 6 := ⟨(hO157 0 21).1, (hO157 0 21).2.1⟩
        exact zc_sub [2, 3, 1, 0] rfl (L123_168 σ155 hO157 hA161 hc163 (show (1 ≤ (σ155.1 0 8).toInt ∨ r1.toInt = 2 ∨ 1 ≤ r140.toInt) by omega) (show (σ155.1 0 21).toInt = (σ0.1 0 21).toInt by omega))
      refine zr_aload_n hB 2 dX9_readLine_110 rfl ?_
      refine zr_geti' hG 0 12 (σ155.1 0 12) dX9_readLine_111 rfl wf_X9_146 rfl rfl ?_
      have b191 : 0 ≤ (σ155.1 0 12).toInt ∧ (σ155.1 0 12).toInt ≤ 3 := ⟨(hO157 0 12).1, (hO157 0 12).2.1⟩
      refine zr_iconst hB dX9_readLine_114 rfl (fun c192 ec192 => ?_)
      refine zr_icmp_eq hB dX9_readLine_115 (tgt := 123) rfl (fun c193 => ?_) (fun c193 => ?_)
      · have b194 : 0 ≤ (σ155.1 0 21).toInt ∧ (σ155.1 0 21).toInt ≤ 6 := ⟨(hO157 0 21).1, (hO157 0 21).2.1⟩
        exact zc_sub [2, 3, 1, 0] rfl (L123_168 σ155 hO157 hA161 hc163 (show (1 ≤ (σ155.1 0 8).toInt ∨ r1.toInt = 2 ∨ 1 ≤ r140.toInt) by omega) (show (σ155.1 0 21).toInt = (σ0.1 0 21).toInt by omega))
      refine zr_aload_n hB 2 dX9_readLine_118 rfl ?_
      refine zr_iconst hB dX9_readLine_119 rfl (fun c195 ec195 => ?_)
      refine zr_callvn hG (rest := []) 0 dX9_readLine_120 wm_X9_157 rfl rfl (c_M_fails K hG.2.2.2.2.2.1 σ155 c195 hO157 (by omega) (by omega)) rfl rfl (Nat.le_of_ble_eq_true rfl) ⟨Nat.le_of_ble_eq_true rfl, Nat.le_of_ble_eq_true rfl, rfl, rfl⟩ (fun σ197 h198 => ?_)
      obtain ⟨hO199, hAc200, g201⟩ := h198
      have hA202 := zc_Ag.tr hA161 hAc200 rfl
      have q203 : (σ197.1 0 21).toInt = (σ155.1 0 21).toInt := congrArg Int32.toInt (hAc200 0 21 rfl).1
      have q204 : (σ197.1 0 12).toInt = (σ155.1 0 12).toInt := congrArg Int32.toInt (hAc200 0 12 rfl).1
      have hc205 : zm_N σ197 := zm_N.ag hc163 hAc200 rfl (fun _ => rfl) (fun _ => rfl)
      have b206 : 0 ≤ (σ197.1 0 8).toInt ∧ (σ197.1 0 8).toInt ≤ 5 := ⟨(hO199 0 8).1, (hO199 0 8).2.1⟩
      have b207 : 0 ≤ (σ197.1 0 21).toInt ∧ (σ197.1 0 21).toInt ≤ 6 := ⟨(hO199 0 21).1, (hO199 0 21).2.1⟩
      exact zc_sub [2, 3, 1, 0] rfl (L123_168 σ197 hO199 hA202 hc205 (show (1 ≤ (σ197.1 0 8).toInt ∨ r1.toInt = 2 ∨ 1 ≤ r140.toInt) by omega) (show (σ197.1 0 21).toInt = (σ0.1 0 21).toInt by omega))
    exact zr_vret hG dX9_readLine_60 ⟨hO5, hA5, (show (1 ≤ (σ5.1 0 8).toInt ∨ (σ5.1 0 21).toInt = (σ0.1 0 21).toInt + 1) by omega), (show (σ0.1 0 21).toInt ≤ (σ5.1 0 21).toInt by omega), hc9⟩
  refine zr_icmp_ne hB dX9_readLine_8 (tgt := 19) rfl (fun c208 => ?_) (fun c208 => ?_)
  · refine zr_aload_n hB 1 dX9_readLine_19 rfl ?_
    refine zr_geti' hG 0 21 (σ0.1 0 21) dX9_readLine_20 rfl wf_X9_168 rfl rfl ?_
    refine zr_bipush hB dX9_readLine_23 rfl (fun c209 ec209 => ?_)
    refine zr_icmp_ne hB dX9_readLine_25 (tgt := 36) rfl (fun c210 => ?_) (fun c210 => ?_)
    · refine zr_iload_n hB 0 dX9_readLine_36 rfl ?_
      refine zr_iconst hB dX9_readLine_37 rfl (fun c211 ec211 => ?_)
      refine zr_icmp_ne hB dX9_readLine_38 (tgt := 53) rfl (fun c212 => ?_) (fun c212 => ?_)
      · exact zc_sub [1, 0] rfl (L53_8 σ0 hO0 hA0 hN (show (1 ≤ (σ0.1 0 8).toInt ∨ (0 ≤ r1.toInt ∧ (σ0.1 0 21).toInt ≤ 5)) by omega) (show (σ0.1 0 21).toInt = (σ0.1 0 21).toInt by omega))
      refine zr_aload_n hB 1 dX9_readLine_41 rfl ?_
      refine zr_geti' hG 0 21 (σ0.1 0 21) dX9_readLine_42 rfl wf_X9_168 rfl rfl ?_
      refine zr_if_ne hB dX9_readLine_45 (tgt := 53) rfl (fun c213 => ?_) (fun c213 => ?_)
      · exact zc_sub [1, 0] rfl (L53_8 σ0 hO0 hA0 hN (show (1 ≤ (σ0.1 0 8).toInt ∨ (0 ≤ r1.toInt ∧ (σ0.1 0 21).toInt ≤ 5)) by omega) (show (σ0.1 0 21).toInt = (σ0.1 0 21).toInt by omega))
      refine zr_aload_n hB 1 dX9_readLine_48 rfl ?_
      refine zr_iconst hB dX9_readLine_49 rfl (fun c214 ec214 => ?_)
      refine zr_callvn hG (rest := []) 0 dX9_readLine_50 wm_X9_157 rfl rfl (c_M_fails K hG.2.2.2.2.2.1 σ0 c214 hO0 (by omega) (by omega)) rfl rfl (Nat.le_of_ble_eq_true rfl) ⟨Nat.le_of_ble_eq_true rfl, Nat.le_of_ble_eq_true rfl, rfl, rfl⟩ (fun σ216 h217 => ?_)
      obtain ⟨hO218, hAc219, g220⟩ := h217
      have hA221 := zc_Ag.tr hA0 hAc219 rfl
      have q222 : (σ216.1 0 21).toInt = (σ0.1 0 21).toInt := congrArg Int32.toInt (hAc219 0 21 rfl).1
      have hc223 : zm_N σ216 := zm_N.ag hN hAc219 rfl (fun _ => rfl) (fun _ => rfl)
      have b224 : 0 ≤ (σ216.1 0 8).toInt ∧ (σ216.1 0 8).toInt ≤ 5 := ⟨(hO218 0 8).1, (hO218 0 8).2.1⟩
      have b225 : 0 ≤ (σ216.1 0 21).toInt ∧ (σ216.1 0 21).toInt ≤ 6 := ⟨(hO218 0 21).1, (hO218 0 21).2.1⟩
      exact zc_sub [1, 0] rfl (L53_8 σ216 hO218 hA221 hc223 (show (1 ≤ (σ216.1 0 8).toInt ∨ (0 ≤ r1.toInt ∧ (σ216.1 0 21).toInt ≤ 5)) by omega) (show (σ216.1 0 21).toInt = (σ0.1 0 21).toInt by omega))
    refine zr_aload_n hB 1 dX9_readLine_28 rfl ?_
    refine zr_iconst hB dX9_readLine_29 rfl (fun c226 ec226 => ?_)
    refine zr_callvn hG (rest := []) 0 dX9_readLine_30 wm_X9_157 rfl rfl (c_M_fails K hG.2.2.2.2.2.1 σ0 c226 hO0 (by omega) (by omega)) rfl rfl (Nat.le_of_ble_eq_true rfl) ⟨Nat.le_of_ble_eq_true rfl, Nat.le_of_ble_eq_true rfl, rfl, rfl⟩ (fun σ228 h229 => ?_)
    obtain ⟨hO230, hAc231, g232⟩ := h229
    have hA233 := zc_Ag.tr hA0 hAc231 rfl
    have q234 : (σ228.1 0 21).toInt = (σ0.1 0 21).toInt := congrArg Int32.toInt (hAc231 0 21 rfl).1
    have hc235 : zm_N σ228 := zm_N.ag hN hAc231 rfl (fun _ => rfl) (fun _ => rfl)
    refine zr_goto hB dX9_readLine_33 (tgt := 53) rfl ?_
    have b236 : 0 ≤ (σ228.1 0 8).toInt ∧ (σ228.1 0 8).toInt ≤ 5 := ⟨(hO230 0 8).1, (hO230 0 8).2.1⟩
    have b237 : 0 ≤ (σ228.1 0 21).toInt ∧ (σ228.1 0 21).toInt ≤ 6 := ⟨(hO230 0 21).1, (hO230 0 21).2.1⟩
    exact zc_sub [1, 0] rfl (L53_8 σ228 hO230 hA233 hc235 (show (1 ≤ (σ228.1 0 8).toInt ∨ (0 ≤ r1.toInt ∧ (σ228.1 0 21).toInt ≤ 5)) by omega) (show (σ228.1 0 21).toInt = (σ0.1 0 21).toInt by omega))
  refine zr_aload_n hB 1 dX9_readLine_11 rfl ?_
  refine zr_iconst hB dX9_readLine_12 rfl (fun c238 ec238 => ?_)
  refine zr_callvn hG (rest := []) 0 dX9_readLine_13 wm_X9_157 rfl rfl (c_M_fails K hG.2.2.2.2.2.1 σ0 c238 hO0 (by omega) (by omega)) rfl rfl (Nat.le_of_ble_eq_true rfl) ⟨Nat.le_of_ble_eq_true rfl, Nat.le_of_ble_eq_true rfl, rfl, rfl⟩ (fun σ240 h241 => ?_)
  obtain ⟨hO242, hAc243, g244⟩ := h241
  have hA245 := zc_Ag.tr hA0 hAc243 rfl
  have q246 : (σ240.1 0 21).toInt = (σ0.1 0 21).toInt := congrArg Int32.toInt (hAc243 0 21 rfl).1
  have hc247 : zm_N σ240 := zm_N.ag hN hAc243 rfl (fun _ => rfl) (fun _ => rfl)
  refine zr_goto hB dX9_readLine_16 (tgt := 53) rfl ?_
  have b248 : 0 ≤ (σ240.1 0 8).toInt ∧ (σ240.1 0 8).toInt ≤ 5 := ⟨(hO242 0 8).1, (hO242 0 8).2.1⟩
  have b249 : 0 ≤ (σ240.1 0 21).toInt ∧ (σ240.1 0 21).toInt ≤ 6 := ⟨(hO242 0 21).1, (hO242 0 21).2.1⟩
  exact zc_sub [1, 0] rfl (L53_8 σ240 hO242 hA245 hc247 (show (1 ≤ (σ240.1 0 8).toInt ∨ (0 ≤ r1.toInt ∧ (σ240.1 0 21).toInt ≤ 5)) by omega) (show (σ240.1 0 21).toInt = (σ0.1 0 21).toInt by omega))

def m_M_text : zc_ms := [(0, some 8), (0, some 9), (0, some 10), (0, some 11), (0, some 12), (0, some 13), (0, some 21), (11, none), (12, none), (13, none), (0, some 6), (0, some 7), (0, some 17), (8, none), (9, none), (10, none)]
set_option maxHeartbeats 1000000 in
set_option maxRecDepth 100000 in
theorem c_M_text (K : zc_K) (hi : zc_inj shM K.2.2.2.1) (σ0 : zc_S)  (hO0 : zc_O okM σ0) (hT : zm_T σ0) : zc_M shM K yX9_text cX9_text 2 (some .int) (zrm 4 92) σ0 [.ref (zk K 0)] (zc_I (fun r9 σ9 => zc_O okM σ9 ∧ zc_Ag m_M_text σ0 σ9 ∧ (-130) ≤ r9.toInt ∧ r9.toInt ≤ 6 ∧ (σ9.1 0 6).toInt = 0 ∧ zm_T σ9)) := by
  refine zc_start RX9 hi pfX9_text rfl (Nat.le_of_ble_eq_true rfl) ?_
  intro G hG
  have hB := hG.1
  have hA0 : zc_Ag m_M_text σ0 σ0 := zc_Ag.rf
  show zc_V 2 K G (zc_D shM K G σ0) [(0, .ref (zk K 0))] 0 []
  refine zr_aload_n hB 0 dX9_text_0 rfl ?_
  refine zr_iconst hB dX9_text_1 rfl (fun c1 ec1 => ?_)
  refine zr_puti hG 0 8 dX9_text_2 rfl wp_X9_128 rfl ?_
  have hOw2 := zc_O.u hO0 0 8 (v := c1) (show 0 ≤ c1.toInt by omega) (show c1.toInt ≤ 5 by omega) (Or.inr (show 0 ≤ c1.toInt by omega))
  have hAw2 := zc_Ag.u hA0 0 8 c1 rfl
  have hc3 : zm_T (zc_u σ0 0 8 c1) := zm_T.ag hT (zc_Ag.u (M := [(0, some 8)]) (σ := σ0) zc_Ag.rf 0 8 c1 rfl) rfl (fun _ => rfl) (fun _ => rfl)
  refine zr_aload_n hB 0 dX9_text_5 rfl ?_
  refine zr_iconst hB dX9_text_6 rfl (fun c4 ec4 => ?_)
  refine zr_puti hG 0 10 dX9_text_7 rfl wp_X9_137 rfl ?_
  have hOw5 := zc_O.u hOw2 0 10 (v := c4) (show 0 ≤ c4.toInt by omega) (show c4.toInt ≤ 120 by omega) (Or.inr (show 0 ≤ c4.toInt by omega))
  have hAw5 := zc_Ag.u hAw2 0 10 c4 rfl
  have hc6 : zm_T (zc_u (zc_u σ0 0 8 c1) 0 10 c4) := zm_T.ag hc3 (zc_Ag.u (M := [(0, some 10)]) (σ := (zc_u σ0 0 8 c1)) zc_Ag.rf 0 10 c4 rfl) rfl (fun _ => rfl) (fun _ => rfl)
  refine zr_aload_n hB 0 dX9_text_10 rfl ?_
  refine zr_iconst hB dX9_text_11 rfl (fun c7 ec7 => ?_)
  refine zr_puti hG 0 21 dX9_text_12 rfl wp_X9_168 rfl ?_
  have hOw8 := zc_O.u hOw5 0 21 (v := c7) (show 0 ≤ c7.toInt by omega) (show c7.toInt ≤ 6 by omega) (Or.inr (show 0 ≤ c7.toInt by omega))
  have hAw8 := zc_Ag.u hAw5 0 21 c7 rfl
  have hc9 : zm_T (zc_u (zc_u (zc_u σ0 0 8 c1) 0 10 c4) 0 21 c7) := zm_T.ag hc6 (zc_Ag.u (M := [(0, some 21)]) (σ := (zc_u (zc_u σ0 0 8 c1) 0 10 c4)) zc_Ag.rf 0 21 c7 rfl) rfl (fun _ => rfl) (fun _ => rfl)
  have hc10 : zm_N (zc_u (zc_u (zc_u σ0 0 8 c1) 0 10 c4) 0 21 c7) := zm_N0 (show c7.toInt ≤ 0 by omega)
  refine zr_aload_n hB 0 dX9_text_15 rfl ?_
  refine zr_callvn hG (rest := []) 0 dX9_text_16 wm_X9_161 rfl rfl (c_M_next K hG.2.2.2.2.2.1 (zc_u (zc_u (zc_u σ0 0 8 c1) 0 10 c4) 0 21 c7)  hOw8 ) rfl rfl (Nat.le_of_ble_eq_true rfl) ⟨Nat.le_of_ble_eq_true rfl, Nat.le_of_ble_eq_true rfl, rfl, rfl⟩ (fun σ12 h13 => ?_)
  obtain ⟨hO14, hAc15, g16⟩ := h13
  have hA17 := zc_Ag.tr hAw8 hAc15 rfl
  have q18 : (σ12.1 0 21).toInt = c7.toInt := congrArg Int32.toInt (hAc15 0 21 rfl).1
  have hc19 : zm_T σ12 := zm_T.ag hc9 hAc15 rfl (fun _ => rfl) (fun _ => rfl)
  have hc20 : zm_N σ12 := zm_N.ag hc10 hAc15 rfl (fun _ => rfl) (fun _ => rfl)
  have g16' : (c1.toInt = 0 ∨ 1 ≤ (σ12.1 0 8).toInt) := g16
  have L19_26 : ∀ (n19 : Nat) (σ21 : zc_S) , zc_O okM σ21 → zc_Ag m_M_text σ0 σ21 → zm_T σ21 → zm_N σ21 → 0 ≤ (σ21.1 0 21).toInt → (σ21.1 0 21).toInt ≤ 6 → 0 ≤ (σ21.1 0 8).toInt → (σ21.1 0 8).toInt ≤ 5 → 12 - (σ21.1 0 21).toInt - (σ21.1 0 8).toInt < (n19 : Int) → zc_V 2 K G (zc_D shM K G σ21) [(0, .ref (zk K 0))] 19 [] := by
    intro n19
    induction n19 with
    | zero => intro σ21 hO21 hA21 hc27 hc28 e22 e23 e24 e25 hn19; exfalso; omega
    | succ n19 ih19 =>
      intro σ21 hO21 hA21 hc27 hc28 e22 e23 e24 e25 hn19
      refine zr_aload_n hB 0 dX9_text_19 rfl ?_
      refine zr_geti' hG 0 8 (σ21.1 0 8) dX9_text_20 rfl wf_X9_128 rfl rfl ?_
      have b29 : 0 ≤ (σ21.1 0 8).toInt ∧ (σ21.1 0 8).toInt ≤ 5 := ⟨(hO21 0 8).1, (hO21 0 8).2.1⟩
      have L40_30 : zc_V 2 K G (zc_D shM K G σ21) [(0, .ref (zk K 0))] 40 [] := by
        refine zr_aload_n hB 0 dX9_text_40 rfl ?_
        refine zr_iconst hB dX9_text_41 rfl (fun c31 ec31 => ?_)
        refine zr_puti hG 0 6 dX9_text_42 rfl wp_X9_125 rfl ?_
        have hOw32 := zc_O.u hO21 0 6 (v := c31) (show 0 ≤ c31.toInt by omega) (show c31.toInt ≤ 120 by omega) (Or.inr (show 0 ≤ c31.toInt by omega))
        have hAw32 := zc_Ag.u hA21 0 6 c31 rfl
        have hc33 : zm_T (zc_u σ21 0 6 c31) := zm_T.ag hc27 (zc_Ag.u (M := [(0, some 6)]) (σ := σ21) zc_Ag.rf 0 6 c31 rfl) rfl (fun _ => rfl) (fun _ => rfl)
        have hc34 : zm_N (zc_u σ21 0 6 c31) := zm_N.ag hc28 (zc_Ag.u (M := [(0, some 6)]) (σ := σ21) zc_Ag.rf 0 6 c31 rfl) rfl (fun _ => rfl) (fun _ => rfl)
        refine zr_aload_n hB 0 dX9_text_45 rfl ?_
        refine zr_aload_n hB 0 dX9_text_46 rfl ?_
        refine zr_geti' hG 0 8 (σ21.1 0 8) dX9_text_47 rfl wf_X9_128 rfl rfl ?_
        refine zr_puti hG 0 7 dX9_text_50 rfl wp_X9_178 rfl ?_
        have hOw35 := zc_O.u hOw32 0 7 (v := (σ21.1 0 8)) (show 0 ≤ (σ21.1 0 8).toInt by omega) (show (σ21.1 0 8).toInt ≤ 5 by omega) (Or.inr (show 0 ≤ (σ21.1 0 8).toInt by omega))
        have hAw35 := zc_Ag.u hAw32 0 7 (σ21.1 0 8) rfl
        have hc36 : zm_T (zc_u (zc_u σ21 0 6 c31) 0 7 (σ21.1 0 8)) := zm_T.ag hc33 (zc_Ag.u (M := [(0, some 7)]) (σ := (zc_u σ21 0 6 c31)) zc_Ag.rf 0 7 (σ21.1 0 8) rfl) rfl (fun _ => rfl) (fun _ => rfl)
        have hc37 : zm_N (zc_u (zc_u σ21 0 6 c31) 0 7 (σ21.1 0 8)) := zm_N.ag hc34 (zc_Ag.u (M := [(0, some 7)]) (σ := (zc_u σ21 0 6 c31)) zc_Ag.rf 0 7 (σ21.1 0 8) rfl) rfl (fun _ => rfl) (fun _ => rfl)
        refine zr_aload_n hB 0 dX9_text_53 rfl ?_
        refine zr_geti' hG 0 8 (σ21.1 0 8) dX9_text_54 rfl wf_X9_128 rfl rfl ?_
        refine zr_if_le hB dX9_text_57 (tgt := 68) rfl (fun c38 => ?_) (fun c38 => ?_)
        · refine zr_aload_n hB 0 dX9_text_68 rfl ?_
          refine zr_aload_n hB 0 dX9_text_69 rfl ?_
          refine zr_geti' hG 0 21 (σ21.1 0 21) dX9_text_70 rfl wf_X9_168 rfl rfl ?_
          have b39 : 0 ≤ (σ21.1 0 21).toInt ∧ (σ21.1 0 21).toInt ≤ 6 := ⟨(hOw35 0 21).1, (hOw35 0 21).2.1⟩
          refine zr_puti hG 0 17 dX9_text_73 rfl wp_X9_181 rfl ?_
          have hOw40 := zc_O.u hOw35 0 17 (v := (σ21.1 0 21)) (show 0 ≤ (σ21.1 0 21).toInt by omega) (show (σ21.1 0 21).toInt ≤ 6 by omega) (Or.inr (show 0 ≤ (σ21.1 0 21).toInt by omega))
          have hAw40 := zc_Ag.u hAw35 0 17 (σ21.1 0 21) rfl
          have hc41 : zm_N (zc_u (zc_u (zc_u σ21 0 6 c31) 0 7 (σ21.1 0 8)) 0 17 (σ21.1 0 21)) := zm_N.ag hc37 (zc_Ag.u (M := [(0, some 17)]) (σ := (zc_u (zc_u σ21 0 6 c31) 0 7 (σ21.1 0 8))) zc_Ag.rf 0 17 (σ21.1 0 21) rfl) rfl (fun _ => rfl) (fun _ => rfl)
          refine zr_iconst hB dX9_text_76 rfl (fun c42 ec42 => ?_)
          refine zr_istore_n hB dX9_text_77 rfl (by decide) (lv' := [(1, .int c42), (0, .ref (zk K 0))]) rfl ?_
          have L78_47 : ∀ (n78 : Nat) (σ44 : zc_S) (y1_43 : Int32), zc_O okM σ44 → zc_Ag m_M_text σ0 σ44 → zm_N σ44 → 0 ≤ y1_43.toInt → y1_43.toInt ≤ 6 → (σ44.1 0 6).toInt = 0 → (σ44.1 0 17).toInt = (σ44.1 0 21).toInt → zm_C σ44 y1_43.toInt → 6 - y1_43.toInt < (n78 : Int) → zc_V 2 K G (zc_D shM K G σ44) [(0, .ref (zk K 0)), (1, .int y1_43)] 78 [] := by
            intro n78
            induction n78 with
            | zero => intro σ44 y1_43 hO44 hA44 hc48 y1_43a y1_43b e45 e46 hcp hn78; exfalso; omega
            | succ n78 ih78 =>
              intro σ44 y1_43 hO44 hA44 hc48 y1_43a y1_43b e45 e46 hcp hn78
              refine zr_iload_n hB 1 dX9_text_78 rfl ?_
              refine zr_bipush hB dX9_text_79 rfl (fun c49 ec49 => ?_)
              refine zr_icmp_ge hB dX9_text_81 (tgt := 126) rfl (fun c50 => ?_) (fun c50 => ?_)
              · refine zr_aload_n hB 0 dX9_text_126 rfl ?_
                refine zr_geti' hG 0 17 (σ44.1 0 17) dX9_text_127 rfl wf_X9_181 rfl rfl ?_
                have b51 : 0 ≤ (σ44.1 0 17).toInt ∧ (σ44.1 0 17).toInt ≤ 6 := ⟨(hO44 0 17).1, (hO44 0 17).2.1⟩
                exact zr_iret hG dX9_text_130 ⟨hO44, hA44, by omega, by omega, (show (σ44.1 0 6).toInt = 0 by omega), zm_TN hc48 (show zm_C σ44 6 by have h6 : y1_43.toInt = 6 := (by omega); rw [← h6]; exact hcp) (by omega) (by omega)⟩
              refine zr_aload_n hB 0 dX9_text_84 rfl ?_
              refine zr_getr hG 0 18 dX9_text_85 rfl wf_X9_32 rfl ?_
              refine zr_iload_n hB 1 dX9_text_88 rfl ?_
              refine zr_aload_n hB 0 dX9_text_89 rfl ?_
              refine zr_getr hG 0 22 dX9_text_90 rfl wf_X9_41 rfl ?_
              refine zr_iload_n hB 1 dX9_text_93 rfl ?_
              refine zr_iald hG 11 dX9_text_94 rfl (by omega) (by omega) (fun x52 ex52 => ?_)
              have bx52 : 0 ≤ x52.toInt ∧ x52.toInt ≤ 4 := by rw [ex52]; exact ⟨(hO44 11 _).1, (hO44 11 _).2.1⟩
              refine zr_iast hG 8 dX9_text_95 rfl (by omega) (by omega)  ?_
              have hOw53 := zc_O.u hO44 8 y1_43.toInt.toNat (v := x52) (show 0 ≤ x52.toInt by omega) (show x52.toInt ≤ 4 by omega) (Or.inr (show 0 ≤ x52.toInt by omega))
              have hAw53 := zc_Ag.u hA44 8 y1_43.toInt.toNat x52 rfl
              have hc54 : zm_N (zc_u σ44 8 y1_43.toInt.toNat x52) := zm_N.ag hc48 (zc_Ag.u (M := [(8, none)]) (σ := σ44) zc_Ag.rf 8 y1_43.toInt.toNat x52 rfl) rfl (fun _ => rfl) (fun _ => rfl)
              refine zr_aload_n hB 0 dX9_text_96 rfl ?_
              refine zr_getr hG 0 19 dX9_text_97 rfl wf_X9_35 rfl ?_
              refine zr_iload_n hB 1 dX9_text_100 rfl ?_
              refine zr_aload_n hB 0 dX9_text_101 rfl ?_
              refine zr_getr hG 0 23 dX9_text_102 rfl wf_X9_44 rfl ?_
              refine zr_iload_n hB 1 dX9_text_105 rfl ?_
              refine zr_iald hG 12 dX9_text_106 rfl (by omega) (by omega) (fun x55 ex55 => ?_)
              refine zr_iast hG 9 dX9_text_107 rfl (by omega) (by omega)  ?_
              have hOw56 := zc_O.u hOw53 9 y1_43.toInt.toNat (v := x55) (zn_lo _) (zn_hi _) (Or.inr (zn_lo _))
              have hAw56 := zc_Ag.u hAw53 9 y1_43.toInt.toNat x55 rfl
              have hc57 : zm_N (zc_u (zc_u σ44 8 y1_43.toInt.toNat x52) 9 y1_43.toInt.toNat x55) := zm_N.ag hc54 (zc_Ag.u (M := [(9, none)]) (σ := (zc_u σ44 8 y1_43.toInt.toNat x52)) zc_Ag.rf 9 y1_43.toInt.toNat x55 rfl) rfl (fun _ => rfl) (fun _ => rfl)
              refine zr_aload_n hB 0 dX9_text_108 rfl ?_
              refine zr_getr hG 0 20 dX9_text_109 rfl wf_X9_38 rfl ?_
              refine zr_iload_n hB 1 dX9_text_112 rfl ?_
              refine zr_aload_n hB 0 dX9_text_113 rfl ?_
              refine zr_getr hG 0 24 dX9_text_114 rfl wf_X9_47 rfl ?_
              refine zr_iload_n hB 1 dX9_text_117 rfl ?_
              refine zr_iald hG 13 dX9_text_118 rfl (by omega) (by omega) (fun x58 ex58 => ?_)
              refine zr_iast hG 10 dX9_text_119 rfl (by omega) (by omega)  ?_
              have hOw59 := zc_O.u hOw56 10 y1_43.toInt.toNat (v := x58) (zn_lo _) (zn_hi _) (Or.inr (zn_lo _))
              have hAw59 := zc_Ag.u hAw56 10 y1_43.toInt.toNat x58 rfl
              have hc60 : zm_N (zc_u (zc_u (zc_u σ44 8 y1_43.toInt.toNat x52) 9 y1_43.toInt.toNat x55) 10 y1_43.toInt.toNat x58) := zm_N.ag hc57 (zc_Ag.u (M := [(10, none)]) (σ := (zc_u (zc_u σ44 8 y1_43.toInt.toNat x52) 9 y1_43.toInt.toNat x55)) zc_Ag.rf 10 y1_43.toInt.toNat x58 rfl) rfl (fun _ => rfl) (fun _ => rfl)
              refine zr_iinc hB 1 dX9_text_120 rfl (by decide) rfl (by omega) (by omega) (fun x61 ex61 lv' hlv => ?_)
              obtain rfl : [(1, .int x61), (0, .ref (zk K 0))] = lv' := hlv
              refine zr_goto hB dX9_text_123 (tgt := 78) rfl ?_
              have b62 : 0 ≤ (σ44.1 0 6).toInt ∧ (σ44.1 0 6).toInt ≤ 120 := ⟨(hOw59 0 6).1, (hOw59 0 6).2.1⟩
              have b63 : 0 ≤ (σ44.1 0 17).toInt ∧ (σ44.1 0 17).toInt ≤ 6 := ⟨(hOw59 0 17).1, (hOw59 0 17).2.1⟩
              have b64 : 0 ≤ (σ44.1 0 21).toInt ∧ (σ44.1 0 21).toInt ≤ 6 := ⟨(hOw59 0 21).1, (hOw59 0 21).2.1⟩
              exact zc_sub [1, 0] rfl (ih78 (zc_u (zc_u (zc_u σ44 8 y1_43.toInt.toNat x52) 9 y1_43.toInt.toNat x55) 10 y1_43.toInt.toNat x58) x61 hOw59 hAw59 hc60 (by omega) (by omega) (show (σ44.1 0 6).toInt = 0 by omega) (show (σ44.1 0 17).toInt = (σ44.1 0 21).toInt by omega) (show zm_C (zc_u (zc_u (zc_u σ44 8 y1_43.toInt.toNat x52) 9 y1_43.toInt.toNat x55) 10 y1_43.toInt.toNat x58) x61.toInt by exact zm_C_add hcp rfl (by omega) (by omega) ex52 ex55) (by omega))
          exact zc_sub [1, 0] rfl (L78_47 8 (zc_u (zc_u (zc_u σ21 0 6 c31) 0 7 (σ21.1 0 8)) 0 17 (σ21.1 0 21)) c42 hOw40 hAw40 hc41 (by omega) (by omega) (show c31.toInt = 0 by omega) (show (σ21.1 0 21).toInt = (σ21.1 0 21).toInt by omega) (show zm_C (zc_u (zc_u (zc_u σ21 0 6 c31) 0 7 (σ21.1 0 8)) 0 17 (σ21.1 0 21)) c42.toInt by exact zm_C0 (by omega)) (by omega))
        refine zr_bipush hB dX9_text_60 rfl (fun c65 ec65 => ?_)
        refine zr_aload_n hB 0 dX9_text_62 rfl ?_
        refine zr_geti' hG 0 9 (σ21.1 0 9) dX9_text_63 rfl wf_X9_134 rfl rfl ?_
        have b66 : 0 ≤ (σ21.1 0 9).toInt ∧ (σ21.1 0 9).toInt ≤ 120 := ⟨(hOw35 0 9).1, (hOw35 0 9).2.1⟩
        refine zr_isub hB dX9_text_66 (by omega) (by omega) (fun x67 ex67 => ?_)
        exact zr_iret hG dX9_text_67 ⟨hOw35, hAw35, by omega, by omega, (show c31.toInt = 0 by omega), hc36⟩
      refine zr_if_ne hB dX9_text_23 (tgt := 40) rfl (fun c68 => ?_) (fun c68 => ?_)
      · exact L40_30
      refine zr_aload_n hB 0 dX9_text_26 rfl ?_
      refine zr_geti' hG 0 12 (σ21.1 0 12) dX9_text_27 rfl wf_X9_146 rfl rfl ?_
      have b69 : 0 ≤ (σ21.1 0 12).toInt ∧ (σ21.1 0 12).toInt ≤ 3 := ⟨(hO21 0 12).1, (hO21 0 12).2.1⟩
      refine zr_if_eq hB dX9_text_30 (tgt := 40) rfl (fun c70 => ?_) (fun c70 => ?_)
      · exact L40_30
      refine zr_aload_n hB 0 dX9_text_33 rfl ?_
      refine zr_callvn hG (rest := []) 0 dX9_text_34 wm_X9_175 rfl rfl (c_M_readLine K hG.2.2.2.2.2.1 σ21  hO21 (by omega) hc28) rfl rfl (Nat.le_of_ble_eq_true rfl) ⟨Nat.le_of_ble_eq_true rfl, Nat.le_of_ble_eq_true rfl, rfl, rfl⟩ (fun σ72 h73 => ?_)
      obtain ⟨hO74, hAc75, g76, g77, g78⟩ := h73
      have hA79 := zc_Ag.tr hA21 hAc75 rfl
      have hc80 : zm_T σ72 := zm_T.ag hc27 hAc75 rfl (fun _ => rfl) (fun _ => rfl)
      refine zr_goto hB dX9_text_37 (tgt := 19) rfl ?_
      have b81 : 0 ≤ (σ72.1 0 21).toInt ∧ (σ72.1 0 21).toInt ≤ 6 := ⟨(hO74 0 21).1, (hO74 0 21).2.1⟩
      have b82 : 0 ≤ (σ72.1 0 8).toInt ∧ (σ72.1 0 8).toInt ≤ 5 := ⟨(hO74 0 8).1, (hO74 0 8).2.1⟩
      exact ih19 σ72 hO74 hA79 hc80 g78 (show 0 ≤ (σ72.1 0 21).toInt by omega) (show (σ72.1 0 21).toInt ≤ 6 by omega) (show 0 ≤ (σ72.1 0 8).toInt by omega) (show (σ72.1 0 8).toInt ≤ 5 by omega) (show 12 - (σ72.1 0 21).toInt - (σ72.1 0 8).toInt < (n19 : Int) by omega)
  have b83 : 0 ≤ (σ12.1 0 21).toInt ∧ (σ12.1 0 21).toInt ≤ 6 := ⟨(hO14 0 21).1, (hO14 0 21).2.1⟩
  have b84 : 0 ≤ (σ12.1 0 8).toInt ∧ (σ12.1 0 8).toInt ≤ 5 := ⟨(hO14 0 8).1, (hO14 0 8).2.1⟩
  exact L19_26 20 σ12 hO14 hA17 hc19 hc20 (show 0 ≤ (σ12.1 0 21).toInt by omega) (show (σ12.1 0 21).toInt ≤ 6 by omega) (show 0 ≤ (σ12.1 0 8).toInt by omega) (show (σ12.1 0 8).toInt ≤ 5 by omega) (show 12 - (σ12.1 0 21).toInt - (σ12.1 0 8).toInt < ((20 : Nat) : Int) by omega)

set_option maxHeartbeats 1000000 in
set_option maxRecDepth 100000 in
theorem c_M_isTeller (K : zc_K) (hi : zc_inj shM K.2.2.2.1) (σ0 : zc_S) (p1 : Int32) (hO0 : zc_O okM σ0)  : zc_M shM K yX9_isTeller cX9_isTeller 2 (some .boolean) (zrm 1 25) σ0 [.ref (zk K 0), .int p1] (zc_I (fun r9 σ9 => σ0 = σ9 ∧ zc_if r9 (0 ≤ p1.toInt ∧ p1.toInt < (σ0.1 0 17).toInt ∧ p1.toInt ≤ 5))) := by
  refine zc_start RX9 hi pfX9_isTeller rfl (Nat.le_of_ble_eq_true rfl) ?_
  intro G hG
  have hB := hG.1
  show zc_V 2 K G (zc_D shM K G σ0) [(0, .ref (zk K 0)), (1, .int p1)] 0 []
  refine zr_iload_n hB 1 dX9_isTeller_0 rfl ?_
  have v2 := And.intro (zn_lo p1) (zn_hi p1)
  refine zr_i2l hB dX9_isTeller_1 (fun l1 el1 => ?_)
  refine zr_lconst hB dX9_isTeller_2 (m := 0) rfl (fun c3 ec3 => ?_)
  refine zr_aload_n hB 0 dX9_isTeller_3 rfl ?_
  refine zr_geti' hG 0 17 (σ0.1 0 17) dX9_isTeller_4 rfl wf_X9_181 rfl rfl ?_
  have b4 : 0 ≤ (σ0.1 0 17).toInt ∧ (σ0.1 0 17).toInt ≤ 6 := ⟨(hO0 0 17).1, (hO0 0 17).2.1⟩
  refine zr_iconst hB dX9_isTeller_7 rfl (fun c5 ec5 => ?_)
  refine zr_isub hB dX9_isTeller_8 (by omega) (by omega) (fun x6 ex6 => ?_)
  refine zr_i2l hB dX9_isTeller_9 (fun l7 el7 => ?_)
  refine zr_callsi hG (rest := []) dX9_isTeller_10 wm_X9_91 (c_M_in K hG.2.2.2.2.2.1 σ0 l1 c3 l7 hO0 ) rfl rfl (Nat.le_of_ble_eq_true rfl) ⟨Nat.le_of_ble_eq_true rfl, Nat.le_of_ble_eq_true rfl, rfl, rfl⟩ (fun r8 σ9 h10 => ?_)
  obtain ⟨rfl, r8q⟩ := h10
  have r8z := r8q.b
  exact zr_zret hG dX9_isTeller_13 (by omega) (by omega) ⟨rfl, zc_if.to r8q ⟨fun hq9 => by omega, fun hq9 => by omega⟩⟩

set_option maxHeartbeats 1000000 in
set_option maxRecDepth 100000 in
theorem c_M_teller (K : zc_K) (hi : zc_inj shM K.2.2.2.1) (σ0 : zc_S) (p1 : Int32) (p2 : Int32) (hO0 : zc_O okM σ0)  : zc_M shM K yX9_teller cX9_teller 3 (some .int) (zrm 2 46) σ0 [.ref (zk K 0), .int p1, .int p2] (zc_I (fun r9 σ9 => σ0 = σ9)) := by
  refine zc_start RX9 hi pfX9_teller rfl (Nat.le_of_ble_eq_true rfl) ?_
  intro G hG
  have hB := hG.1
  show zc_V 3 K G (zc_D shM K G σ0) [(0, .ref (zk K 0)), (1, .int p1), (2, .int p2)] 0 []
  refine zr_aload_n hB 0 dX9_teller_0 rfl ?_
  refine zr_iload_n hB 1 dX9_teller_1 rfl ?_
  refine zr_callvi hG (rest := []) 0 dX9_teller_2 wm_X9_184 rfl rfl (c_M_isTeller K hG.2.2.2.2.2.1 σ0 p1 hO0 ) rfl rfl (Nat.le_of_ble_eq_true rfl) ⟨Nat.le_of_ble_eq_true rfl, Nat.le_of_ble_eq_true rfl, rfl, rfl⟩ (fun r1 σ2 h3 => ?_)
  obtain ⟨rfl, r1q⟩ := h3
  have r1z := r1q.b
  refine zr_if_ne hB dX9_teller_5 (tgt := 10) rfl (fun c4 => ?_) (fun c4 => ?_)
  · have q5 := r1q.t c4
    refine zr_iload_n hB 2 dX9_teller_10 rfl ?_
    refine zr_if_ne hB dX9_teller_11 (tgt := 23) rfl (fun c6 => ?_) (fun c6 => ?_)
    · refine zr_iload_n hB 2 dX9_teller_23 rfl ?_
      refine zr_iconst hB dX9_teller_24 rfl (fun c7 ec7 => ?_)
      refine zr_icmp_ne hB dX9_teller_25 (tgt := 37) rfl (fun c8 => ?_) (fun c8 => ?_)
      · refine zr_iload_n hB 2 dX9_teller_37 rfl ?_
        refine zr_iconst hB dX9_teller_38 rfl (fun c9 ec9 => ?_)
        refine zr_icmp_ne hB dX9_teller_39 (tgt := 51) rfl (fun c10 => ?_) (fun c10 => ?_)
        · refine zr_iconst hB dX9_teller_51 rfl (fun c11 ec11 => ?_)
          exact zr_iret hG dX9_teller_52 rfl
        refine zr_aload_n hB 0 dX9_teller_42 rfl ?_
        refine zr_getr hG 0 20 dX9_teller_43 rfl wf_X9_38 rfl ?_
        refine zr_iload_n hB 1 dX9_teller_46 rfl ?_
        refine zr_iald hG 10 dX9_teller_47 rfl (by omega) (by omega) (fun x12 ex12 => ?_)
        refine zr_goto hB dX9_teller_48 (tgt := 52) rfl ?_
        exact zr_iret hG dX9_teller_52 rfl
      refine zr_aload_n hB 0 dX9_teller_28 rfl ?_
      refine zr_getr hG 0 19 dX9_teller_29 rfl wf_X9_35 rfl ?_
      refine zr_iload_n hB 1 dX9_teller_32 rfl ?_
      refine zr_iald hG 9 dX9_teller_33 rfl (by omega) (by omega) (fun x13 ex13 => ?_)
      refine zr_goto hB dX9_teller_34 (tgt := 52) rfl ?_
      exact zr_iret hG dX9_teller_52 rfl
    refine zr_aload_n hB 0 dX9_teller_14 rfl ?_
    refine zr_getr hG 0 18 dX9_teller_15 rfl wf_X9_32 rfl ?_
    refine zr_iload_n hB 1 dX9_teller_18 rfl ?_
    refine zr_iald hG 8 dX9_teller_19 rfl (by omega) (by omega) (fun x14 ex14 => ?_)
    have bx14 : 0 ≤ x14.toInt ∧ x14.toInt ≤ 4 := by rw [ex14]; exact ⟨(hO0 8 _).1, (hO0 8 _).2.1⟩
    refine zr_goto hB dX9_teller_20 (tgt := 52) rfl ?_
    exact zr_iret hG dX9_teller_52 rfl
  have q15 := r1q.f c4
  refine zr_iconst hB dX9_teller_8 rfl (fun c16 ec16 => ?_)
  exact zr_iret hG dX9_teller_9 rfl

set_option maxHeartbeats 1000000 in
set_option maxRecDepth 100000 in
theorem c_M_fault (K : zc_K) (hi : zc_inj shM K.2.2.2.1) (σ0 : zc_S)  (hO0 : zc_O okM σ0)  : zc_M shM K yX9_fault cX9_fault 1 (some .int) (zrm 0 0) σ0 [.ref (zk K 0)] (zc_I (fun r9 σ9 => σ0 = σ9 ∧ 0 ≤ r9.toInt ∧ r9.toInt ≤ 5)) := by
  refine zc_start RX9 hi pfX9_fault rfl (Nat.le_of_ble_eq_true rfl) ?_
  intro G hG
  have hB := hG.1
  show zc_V 1 K G (zc_D shM K G σ0) [(0, .ref (zk K 0))] 0 []
  refine zr_aload_n hB 0 dX9_fault_0 rfl ?_
  refine zr_geti' hG 0 7 (σ0.1 0 7) dX9_fault_1 rfl wf_X9_178 rfl rfl ?_
  have b1 : 0 ≤ (σ0.1 0 7).toInt ∧ (σ0.1 0 7).toInt ≤ 5 := ⟨(hO0 0 7).1, (hO0 0 7).2.1⟩
  exact zr_iret hG dX9_fault_4 ⟨rfl, by omega, by omega⟩

set_option maxHeartbeats 1000000 in
set_option maxRecDepth 100000 in
theorem c_M_down (K : zc_K) (hi : zc_inj shM K.2.2.2.1) (σ0 : zc_S) (p0 : Int32) (p1 : Int32) (hO0 : zc_O okM σ0) (h1a : 1 ≤ p1.toInt) (h1b : p1.toInt ≤ 100) : zc_M shM K yX9_down cX9_down 3 (some .int) (zrm 0 0) σ0 [.int p0, .int p1] (zc_I (fun r9 σ9 => σ0 = σ9)) := by
  refine zc_start RX9 hi pfX9_down rfl (Nat.le_of_ble_eq_true rfl) ?_
  intro G hG
  have hB := hG.1
  show zc_V 3 K G (zc_D shM K G σ0) [(0, .int p0), (1, .int p1)] 0 []
  refine zr_iload_n hB 0 dX9_down_0 rfl ?_
  refine zr_iload_n hB 1 dX9_down_1 rfl ?_
  refine zr_idivw hB dX9_down_2 (by omega) (fun x1 ex1 => ?_)
  refine zr_istore_n hB dX9_down_3 rfl (by decide) (lv' := [(2, .int x1), (0, .int p0), (1, .int p1)]) rfl ?_
  refine zr_iload_n hB 1 dX9_down_4 rfl ?_
  refine zr_iload_n hB 2 dX9_down_5 rfl ?_
  refine zr_iremw hB dX9_down_6 (by omega) (fun x2 ex2 => ?_)
  refine zr_if_eq hB dX9_down_7 (tgt := 20) rfl (fun c3 => ?_) (fun c3 => ?_)
  · refine zr_iload_n hB 0 dX9_down_20 rfl ?_
    exact zr_iret hG dX9_down_21 rfl
  refine zr_iload_n hB 1 dX9_down_10 rfl ?_
  refine zr_if_ge hB dX9_down_11 (tgt := 20) rfl (fun c4 => ?_) (fun c4 => ?_)
  · refine zr_iload_n hB 0 dX9_down_20 rfl ?_
    exact zr_iret hG dX9_down_21 rfl
  refine zr_iload_n hB 0 dX9_down_14 rfl ?_
  refine zr_iconst hB dX9_down_15 rfl (fun c5 ec5 => ?_)
  refine zr_isubw hB dX9_down_16 (fun x6 ex6 => ?_)
  refine zr_goto hB dX9_down_17 (tgt := 21) rfl ?_
  exact zr_iret hG dX9_down_21 rfl

set_option maxHeartbeats 1000000 in
set_option maxRecDepth 100000 in
theorem c_M_tellSame (K : zc_K) (hi : zc_inj shM K.2.2.2.1) (σ0 : zc_S) (p1 : Int32) (p2 : Int32) (p3 : Int32) (p4 : Int32) (hO0 : zc_O okM σ0) (h1a : 1 ≤ p1.toInt) (h2a : 0 ≤ p2.toInt) (h2b : p2.toInt ≤ 3) (h3a : 0 ≤ p3.toInt) (h3b : p3.toInt ≤ 63) (h4a : 1 ≤ p4.toInt) (h4b : p4.toInt ≤ 14) : zc_M shM K yX9_tellSame cX9_tellSame 6 (some .int) (zrm 3 68) σ0 [.ref (zk K 0), .int p1, .int p2, .int p3, .int p4] (zc_I (fun r9 σ9 => σ0 = σ9 ∧ (-1) ≤ r9.toInt ∧ r9.toInt ≤ 999)) := by
  refine zc_start RX9 hi pfX9_tellSame rfl (Nat.le_of_ble_eq_true rfl) ?_
  intro G hG
  have hB := hG.1
  show zc_V 6 K G (zc_D shM K G σ0) [(0, .ref (zk K 0)), (1, .int p1), (2, .int p2), (3, .int p3), (4, .int p4)] 0 []
  refine zr_iload_n hB 3 dX9_tellSame_0 rfl ?_
  refine zr_iload hB 4 dX9_tellSame_1 rfl ?_
  refine zr_iadd hB dX9_tellSame_3 (by omega) (by omega) (fun x1 ex1 => ?_)
  refine zr_iload_n hB 1 dX9_tellSame_4 rfl ?_
  have v3 := And.intro (zn_lo p1) (zn_hi p1)
  refine zr_isub hB dX9_tellSame_5 (by omega) (by omega) (fun x2 ex2 => ?_)
  refine zr_istore hB dX9_tellSame_6 (by decide) (lv' := [(5, .int x2), (0, .ref (zk K 0)), (1, .int p1), (2, .int p2), (3, .int p3), (4, .int p4)]) rfl ?_
  have L8_5 : ∀ (n8 : Nat) (y5_4 : Int32), (-2147483647) ≤ y5_4.toInt → y5_4.toInt ≤ 76 → -2147483648 ≤ y5_4.toInt → y5_4.toInt ≤ 2147483647 → y5_4.toInt + 2147483648 < (n8 : Int) → zc_V 6 K G (zc_D shM K G σ0) [(0, .ref (zk K 0)), (1, .int p1), (2, .int p2), (3, .int p3), (4, .int p4), (5, .int y5_4)] 8 [] := by
    intro n8
    induction n8 with
    | zero => intro y5_4 y5_4a y5_4b fa fb hn8; exfalso; omega
    | succ n8 ih8 =>
      intro y5_4 y5_4a y5_4b fa fb hn8
      refine zr_iload hB 5 dX9_tellSame_8 rfl ?_
      refine zr_if_lt hB dX9_tellSame_10 (tgt := 48) rfl (fun c6 => ?_) (fun c6 => ?_)
      · refine zr_iconst hB dX9_tellSame_48 rfl (fun c7 ec7 => ?_)
        exact zr_iret hG dX9_tellSame_49 ⟨rfl, by omega, by omega⟩
      refine zr_iload hB 5 dX9_tellSame_13 rfl ?_
      refine zr_iload_n hB 3 dX9_tellSame_15 rfl ?_
      refine zr_icmp_gt hB dX9_tellSame_16 (tgt := 39) rfl (fun c8 => ?_) (fun c8 => ?_)
      · refine zr_iload hB 5 dX9_tellSame_39 rfl ?_
        refine zr_iload_n hB 1 dX9_tellSame_41 rfl ?_
        have v10 := And.intro (zn_lo p1) (zn_hi p1)
        refine zr_isub hB dX9_tellSame_42 (by omega) (by omega) (fun x9 ex9 => ?_)
        refine zr_istore hB dX9_tellSame_43 (by decide) (lv' := [(5, .int x9), (0, .ref (zk K 0)), (1, .int p1), (2, .int p2), (3, .int p3), (4, .int p4)]) rfl ?_
        refine zr_goto hB dX9_tellSame_45 (tgt := 8) rfl ?_
        exact zc_sub [1, 2, 3, 4, 5, 0] rfl (ih8 x9 (by omega) (by omega) (show -2147483648 ≤ x9.toInt by exact zn_lo _) (show x9.toInt ≤ 2147483647 by exact zn_hi _) (show x9.toInt + 2147483648 < (n8 : Int) by omega))
      refine zr_aload_n hB 0 dX9_tellSame_19 rfl ?_
      refine zr_iload_n hB 2 dX9_tellSame_20 rfl ?_
      refine zr_iload hB 5 dX9_tellSame_21 rfl ?_
      refine zr_iload_n hB 3 dX9_tellSame_23 rfl ?_
      refine zr_callvi hG (rest := []) 0 dX9_tellSame_24 wm_X9_113 rfl rfl (c_M_knownOn K hG.2.2.2.2.2.1 σ0 p2 y5_4 p3 hO0 (by omega) (by omega) (by omega) (by omega)) rfl rfl (Nat.le_of_ble_eq_true rfl) ⟨Nat.le_of_ble_eq_true rfl, Nat.le_of_ble_eq_true rfl, rfl, rfl⟩ (fun r11 σ12 h13 => ?_)
      obtain ⟨rfl, r11a, r11b, g14⟩ := h13
      refine zr_if_lt hB dX9_tellSame_27 (tgt := 39) rfl (fun c15 => ?_) (fun c15 => ?_)
      · refine zr_iload hB 5 dX9_tellSame_39 rfl ?_
        refine zr_iload_n hB 1 dX9_tellSame_41 rfl ?_
        have v17 := And.intro (zn_lo p1) (zn_hi p1)
        refine zr_isub hB dX9_tellSame_42 (by omega) (by omega) (fun x16 ex16 => ?_)
        refine zr_istore hB dX9_tellSame_43 (by decide) (lv' := [(5, .int x16), (0, .ref (zk K 0)), (1, .int p1), (2, .int p2), (3, .int p3), (4, .int p4)]) rfl ?_
        refine zr_goto hB dX9_tellSame_45 (tgt := 8) rfl ?_
        exact zc_sub [1, 2, 3, 4, 5, 0] rfl (ih8 x16 (by omega) (by omega) (show -2147483648 ≤ x16.toInt by exact zn_lo _) (show x16.toInt ≤ 2147483647 by exact zn_hi _) (show x16.toInt + 2147483648 < (n8 : Int) by omega))
      refine zr_aload_n hB 0 dX9_tellSame_30 rfl ?_
      refine zr_iload_n hB 2 dX9_tellSame_31 rfl ?_
      refine zr_iload hB 5 dX9_tellSame_32 rfl ?_
      refine zr_iload_n hB 3 dX9_tellSame_34 rfl ?_
      refine zr_callvi hG (rest := []) 0 dX9_tellSame_35 wm_X9_113 rfl rfl (c_M_knownOn K hG.2.2.2.2.2.1 σ0 p2 y5_4 p3 hO0 (by omega) (by omega) (by omega) (by omega)) rfl rfl (Nat.le_of_ble_eq_true rfl) ⟨Nat.le_of_ble_eq_true rfl, Nat.le_of_ble_eq_true rfl, rfl, rfl⟩ (fun r18 σ19 h20 => ?_)
      obtain ⟨rfl, r18a, r18b, g21⟩ := h20
      exact zr_iret hG dX9_tellSame_38 ⟨rfl, by omega, by omega⟩
  exact zc_sub [1, 2, 3, 4, 5, 0] rfl (L8_5 4294967298 x2 (by omega) (by omega) (show -2147483648 ≤ x2.toInt by exact zn_lo _) (show x2.toInt ≤ 2147483647 by exact zn_hi _) (show x2.toInt + 2147483648 < ((4294967298 : Nat) : Int) by omega))

set_option maxHeartbeats 1000000 in
set_option maxRecDepth 100000 in
theorem c_M_tellMean (K : zc_K) (hi : zc_inj shM K.2.2.2.1) (σ0 : zc_S) (p1 : Int32) (p2 : Int32) (p3 : Int32) (hO0 : zc_O okM σ0) (h1a : 1 ≤ p1.toInt) (h2a : 0 ≤ p2.toInt) (h2b : p2.toInt ≤ 3) (h3a : 0 ≤ p3.toInt) (h3b : p3.toInt ≤ 63) : zc_M shM K yX9_tellMean cX9_tellMean 8 (some .int) (zrm 3 68) σ0 [.ref (zk K 0), .int p1, .int p2, .int p3] (zc_I (fun r9 σ9 => σ0 = σ9 ∧ (-1) ≤ r9.toInt ∧ r9.toInt ≤ 999)) := by
  refine zc_start RX9 hi pfX9_tellMean rfl (Nat.le_of_ble_eq_true rfl) ?_
  intro G hG
  have hB := hG.1
  show zc_V 8 K G (zc_D shM K G σ0) [(0, .ref (zk K 0)), (1, .int p1), (2, .int p2), (3, .int p3)] 0 []
  refine zr_iconst hB dX9_tellMean_0 rfl (fun c1 ec1 => ?_)
  refine zr_istore hB dX9_tellMean_1 (by decide) (lv' := [(4, .int c1), (0, .ref (zk K 0)), (1, .int p1), (2, .int p2), (3, .int p3)]) rfl ?_
  refine zr_iconst hB dX9_tellMean_3 rfl (fun c2 ec2 => ?_)
  refine zr_istore hB dX9_tellMean_4 (by decide) (lv' := [(5, .int c2), (4, .int c1), (0, .ref (zk K 0)), (1, .int p1), (2, .int p2), (3, .int p3)]) rfl ?_
  refine zr_iload_n hB 5 dX9_tellMean_6 rfl ?_
  refine zr_istore hB dX9_tellMean_7 (by decide) (lv' := [(6, .int p3), (5, .int c2), (4, .int c1), (0, .ref (zk K 0)), (1, .int p1), (2, .int p2), (3, .int p3)]) rfl ?_
  have L9_9 : ∀ (n9 : Nat) (y4_3 : Int32) (y5_4 : Int32) (y6_5 : Int32), 0 ≤ y4_3.toInt → y4_3.toInt ≤ 64 → 0 ≤ y5_4.toInt → y5_4.toInt ≤ 63936 → (-1) ≤ y6_5.toInt → y6_5.toInt ≤ 63 → y5_4.toInt ≤ 999 * y4_3.toInt → y4_3.toInt + y6_5.toInt ≤ p3.toInt → y4_3.toInt ≤ p1.toInt → y6_5.toInt - (-1) < (n9 : Int) → zc_V 8 K G (zc_D shM K G σ0) [(0, .ref (zk K 0)), (1, .int p1), (2, .int p2), (3, .int p3), (4, .int y4_3), (5, .int y5_4), (6, .int y6_5)] 9 [] := by
    intro n9
    induction n9 with
    | zero => intro y4_3 y5_4 y6_5 y4_3a y4_3b y5_4a y5_4b y6_5a y6_5b e6 e7 e8 hn9; exfalso; omega
    | succ n9 ih9 =>
      intro y4_3 y5_4 y6_5 y4_3a y4_3b y5_4a y5_4b y6_5a y6_5b e6 e7 e8 hn9
      refine zr_iload hB 6 dX9_tellMean_9 rfl ?_
      have L51_10 : zc_V 8 K G (zc_D shM K G σ0) [(0, .ref (zk K 0)), (1, .int p1), (2, .int p2), (3, .int p3), (4, .int y4_3), (5, .int y5_4), (6, .int y6_5)] 51 [] := by
        refine zr_iload hB 4 dX9_tellMean_51 rfl ?_
        refine zr_iload_n hB 1 dX9_tellMean_53 rfl ?_
        refine zr_icmp_ge hB dX9_tellMean_54 (tgt := 61) rfl (fun c11 => ?_) (fun c11 => ?_)
        · refine zr_iload hB 5 dX9_tellMean_61 rfl ?_
          refine zr_iload_n hB 1 dX9_tellMean_63 rfl ?_
          refine zr_idiv hB dX9_tellMean_64 (by omega) (by omega) (fun x12 ex12 ex12a ex12b ex12c => ?_)
          have ex12d := ex12c 999 (by omega)
          exact zr_iret hG dX9_tellMean_65 ⟨rfl, by omega, by omega⟩
        refine zr_iconst hB dX9_tellMean_57 rfl (fun c13 ec13 => ?_)
        refine zr_goto hB dX9_tellMean_58 (tgt := 65) rfl ?_
        exact zr_iret hG dX9_tellMean_65 ⟨rfl, by omega, by omega⟩
      refine zr_if_lt hB dX9_tellMean_11 (tgt := 51) rfl (fun c14 => ?_) (fun c14 => ?_)
      · exact L51_10
      refine zr_iload hB 4 dX9_tellMean_14 rfl ?_
      refine zr_iload_n hB 1 dX9_tellMean_16 rfl ?_
      refine zr_icmp_ge hB dX9_tellMean_17 (tgt := 51) rfl (fun c15 => ?_) (fun c15 => ?_)
      · exact L51_10
      refine zr_aload_n hB 0 dX9_tellMean_20 rfl ?_
      refine zr_iload_n hB 2 dX9_tellMean_21 rfl ?_
      refine zr_iload hB 6 dX9_tellMean_22 rfl ?_
      refine zr_iload_n hB 3 dX9_tellMean_24 rfl ?_
      refine zr_callvi hG (rest := []) 0 dX9_tellMean_25 wm_X9_113 rfl rfl (c_M_knownOn K hG.2.2.2.2.2.1 σ0 p2 y6_5 p3 hO0 (by omega) (by omega) (by omega) (by omega)) rfl rfl (Nat.le_of_ble_eq_true rfl) ⟨Nat.le_of_ble_eq_true rfl, Nat.le_of_ble_eq_true rfl, rfl, rfl⟩ (fun r16 σ17 h18 => ?_)
      obtain ⟨rfl, r16a, r16b, g19⟩ := h18
      refine zr_istore hB dX9_tellMean_28 (by decide) (lv' := [(7, .int r16), (0, .ref (zk K 0)), (1, .int p1), (2, .int p2), (3, .int p3), (4, .int y4_3), (5, .int y5_4), (6, .int y6_5)]) rfl ?_
      refine zr_iload hB 0 dX9_tellMean_30 rfl ?_
      refine zr_if_lt hB dX9_tellMean_32 (tgt := 45) rfl (fun c20 => ?_) (fun c20 => ?_)
      · refine zr_iinc hB 7 dX9_tellMean_45 rfl (by decide) rfl (by omega) (by omega) (fun x21 ex21 lv' hlv => ?_)
        obtain rfl : [(6, .int x21), (7, .int r16), (0, .ref (zk K 0)), (1, .int p1), (2, .int p2), (3, .int p3), (4, .int y4_3), (5, .int y5_4)] = lv' := hlv
        refine zr_goto hB dX9_tellMean_48 (tgt := 9) rfl ?_
        exact zc_sub [2, 3, 4, 5, 6, 7, 0] rfl (ih9 y4_3 y5_4 x21 (by omega) (by omega) (by omega) (by omega) (by omega) (by omega) (show y5_4.toInt ≤ 999 * y4_3.toInt by omega) (show y4_3.toInt + x21.toInt ≤ p3.toInt by omega) (show y4_3.toInt ≤ p1.toInt by omega) (by omega))
      refine zr_iinc hB 5 dX9_tellMean_35 rfl (by decide) rfl (by omega) (by omega) (fun x22 ex22 lv' hlv => ?_)
      obtain rfl : [(4, .int x22), (7, .int r16), (0, .ref (zk K 0)), (1, .int p1), (2, .int p2), (3, .int p3), (5, .int y5_4), (6, .int y6_5)] = lv' := hlv
      refine zr_iload hB 6 dX9_tellMean_38 rfl ?_
      refine zr_iload hB 1 dX9_tellMean_40 rfl ?_
      refine zr_iadd hB dX9_tellMean_42 (by omega) (by omega) (fun x23 ex23 => ?_)
      refine zr_istore hB dX9_tellMean_43 (by decide) (lv' := [(5, .int x23), (4, .int x22), (7, .int r16), (0, .ref (zk K 0)), (1, .int p1), (2, .int p2), (3, .int p3), (6, .int y6_5)]) rfl ?_
      refine zr_iinc hB 7 dX9_tellMean_45 rfl (by decide) rfl (by omega) (by omega) (fun x24 ex24 lv' hlv => ?_)
      obtain rfl : [(6, .int x24), (5, .int x23), (4, .int x22), (7, .int r16), (0, .ref (zk K 0)), (1, .int p1), (2, .int p2), (3, .int p3)] = lv' := hlv
      refine zr_goto hB dX9_tellMean_48 (tgt := 9) rfl ?_
      exact zc_sub [4, 5, 6, 7, 2, 1, 0] rfl (ih9 x22 x23 x24 (by omega) (by omega) (by omega) (by omega) (by omega) (by omega) (show x23.toInt ≤ 999 * x22.toInt by omega) (show x22.toInt + x24.toInt ≤ p3.toInt by omega) (show x22.toInt ≤ p1.toInt by omega) (by omega))
  exact zc_sub [3, 4, 5, 6, 2, 1, 0] rfl (L9_9 66 c1 c2 p3 (by omega) (by omega) (by omega) (by omega) (by omega) (by omega) (show c2.toInt ≤ 999 * c1.toInt by omega) (show c1.toInt + p3.toInt ≤ p3.toInt by omega) (show c1.toInt ≤ p1.toInt by omega) (by omega))

set_option maxHeartbeats 1000000 in
set_option maxRecDepth 100000 in
theorem c_M_tellStep (K : zc_K) (hi : zc_inj shM K.2.2.2.1) (σ0 : zc_S) (p1 : Int32) (p2 : Int32) (p3 : Int32) (p4 : Int32) (p5 : Int32) (hO0 : zc_O okM σ0) (h3a : 0 ≤ p3.toInt) (h3b : p3.toInt ≤ 3) (h4a : 0 ≤ p4.toInt) (h4b : p4.toInt ≤ 63) : zc_M shM K yX9_tellStep cX9_tellStep 12 (some .int) (zrm 3 68) σ0 [.ref (zk K 0), .int p1, .int p2, .int p3, .int p4, .int p5] (zc_I (fun r9 σ9 => σ0 = σ9 ∧ (-1) ≤ r9.toInt ∧ r9.toInt ≤ 999)) := by
  refine zc_start RX9 hi pfX9_tellStep rfl (Nat.le_of_ble_eq_true rfl) ?_
  intro G hG
  have hB := hG.1
  show zc_V 12 K G (zc_D shM K G σ0) [(0, .ref (zk K 0)), (1, .int p1), (2, .int p2), (3, .int p3), (4, .int p4), (5, .int p5)] 0 []
  refine zr_iconst hB dX9_tellStep_0 rfl (fun c1 ec1 => ?_)
  refine zr_istore hB dX9_tellStep_1 (by decide) (lv' := [(6, .int c1), (0, .ref (zk K 0)), (1, .int p1), (2, .int p2), (3, .int p3), (4, .int p4), (5, .int p5)]) rfl ?_
  refine zr_iconst hB dX9_tellStep_3 rfl (fun c2 ec2 => ?_)
  refine zr_istore hB dX9_tellStep_4 (by decide) (lv' := [(7, .int c2), (6, .int c1), (0, .ref (zk K 0)), (1, .int p1), (2, .int p2), (3, .int p3), (4, .int p4), (5, .int p5)]) rfl ?_
  refine zr_iconst hB dX9_tellStep_6 rfl (fun c3 ec3 => ?_)
  refine zr_istore hB dX9_tellStep_7 (by decide) (lv' := [(8, .int c3), (7, .int c2), (6, .int c1), (0, .ref (zk K 0)), (1, .int p1), (2, .int p2), (3, .int p3), (4, .int p4), (5, .int p5)]) rfl ?_
  refine zr_iconst hB dX9_tellStep_9 rfl (fun c4 ec4 => ?_)
  refine zr_istore hB dX9_tellStep_10 (by decide) (lv' := [(9, .int c4), (8, .int c3), (7, .int c2), (6, .int c1), (0, .ref (zk K 0)), (1, .int p1), (2, .int p2), (3, .int p3), (4, .int p4), (5, .int p5)]) rfl ?_
  have L12_9 : ∀ (n12 : Nat) (y6_5 : Int32) (y7_6 : Int32) (y8_7 : Int32) (y9_8 : Int32), 0 ≤ y9_8.toInt → y9_8.toInt ≤ 64 → 64 - y9_8.toInt < (n12 : Int) → zc_V 12 K G (zc_D shM K G σ0) [(0, .ref (zk K 0)), (1, .int p1), (2, .int p2), (3, .int p3), (4, .int p4), (5, .int p5), (6, .int y6_5), (7, .int y7_6), (8, .int y8_7), (9, .int y9_8)] 12 [] := by
    intro n12
    induction n12 with
    | zero => intro y6_5 y7_6 y8_7 y9_8 y9_8a y9_8b hn12; have vy6_5 := And.intro (zn_lo y6_5) (zn_hi y6_5); have vy7_6 := And.intro (zn_lo y7_6) (zn_hi y7_6); have vy8_7 := And.intro (zn_lo y8_7) (zn_hi y8_7); exfalso; omega
    | succ n12 ih12 =>
      intro y6_5 y7_6 y8_7 y9_8 y9_8a y9_8b hn12
      have vy6_5 := And.intro (zn_lo y6_5) (zn_hi y6_5)
      have vy7_6 := And.intro (zn_lo y7_6) (zn_hi y7_6)
      have vy8_7 := And.intro (zn_lo y8_7) (zn_hi y8_7)
      refine zr_iload hB 9 dX9_tellStep_12 rfl ?_
      refine zr_iload hB 4 dX9_tellStep_14 rfl ?_
      refine zr_icmp_gt hB dX9_tellStep_16 (tgt := 141) rfl (fun c10 => ?_) (fun c10 => ?_)
      · refine zr_iload hB 7 dX9_tellStep_141 rfl ?_
        refine zr_iload hB 5 dX9_tellStep_143 rfl ?_
        refine zr_iload hB 8 dX9_tellStep_145 rfl ?_
        refine zr_imulw hB dX9_tellStep_147 (fun x11 ex11 => ?_)
        refine zr_iaddw hB dX9_tellStep_148 (fun x12 ex12 => ?_)
        refine zr_bipush hB dX9_tellStep_149 rfl (fun c13 ec13 => ?_)
        refine zr_callsi hG (rest := []) dX9_tellStep_151 wm_X9_187 (c_M_down K hG.2.2.2.2.2.1 σ0 x12 c13 hO0 (by omega) (by omega)) rfl rfl (Nat.le_of_ble_eq_true rfl) ⟨Nat.le_of_ble_eq_true rfl, Nat.le_of_ble_eq_true rfl, rfl, rfl⟩ (fun r14 σ15 h16 => ?_)
        obtain rfl := h16
        refine zr_istore hB dX9_tellStep_154 (by decide) (lv' := [(9, .int r14), (0, .ref (zk K 0)), (1, .int p1), (2, .int p2), (3, .int p3), (4, .int p4), (5, .int p5), (6, .int y6_5), (7, .int y7_6), (8, .int y8_7)]) rfl ?_
        refine zr_iload hB 7 dX9_tellStep_156 rfl ?_
        refine zr_iconst hB dX9_tellStep_158 rfl (fun c17 ec17 => ?_)
        refine zr_icmp_ge hB dX9_tellStep_159 (tgt := 166) rfl (fun c18 => ?_) (fun c18 => ?_)
        · refine zr_iload hB 0 dX9_tellStep_166 rfl ?_
          refine zr_if_ge hB dX9_tellStep_168 (tgt := 175) rfl (fun c19 => ?_) (fun c19 => ?_)
          · refine zr_iload hB 0 dX9_tellStep_175 rfl ?_
            refine zr_sipush hB dX9_tellStep_177 rfl (fun c20 ec20 => ?_)
            refine zr_icmp_le hB dX9_tellStep_180 (tgt := 189) rfl (fun c21 => ?_) (fun c21 => ?_)
            · refine zr_iload hB 0 dX9_tellStep_189 rfl ?_
              exact zr_iret hG dX9_tellStep_191 ⟨rfl, by omega, by omega⟩
            refine zr_sipush hB dX9_tellStep_183 rfl (fun c22 ec22 => ?_)
            refine zr_goto hB dX9_tellStep_186 (tgt := 191) rfl ?_
            exact zr_iret hG dX9_tellStep_191 ⟨rfl, by omega, by omega⟩
          refine zr_iconst hB dX9_tellStep_171 rfl (fun c23 ec23 => ?_)
          refine zr_goto hB dX9_tellStep_172 (tgt := 191) rfl ?_
          exact zr_iret hG dX9_tellStep_191 ⟨rfl, by omega, by omega⟩
        refine zr_iconst hB dX9_tellStep_162 rfl (fun c24 ec24 => ?_)
        refine zr_goto hB dX9_tellStep_163 (tgt := 191) rfl ?_
        exact zr_iret hG dX9_tellStep_191 ⟨rfl, by omega, by omega⟩
      refine zr_aload_n hB 0 dX9_tellStep_19 rfl ?_
      refine zr_iload_n hB 3 dX9_tellStep_20 rfl ?_
      refine zr_iload hB 9 dX9_tellStep_21 rfl ?_
      refine zr_iload hB 4 dX9_tellStep_23 rfl ?_
      refine zr_callvi hG (rest := []) 0 dX9_tellStep_25 wm_X9_113 rfl rfl (c_M_knownOn K hG.2.2.2.2.2.1 σ0 p3 y9_8 p4 hO0 (by omega) (by omega) (by omega) (by omega)) rfl rfl (Nat.le_of_ble_eq_true rfl) ⟨Nat.le_of_ble_eq_true rfl, Nat.le_of_ble_eq_true rfl, rfl, rfl⟩ (fun r25 σ26 h27 => ?_)
      obtain ⟨rfl, r25a, r25b, g28⟩ := h27
      refine zr_istore hB dX9_tellStep_28 (by decide) (lv' := [(10, .int r25), (0, .ref (zk K 0)), (1, .int p1), (2, .int p2), (3, .int p3), (4, .int p4), (5, .int p5), (6, .int y6_5), (7, .int y7_6), (8, .int y8_7), (9, .int y9_8)]) rfl ?_
      refine zr_iload hB 7 dX9_tellStep_30 rfl ?_
      have L120_31 : ∀ (y7_29 : Int32) (y8_30 : Int32), zc_V 12 K G (zc_D shM K G σ0) [(0, .ref (zk K 0)), (1, .int p1), (2, .int p2), (3, .int p3), (4, .int p4), (5, .int p5), (6, .int y6_5), (7, .int y7_29), (8, .int y8_30), (9, .int y9_8), (10, .int r25)] 120 [] := by
        intro y7_29 y8_30
        refine zr_iload hB 6 dX9_tellStep_120 rfl ?_
        refine zr_iload hB 10 dX9_tellStep_122 rfl ?_
        refine zr_if_lt hB dX9_tellStep_124 (tgt := 131) rfl (fun c32 => ?_) (fun c32 => ?_)
        · refine zr_iconst hB dX9_tellStep_131 rfl (fun c33 ec33 => ?_)
          have v35 := And.intro (zn_lo y6_5) (zn_hi y6_5)
          refine zr_iadd hB dX9_tellStep_132 (by omega) (by omega) (fun x34 ex34 => ?_)
          refine zr_istore hB dX9_tellStep_133 (by decide) (lv' := [(6, .int x34), (0, .ref (zk K 0)), (1, .int p1), (2, .int p2), (3, .int p3), (4, .int p4), (5, .int p5), (7, .int y7_29), (8, .int y8_30), (9, .int y9_8), (10, .int r25)]) rfl ?_
          refine zr_iinc hB 9 dX9_tellStep_135 rfl (by decide) rfl (by omega) (by omega) (fun x36 ex36 lv' hlv => ?_)
          obtain rfl : [(9, .int x36), (6, .int x34), (0, .ref (zk K 0)), (1, .int p1), (2, .int p2), (3, .int p3), (4, .int p4), (5, .int p5), (7, .int y7_29), (8, .int y8_30), (10, .int r25)] = lv' := hlv
          refine zr_goto hB dX9_tellStep_138 (tgt := 12) rfl ?_
          exact zc_sub [2, 3, 4, 5, 6, 7, 1, 8, 9, 0] rfl (ih12 x34 y7_29 y8_30 x36 (by omega) (by omega) (by omega))
        refine zr_iconst hB dX9_tellStep_127 rfl (fun c37 ec37 => ?_)
        refine zr_goto hB dX9_tellStep_128 (tgt := 132) rfl ?_
        refine zr_iaddw hB dX9_tellStep_132 (fun x38 ex38 => ?_)
        refine zr_istore hB dX9_tellStep_133 (by decide) (lv' := [(6, .int x38), (0, .ref (zk K 0)), (1, .int p1), (2, .int p2), (3, .int p3), (4, .int p4), (5, .int p5), (7, .int y7_29), (8, .int y8_30), (9, .int y9_8), (10, .int r25)]) rfl ?_
        refine zr_iinc hB 9 dX9_tellStep_135 rfl (by decide) rfl (by omega) (by omega) (fun x39 ex39 lv' hlv => ?_)
        obtain rfl : [(9, .int x39), (6, .int x38), (0, .ref (zk K 0)), (1, .int p1), (2, .int p2), (3, .int p3), (4, .int p4), (5, .int p5), (7, .int y7_29), (8, .int y8_30), (10, .int r25)] = lv' := hlv
        refine zr_goto hB dX9_tellStep_138 (tgt := 12) rfl ?_
        exact zc_sub [2, 3, 4, 5, 6, 7, 1, 8, 9, 0] rfl (ih12 x38 y7_29 y8_30 x39 (by omega) (by omega) (by omega))
      refine zr_if_ne hB dX9_tellStep_32 (tgt := 54) rfl (fun c40 => ?_) (fun c40 => ?_)
      · refine zr_iload hB 0 dX9_tellStep_54 rfl ?_
        refine zr_if_ge hB dX9_tellStep_56 (tgt := 69) rfl (fun c41 => ?_) (fun c41 => ?_)
        · refine zr_bipush hB dX9_tellStep_69 rfl (fun c42 ec42 => ?_)
          refine zr_iload_n hB 2 dX9_tellStep_71 rfl ?_
          refine zr_imulw hB dX9_tellStep_72 (fun x43 ex43 => ?_)
          refine zr_iload hB 0 dX9_tellStep_73 rfl ?_
          refine zr_imulw hB dX9_tellStep_75 (fun x44 ex44 => ?_)
          refine zr_bipush hB dX9_tellStep_76 rfl (fun c45 ec45 => ?_)
          refine zr_iload_n hB 2 dX9_tellStep_78 rfl ?_
          refine zr_isubw hB dX9_tellStep_79 (fun x46 ex46 => ?_)
          refine zr_iload hB 8 dX9_tellStep_80 rfl ?_
          refine zr_iload hB 9 dX9_tellStep_82 rfl ?_
          refine zr_iaddw hB dX9_tellStep_84 (fun x47 ex47 => ?_)
          refine zr_imulw hB dX9_tellStep_85 (fun x48 ex48 => ?_)
          refine zr_iaddw hB dX9_tellStep_86 (fun x49 ex49 => ?_)
          refine zr_bipush hB dX9_tellStep_87 rfl (fun c50 ec50 => ?_)
          refine zr_callsi hG (rest := []) dX9_tellStep_89 wm_X9_187 (c_M_down K hG.2.2.2.2.2.1 σ0 x49 c50 hO0 (by omega) (by omega)) rfl rfl (Nat.le_of_ble_eq_true rfl) ⟨Nat.le_of_ble_eq_true rfl, Nat.le_of_ble_eq_true rfl, rfl, rfl⟩ (fun r51 σ52 h53 => ?_)
          obtain rfl := h53
          refine zr_istore hB dX9_tellStep_92 (by decide) (lv' := [(11, .int r51), (10, .int r25), (0, .ref (zk K 0)), (1, .int p1), (2, .int p2), (3, .int p3), (4, .int p4), (5, .int p5), (6, .int y6_5), (7, .int y7_6), (8, .int y8_7), (9, .int y9_8)]) rfl ?_
          refine zr_iload_n hB 4 dX9_tellStep_94 rfl ?_
          refine zr_iload hB 0 dX9_tellStep_95 rfl ?_
          refine zr_iload hB 9 dX9_tellStep_97 rfl ?_
          refine zr_isubw hB dX9_tellStep_99 (fun x54 ex54 => ?_)
          refine zr_imulw hB dX9_tellStep_100 (fun x55 ex55 => ?_)
          refine zr_bipush hB dX9_tellStep_101 rfl (fun c56 ec56 => ?_)
          refine zr_iload_n hB 4 dX9_tellStep_103 rfl ?_
          refine zr_isubw hB dX9_tellStep_104 (fun x57 ex57 => ?_)
          refine zr_iload hB 10 dX9_tellStep_105 rfl ?_
          refine zr_imulw hB dX9_tellStep_107 (fun x58 ex58 => ?_)
          refine zr_iaddw hB dX9_tellStep_108 (fun x59 ex59 => ?_)
          refine zr_bipush hB dX9_tellStep_109 rfl (fun c60 ec60 => ?_)
          refine zr_callsi hG (rest := []) dX9_tellStep_111 wm_X9_187 (c_M_down K hG.2.2.2.2.2.1 σ0 x59 c60 hO0 (by omega) (by omega)) rfl rfl (Nat.le_of_ble_eq_true rfl) ⟨Nat.le_of_ble_eq_true rfl, Nat.le_of_ble_eq_true rfl, rfl, rfl⟩ (fun r61 σ62 h63 => ?_)
          obtain rfl := h63
          refine zr_istore hB dX9_tellStep_114 (by decide) (lv' := [(8, .int r61), (11, .int r51), (10, .int r25), (0, .ref (zk K 0)), (1, .int p1), (2, .int p2), (3, .int p3), (4, .int p4), (5, .int p5), (6, .int y6_5), (7, .int y7_6), (9, .int y9_8)]) rfl ?_
          refine zr_iload hB 1 dX9_tellStep_116 rfl ?_
          refine zr_istore hB dX9_tellStep_118 (by decide) (lv' := [(7, .int r51), (8, .int r61), (11, .int r51), (10, .int r25), (0, .ref (zk K 0)), (1, .int p1), (2, .int p2), (3, .int p3), (4, .int p4), (5, .int p5), (6, .int y6_5), (9, .int y9_8)]) rfl ?_
          exact zc_sub [4, 5, 6, 7, 8, 9, 10, 0, 1, 11, 3] rfl (L120_31 r51 r61)
        refine zr_iload hB 8 dX9_tellStep_59 rfl ?_
        refine zr_iload hB 9 dX9_tellStep_61 rfl ?_
        refine zr_iaddw hB dX9_tellStep_63 (fun x64 ex64 => ?_)
        refine zr_istore hB dX9_tellStep_64 (by decide) (lv' := [(7, .int x64), (10, .int r25), (0, .ref (zk K 0)), (1, .int p1), (2, .int p2), (3, .int p3), (4, .int p4), (5, .int p5), (6, .int y6_5), (8, .int y8_7), (9, .int y9_8)]) rfl ?_
        refine zr_goto hB dX9_tellStep_66 (tgt := 120) rfl ?_
        exact zc_sub [2, 3, 4, 5, 6, 7, 8, 0, 9, 10, 1] rfl (L120_31 x64 y8_7)
      refine zr_iload hB 0 dX9_tellStep_35 rfl ?_
      refine zr_if_lt hB dX9_tellStep_37 (tgt := 48) rfl (fun c65 => ?_) (fun c65 => ?_)
      · refine zr_iconst hB dX9_tellStep_48 rfl (fun c66 ec66 => ?_)
        refine zr_istore hB dX9_tellStep_49 (by decide) (lv' := [(7, .int c66), (10, .int r25), (0, .ref (zk K 0)), (1, .int p1), (2, .int p2), (3, .int p3), (4, .int p4), (5, .int p5), (6, .int y6_5), (8, .int y8_7), (9, .int y9_8)]) rfl ?_
        refine zr_goto hB dX9_tellStep_51 (tgt := 120) rfl ?_
        exact zc_sub [2, 3, 4, 5, 6, 7, 8, 0, 9, 10, 1] rfl (L120_31 c66 y8_7)
      refine zr_bipush hB dX9_tellStep_40 rfl (fun c67 ec67 => ?_)
      refine zr_iload hB 0 dX9_tellStep_42 rfl ?_
      refine zr_imuld hB dX9_tellStep_44 ec67 (by omega) (by omega) (fun x68 ex68 => ?_)
      refine zr_goto hB dX9_tellStep_45 (tgt := 49) rfl ?_
      refine zr_istore hB dX9_tellStep_49 (by decide) (lv' := [(7, .int x68), (10, .int r25), (0, .ref (zk K 0)), (1, .int p1), (2, .int p2), (3, .int p3), (4, .int p4), (5, .int p5), (6, .int y6_5), (8, .int y8_7), (9, .int y9_8)]) rfl ?_
      refine zr_goto hB dX9_tellStep_51 (tgt := 120) rfl ?_
      exact zc_sub [2, 3, 4, 5, 6, 7, 8, 0, 9, 10, 1] rfl (L120_31 x68 y8_7)
  exact zc_sub [4, 5, 6, 7, 8, 9, 3, 2, 1, 0] rfl (L12_9 66 c1 c2 c3 c4 (by omega) (by omega) (by omega))

set_option maxHeartbeats 1000000 in
set_option maxRecDepth 100000 in
theorem c_M_isFeast (K : zc_K) (hi : zc_inj shM K.2.2.2.1) (σ0 : zc_S) (p1 : Int32) (hO0 : zc_O okM σ0)  : zc_M shM K yX9_isFeast cX9_isFeast 2 (some .boolean) (zrm 2 45) σ0 [.ref (zk K 0), .int p1] (zc_I (fun r9 σ9 => σ0 = σ9 ∧ 0 ≤ r9.toInt ∧ r9.toInt ≤ 1)) := by
  refine zc_start RX9 hi pfX9_isFeast rfl (Nat.le_of_ble_eq_true rfl) ?_
  intro G hG
  have hB := hG.1
  show zc_V 2 K G (zc_D shM K G σ0) [(0, .ref (zk K 0)), (1, .int p1)] 0 []
  refine zr_iload_n hB 1 dX9_isFeast_0 rfl ?_
  refine zr_callsi hG (rest := []) dX9_isFeast_1 wm_X9_97 (c_M_isDay K hG.2.2.2.2.2.1 σ0 p1 hO0 ) rfl rfl (Nat.le_of_ble_eq_true rfl) ⟨Nat.le_of_ble_eq_true rfl, Nat.le_of_ble_eq_true rfl, rfl, rfl⟩ (fun r1 σ2 h3 => ?_)
  obtain ⟨rfl, r1q⟩ := h3
  have r1z := r1q.b
  refine zr_if_eq hB dX9_isFeast_4 (tgt := 20) rfl (fun c4 => ?_) (fun c4 => ?_)
  · have q5 := r1q.f c4
    refine zr_iconst hB dX9_isFeast_20 rfl (fun c6 ec6 => ?_)
    exact zr_zret hG dX9_isFeast_21 (by omega) (by omega) ⟨rfl, by omega, by omega⟩
  have q7 := r1q.t c4
  refine zr_aload_n hB 0 dX9_isFeast_7 rfl ?_
  refine zr_getr hG 0 3 dX9_isFeast_8 rfl wf_X9_13 rfl ?_
  refine zr_iload_n hB 1 dX9_isFeast_11 rfl ?_
  refine zr_zald hG 2 dX9_isFeast_12 rfl (by omega) (by omega) (fun x8 ex8 => ?_)
  have bx8 : 0 ≤ x8.toInt ∧ x8.toInt ≤ 1 := by rw [ex8]; exact ⟨(hO0 2 _).1, (hO0 2 _).2.1⟩
  refine zr_if_eq hB dX9_isFeast_13 (tgt := 20) rfl (fun c9 => ?_) (fun c9 => ?_)
  · refine zr_iconst hB dX9_isFeast_20 rfl (fun c10 ec10 => ?_)
    exact zr_zret hG dX9_isFeast_21 (by omega) (by omega) ⟨rfl, by omega, by omega⟩
  refine zr_iconst hB dX9_isFeast_16 rfl (fun c11 ec11 => ?_)
  refine zr_goto hB dX9_isFeast_17 (tgt := 21) rfl ?_
  exact zr_zret hG dX9_isFeast_21 (by omega) (by omega) ⟨rfl, by omega, by omega⟩

set_option maxHeartbeats 1000000 in
set_option maxRecDepth 100000 in
theorem c_M_tellLike (K : zc_K) (hi : zc_inj shM K.2.2.2.1) (σ0 : zc_S) (p1 : Int32) (p2 : Int32) (p3 : Int32) (p4 : Int32) (hO0 : zc_O okM σ0) (h2a : 0 ≤ p2.toInt) (h2b : p2.toInt ≤ 3) (h3a : 0 ≤ p3.toInt) (h3b : p3.toInt ≤ 63) (h4a : 1 ≤ p4.toInt) (h4b : p4.toInt ≤ 14) : zc_M shM K yX9_tellLike cX9_tellLike 9 (some .int) (zrm 3 68) σ0 [.ref (zk K 0), .int p1, .int p2, .int p3, .int p4] (zc_I (fun r9 σ9 => σ0 = σ9 ∧ (-1) ≤ r9.toInt ∧ r9.toInt ≤ 999)) := by
  refine zc_start RX9 hi pfX9_tellLike rfl (Nat.le_of_ble_eq_true rfl) ?_
  intro G hG
  have hB := hG.1
  show zc_V 9 K G (zc_D shM K G σ0) [(0, .ref (zk K 0)), (1, .int p1), (2, .int p2), (3, .int p3), (4, .int p4)] 0 []
  refine zr_iconst hB dX9_tellLike_0 rfl (fun c1 ec1 => ?_)
  refine zr_istore hB dX9_tellLike_1 (by decide) (lv' := [(5, .int c1), (0, .ref (zk K 0)), (1, .int p1), (2, .int p2), (3, .int p3), (4, .int p4)]) rfl ?_
  refine zr_iconst hB dX9_tellLike_3 rfl (fun c2 ec2 => ?_)
  refine zr_istore hB dX9_tellLike_4 (by decide) (lv' := [(6, .int c2), (5, .int c1), (0, .ref (zk K 0)), (1, .int p1), (2, .int p2), (3, .int p3), (4, .int p4)]) rfl ?_
  refine zr_iload_n hB 5 dX9_tellLike_6 rfl ?_
  refine zr_istore hB dX9_tellLike_7 (by decide) (lv' := [(7, .int p3), (6, .int c2), (5, .int c1), (0, .ref (zk K 0)), (1, .int p1), (2, .int p2), (3, .int p3), (4, .int p4)]) rfl ?_
  have L9_8 : ∀ (n9 : Nat) (y5_3 : Int32) (y6_4 : Int32) (y7_5 : Int32), 0 ≤ y5_3.toInt → y5_3.toInt ≤ 64 → 0 ≤ y6_4.toInt → y6_4.toInt ≤ 63936 → (-1) ≤ y7_5.toInt → y7_5.toInt ≤ 63 → y6_4.toInt ≤ 999 * y5_3.toInt → y5_3.toInt + y7_5.toInt ≤ p3.toInt → y7_5.toInt - (-1) < (n9 : Int) → zc_V 9 K G (zc_D shM K G σ0) [(0, .ref (zk K 0)), (1, .int p1), (2, .int p2), (3, .int p3), (4, .int p4), (5, .int y5_3), (6, .int y6_4), (7, .int y7_5)] 9 [] := by
    intro n9
    induction n9 with
    | zero => intro y5_3 y6_4 y7_5 y5_3a y5_3b y6_4a y6_4b y7_5a y7_5b e6 e7 hn9; exfalso; omega
    | succ n9 ih9 =>
      intro y5_3 y6_4 y7_5 y5_3a y5_3b y6_4a y6_4b y7_5a y7_5b e6 e7 hn9
      refine zr_iload hB 7 dX9_tellLike_9 rfl ?_
      refine zr_if_lt hB dX9_tellLike_11 (tgt := 83) rfl (fun c9 => ?_) (fun c9 => ?_)
      · refine zr_iload hB 5 dX9_tellLike_83 rfl ?_
        refine zr_if_ne hB dX9_tellLike_85 (tgt := 92) rfl (fun c10 => ?_) (fun c10 => ?_)
        · refine zr_iload hB 6 dX9_tellLike_92 rfl ?_
          refine zr_iload hB 5 dX9_tellLike_94 rfl ?_
          refine zr_idiv hB dX9_tellLike_96 (by omega) (by omega) (fun x11 ex11 ex11a ex11b ex11c => ?_)
          have ex11d := ex11c 999 (by omega)
          exact zr_iret hG dX9_tellLike_97 ⟨rfl, by omega, by omega⟩
        refine zr_iconst hB dX9_tellLike_88 rfl (fun c12 ec12 => ?_)
        refine zr_goto hB dX9_tellLike_89 (tgt := 97) rfl ?_
        exact zr_iret hG dX9_tellLike_97 ⟨rfl, by omega, by omega⟩
      refine zr_iload hB 5 dX9_tellLike_14 rfl ?_
      refine zr_iload_n hB 1 dX9_tellLike_16 rfl ?_
      refine zr_icmp_ge hB dX9_tellLike_17 (tgt := 83) rfl (fun c13 => ?_) (fun c13 => ?_)
      · refine zr_iload hB 5 dX9_tellLike_83 rfl ?_
        refine zr_if_ne hB dX9_tellLike_85 (tgt := 92) rfl (fun c14 => ?_) (fun c14 => ?_)
        · refine zr_iload hB 6 dX9_tellLike_92 rfl ?_
          refine zr_iload hB 5 dX9_tellLike_94 rfl ?_
          refine zr_idiv hB dX9_tellLike_96 (by omega) (by omega) (fun x15 ex15 ex15a ex15b ex15c => ?_)
          have ex15d := ex15c 999 (by omega)
          exact zr_iret hG dX9_tellLike_97 ⟨rfl, by omega, by omega⟩
        refine zr_iconst hB dX9_tellLike_88 rfl (fun c16 ec16 => ?_)
        refine zr_goto hB dX9_tellLike_89 (tgt := 97) rfl ?_
        exact zr_iret hG dX9_tellLike_97 ⟨rfl, by omega, by omega⟩
      refine zr_aload_n hB 0 dX9_tellLike_20 rfl ?_
      refine zr_iload_n hB 2 dX9_tellLike_21 rfl ?_
      refine zr_iload hB 7 dX9_tellLike_22 rfl ?_
      refine zr_iload_n hB 3 dX9_tellLike_24 rfl ?_
      refine zr_callvi hG (rest := []) 0 dX9_tellLike_25 wm_X9_113 rfl rfl (c_M_knownOn K hG.2.2.2.2.2.1 σ0 p2 y7_5 p3 hO0 (by omega) (by omega) (by omega) (by omega)) rfl rfl (Nat.le_of_ble_eq_true rfl) ⟨Nat.le_of_ble_eq_true rfl, Nat.le_of_ble_eq_true rfl, rfl, rfl⟩ (fun r17 σ18 h19 => ?_)
      obtain ⟨rfl, r17a, r17b, g20⟩ := h19
      refine zr_istore hB dX9_tellLike_28 (by decide) (lv' := [(8, .int r17), (0, .ref (zk K 0)), (1, .int p1), (2, .int p2), (3, .int p3), (4, .int p4), (5, .int y5_3), (6, .int y6_4), (7, .int y7_5)]) rfl ?_
      refine zr_iload hB 0 dX9_tellLike_30 rfl ?_
      refine zr_if_lt hB dX9_tellLike_32 (tgt := 77) rfl (fun c21 => ?_) (fun c21 => ?_)
      · refine zr_iinc hB 8 dX9_tellLike_77 rfl (by decide) rfl (by omega) (by omega) (fun x22 ex22 lv' hlv => ?_)
        obtain rfl : [(7, .int x22), (8, .int r17), (0, .ref (zk K 0)), (1, .int p1), (2, .int p2), (3, .int p3), (4, .int p4), (5, .int y5_3), (6, .int y6_4)] = lv' := hlv
        refine zr_goto hB dX9_tellLike_80 (tgt := 9) rfl ?_
        exact zc_sub [2, 3, 4, 5, 6, 7, 8, 0] rfl (ih9 y5_3 y6_4 x22 (by omega) (by omega) (by omega) (by omega) (by omega) (by omega) (show y6_4.toInt ≤ 999 * y5_3.toInt by omega) (show y5_3.toInt + x22.toInt ≤ p3.toInt by omega) (by omega))
      refine zr_aload_n hB 1 dX9_tellLike_35 rfl ?_
      refine zr_iload hB 8 dX9_tellLike_36 rfl ?_
      refine zr_callvi hG (rest := []) 0 dX9_tellLike_38 wm_X9_190 rfl rfl (c_M_isFeast K hG.2.2.2.2.2.1 σ0 y7_5 hO0 ) rfl rfl (Nat.le_of_ble_eq_true rfl) ⟨Nat.le_of_ble_eq_true rfl, Nat.le_of_ble_eq_true rfl, rfl, rfl⟩ (fun r23 σ24 h25 => ?_)
      obtain ⟨rfl, r23a, r23b⟩ := h25
      refine zr_aload_n hB 1 dX9_tellLike_41 rfl ?_
      refine zr_iload_n hB 4 dX9_tellLike_42 rfl ?_
      refine zr_iload hB 5 dX9_tellLike_43 rfl ?_
      refine zr_iadd hB dX9_tellLike_45 (by omega) (by omega) (fun x26 ex26 => ?_)
      refine zr_callvi hG (rest := [.int r23]) 0 dX9_tellLike_46 wm_X9_190 rfl rfl (c_M_isFeast K hG.2.2.2.2.2.1 σ0 x26 hO0 ) rfl rfl (Nat.le_of_ble_eq_true rfl) ⟨Nat.le_of_ble_eq_true rfl, Nat.le_of_ble_eq_true rfl, rfl, rfl⟩ (fun r27 σ28 h29 => ?_)
      obtain ⟨rfl, r27a, r27b⟩ := h29
      refine zr_icmp_ne hB dX9_tellLike_49 (tgt := 77) rfl (fun c30 => ?_) (fun c30 => ?_)
      · refine zr_iinc hB 8 dX9_tellLike_77 rfl (by decide) rfl (by omega) (by omega) (fun x31 ex31 lv' hlv => ?_)
        obtain rfl : [(7, .int x31), (8, .int r17), (0, .ref (zk K 0)), (1, .int p1), (2, .int p2), (3, .int p3), (4, .int p4), (5, .int y5_3), (6, .int y6_4)] = lv' := hlv
        refine zr_goto hB dX9_tellLike_80 (tgt := 9) rfl ?_
        exact zc_sub [2, 3, 4, 5, 6, 7, 8, 0] rfl (ih9 y5_3 y6_4 x31 (by omega) (by omega) (by omega) (by omega) (by omega) (by omega) (show y6_4.toInt ≤ 999 * y5_3.toInt by omega) (show y5_3.toInt + x31.toInt ≤ p3.toInt by omega) (by omega))
      refine zr_iload hB 8 dX9_tellLike_52 rfl ?_
      refine zr_bipush hB dX9_tellLike_54 rfl (fun c32 ec32 => ?_)
      refine zr_iremc hB dX9_tellLike_56 ec32 (by omega) (by decide) (fun x33 ex33 => ?_)
      refine zr_iload_n hB 4 dX9_tellLike_57 rfl ?_
      refine zr_iload hB 5 dX9_tellLike_58 rfl ?_
      refine zr_iadd hB dX9_tellLike_60 (by omega) (by omega) (fun x34 ex34 => ?_)
      refine zr_bipush hB dX9_tellLike_61 rfl (fun c35 ec35 => ?_)
      refine zr_iremc hB dX9_tellLike_63 ec35 (by omega) (by decide) (fun x36 ex36 => ?_)
      refine zr_icmp_ne hB dX9_tellLike_64 (tgt := 77) rfl (fun c37 => ?_) (fun c37 => ?_)
      · refine zr_iinc hB 8 dX9_tellLike_77 rfl (by decide) rfl (by omega) (by omega) (fun x38 ex38 lv' hlv => ?_)
        obtain rfl : [(7, .int x38), (8, .int r17), (0, .ref (zk K 0)), (1, .int p1), (2, .int p2), (3, .int p3), (4, .int p4), (5, .int y5_3), (6, .int y6_4)] = lv' := hlv
        refine zr_goto hB dX9_tellLike_80 (tgt := 9) rfl ?_
        exact zc_sub [2, 3, 4, 5, 6, 7, 8, 0] rfl (ih9 y5_3 y6_4 x38 (by omega) (by omega) (by omega) (by omega) (by omega) (by omega) (show y6_4.toInt ≤ 999 * y5_3.toInt by omega) (show y5_3.toInt + x38.toInt ≤ p3.toInt by omega) (by omega))
      refine zr_iinc hB 6 dX9_tellLike_67 rfl (by decide) rfl (by omega) (by omega) (fun x39 ex39 lv' hlv => ?_)
      obtain rfl : [(5, .int x39), (8, .int r17), (0, .ref (zk K 0)), (1, .int p1), (2, .int p2), (3, .int p3), (4, .int p4), (6, .int y6_4), (7, .int y7_5)] = lv' := hlv
      refine zr_iload hB 7 dX9_tellLike_70 rfl ?_
      refine zr_iload hB 1 dX9_tellLike_72 rfl ?_
      refine zr_iadd hB dX9_tellLike_74 (by omega) (by omega) (fun x40 ex40 => ?_)
      refine zr_istore hB dX9_tellLike_75 (by decide) (lv' := [(6, .int x40), (5, .int x39), (8, .int r17), (0, .ref (zk K 0)), (1, .int p1), (2, .int p2), (3, .int p3), (4, .int p4), (7, .int y7_5)]) rfl ?_
      refine zr_iinc hB 8 dX9_tellLike_77 rfl (by decide) rfl (by omega) (by omega) (fun x41 ex41 lv' hlv => ?_)
      obtain rfl : [(7, .int x41), (6, .int x40), (5, .int x39), (8, .int r17), (0, .ref (zk K 0)), (1, .int p1), (2, .int p2), (3, .int p3), (4, .int p4)] = lv' := hlv
      refine zr_goto hB dX9_tellLike_80 (tgt := 9) rfl ?_
      exact zc_sub [4, 5, 6, 7, 8, 2, 1, 0] rfl (ih9 x39 x40 x41 (by omega) (by omega) (by omega) (by omega) (by omega) (by omega) (show x40.toInt ≤ 999 * x39.toInt by omega) (show x39.toInt + x41.toInt ≤ p3.toInt by omega) (by omega))
  exact zc_sub [3, 4, 5, 6, 7, 2, 1, 0] rfl (L9_8 66 c1 c2 p3 (by omega) (by omega) (by omega) (by omega) (by omega) (by omega) (show c2.toInt ≤ 999 * c1.toInt by omega) (show c1.toInt + p3.toInt ≤ p3.toInt by omega) (by omega))

set_option maxHeartbeats 1000000 in
set_option maxRecDepth 100000 in
theorem c_M_tellPlain (K : zc_K) (hi : zc_inj shM K.2.2.2.1) (σ0 : zc_S) (p1 : Int32) (p2 : Int32) (p3 : Int32) (p4 : Int32) (p5 : Int32) (p6 : Int32) (hO0 : zc_O okM σ0) (h1a : 0 ≤ p1.toInt) (h1b : p1.toInt ≤ 4) (h4a : 0 ≤ p4.toInt) (h4b : p4.toInt ≤ 3) (h5a : 0 ≤ p5.toInt) (h5b : p5.toInt ≤ 63) (h6a : 1 ≤ p6.toInt) (h6b : p6.toInt ≤ 14) (hx0 : (p1.toInt = 2 ∨ 1 ≤ p2.toInt)) : zc_M shM K yX9_tellPlain cX9_tellPlain 7 (some .int) (zrm 4 99) σ0 [.ref (zk K 0), .int p1, .int p2, .int p3, .int p4, .int p5, .int p6] (zc_I (fun r9 σ9 => σ0 = σ9 ∧ (-1) ≤ r9.toInt ∧ r9.toInt ≤ 999)) := by
  refine zc_start RX9 hi pfX9_tellPlain rfl (Nat.le_of_ble_eq_true rfl) ?_
  intro G hG
  have hB := hG.1
  show zc_V 7 K G (zc_D shM K G σ0) [(0, .ref (zk K 0)), (1, .int p1), (2, .int p2), (3, .int p3), (4, .int p4), (5, .int p5), (6, .int p6)] 0 []
  refine zr_iload_n hB 1 dX9_tellPlain_0 rfl ?_
  refine zr_if_ne hB dX9_tellPlain_1 (tgt := 18) rfl (fun c1 => ?_) (fun c1 => ?_)
  · refine zr_iload_n hB 1 dX9_tellPlain_18 rfl ?_
    refine zr_iconst hB dX9_tellPlain_19 rfl (fun c2 ec2 => ?_)
    refine zr_icmp_ne hB dX9_tellPlain_20 (tgt := 35) rfl (fun c3 => ?_) (fun c3 => ?_)
    · refine zr_iload_n hB 1 dX9_tellPlain_35 rfl ?_
      refine zr_iconst hB dX9_tellPlain_36 rfl (fun c4 ec4 => ?_)
      refine zr_icmp_ne hB dX9_tellPlain_37 (tgt := 55) rfl (fun c5 => ?_) (fun c5 => ?_)
      · refine zr_aload_n hB 0 dX9_tellPlain_55 rfl ?_
        refine zr_iload_n hB 2 dX9_tellPlain_56 rfl ?_
        refine zr_iload hB 4 dX9_tellPlain_57 rfl ?_
        refine zr_iload hB 5 dX9_tellPlain_59 rfl ?_
        refine zr_iload hB 6 dX9_tellPlain_61 rfl ?_
        refine zr_callvi hG (rest := []) 0 dX9_tellPlain_63 wm_X9_204 rfl rfl (c_M_tellLike K hG.2.2.2.2.2.1 σ0 p2 p4 p5 p6 hO0 (by omega) (by omega) (by omega) (by omega) (by omega) (by omega)) rfl rfl (Nat.le_of_ble_eq_true rfl) ⟨Nat.le_of_ble_eq_true rfl, Nat.le_of_ble_eq_true rfl, rfl, rfl⟩ (fun r6 σ7 h8 => ?_)
        obtain ⟨rfl, r6a, r6b⟩ := h8
        exact zr_iret hG dX9_tellPlain_66 ⟨rfl, by omega, by omega⟩
      refine zr_aload_n hB 0 dX9_tellPlain_40 rfl ?_
      refine zr_iload_n hB 2 dX9_tellPlain_41 rfl ?_
      refine zr_iload_n hB 3 dX9_tellPlain_42 rfl ?_
      refine zr_iload hB 4 dX9_tellPlain_43 rfl ?_
      refine zr_iload hB 5 dX9_tellPlain_45 rfl ?_
      refine zr_iload hB 6 dX9_tellPlain_47 rfl ?_
      refine zr_callvi hG (rest := []) 0 dX9_tellPlain_49 wm_X9_200 rfl rfl (c_M_tellStep K hG.2.2.2.2.2.1 σ0 p2 p3 p4 p5 p6 hO0 (by omega) (by omega) (by omega) (by omega)) rfl rfl (Nat.le_of_ble_eq_true rfl) ⟨Nat.le_of_ble_eq_true rfl, Nat.le_of_ble_eq_true rfl, rfl, rfl⟩ (fun r9 σ10 h11 => ?_)
      obtain ⟨rfl, r9a, r9b⟩ := h11
      refine zr_goto hB dX9_tellPlain_52 (tgt := 66) rfl ?_
      exact zr_iret hG dX9_tellPlain_66 ⟨rfl, by omega, by omega⟩
    refine zr_aload_n hB 0 dX9_tellPlain_23 rfl ?_
    refine zr_iload_n hB 2 dX9_tellPlain_24 rfl ?_
    refine zr_iload hB 4 dX9_tellPlain_25 rfl ?_
    refine zr_iload hB 5 dX9_tellPlain_27 rfl ?_
    refine zr_callvi hG (rest := []) 0 dX9_tellPlain_29 wm_X9_197 rfl rfl (c_M_tellMean K hG.2.2.2.2.2.1 σ0 p2 p4 p5 hO0 (by omega) (by omega) (by omega) (by omega) (by omega)) rfl rfl (Nat.le_of_ble_eq_true rfl) ⟨Nat.le_of_ble_eq_true rfl, Nat.le_of_ble_eq_true rfl, rfl, rfl⟩ (fun r12 σ13 h14 => ?_)
    obtain ⟨rfl, r12a, r12b⟩ := h14
    refine zr_goto hB dX9_tellPlain_32 (tgt := 66) rfl ?_
    exact zr_iret hG dX9_tellPlain_66 ⟨rfl, by omega, by omega⟩
  refine zr_aload_n hB 0 dX9_tellPlain_4 rfl ?_
  refine zr_iload_n hB 2 dX9_tellPlain_5 rfl ?_
  refine zr_iload hB 4 dX9_tellPlain_6 rfl ?_
  refine zr_iload hB 5 dX9_tellPlain_8 rfl ?_
  refine zr_iload hB 6 dX9_tellPlain_10 rfl ?_
  refine zr_callvi hG (rest := []) 0 dX9_tellPlain_12 wm_X9_193 rfl rfl (c_M_tellSame K hG.2.2.2.2.2.1 σ0 p2 p4 p5 p6 hO0 (by omega) (by omega) (by omega) (by omega) (by omega) (by omega) (by omega)) rfl rfl (Nat.le_of_ble_eq_true rfl) ⟨Nat.le_of_ble_eq_true rfl, Nat.le_of_ble_eq_true rfl, rfl, rfl⟩ (fun r15 σ16 h17 => ?_)
  obtain ⟨rfl, r15a, r15b⟩ := h17
  refine zr_goto hB dX9_tellPlain_15 (tgt := 66) rfl ?_
  exact zr_iret hG dX9_tellPlain_66 ⟨rfl, by omega, by omega⟩

set_option maxHeartbeats 1000000 in
set_option maxRecDepth 100000 in
theorem c_M_weightOf (K : zc_K) (hi : zc_inj shM K.2.2.2.1) (σ0 : zc_S) (p1 : Int32) (p2 : Int32) (p3 : Int32) (p4 : Int32) (p5 : Int32) (hO0 : zc_O okM σ0) (h1a : 0 ≤ p1.toInt) (h1b : p1.toInt ≤ 5) (h3a : 0 ≤ p3.toInt) (h3b : p3.toInt ≤ 3) (h4a : 0 ≤ p4.toInt) (h4b : p4.toInt ≤ 63) (h5a : 1 ≤ p5.toInt) (h5b : p5.toInt ≤ 14) (hx0 : p1.toInt < (σ0.1 0 17).toInt) (hT : zm_T σ0) : zc_M shM K yX9_weightOf cX9_weightOf 11 (some .int) (zrm 5 125) σ0 [.ref (zk K 0), .int p1, .int p2, .int p3, .int p4, .int p5] (zc_I (fun r9 σ9 => σ0 = σ9 ∧ 0 ≤ r9.toInt ∧ r9.toInt ≤ 1000)) := by
  refine zc_start RX9 hi pfX9_weightOf rfl (Nat.le_of_ble_eq_true rfl) ?_
  intro G hG
  have hB := hG.1
  show zc_V 11 K G (zc_D shM K G σ0) [(0, .ref (zk K 0)), (1, .int p1), (2, .int p2), (3, .int p3), (4, .int p4), (5, .int p5)] 0 []
  have bw0_17 : 0 ≤ (σ0.1 0 17).toInt ∧ (σ0.1 0 17).toInt ≤ 6 := ⟨(hO0 0 17).1, (hO0 0 17).2.1⟩
  refine zr_iconst hB dX9_weightOf_0 rfl (fun c1 ec1 => ?_)
  refine zr_istore hB dX9_weightOf_1 (by decide) (lv' := [(6, .int c1), (0, .ref (zk K 0)), (1, .int p1), (2, .int p2), (3, .int p3), (4, .int p4), (5, .int p5)]) rfl ?_
  refine zr_iconst hB dX9_weightOf_3 rfl (fun c2 ec2 => ?_)
  refine zr_istore hB dX9_weightOf_4 (by decide) (lv' := [(7, .int c2), (6, .int c1), (0, .ref (zk K 0)), (1, .int p1), (2, .int p2), (3, .int p3), (4, .int p4), (5, .int p5)]) rfl ?_
  refine zr_iload hB 6 dX9_weightOf_6 rfl ?_
  refine zr_istore hB dX9_weightOf_8 (by decide) (lv' := [(8, .int p4), (7, .int c2), (6, .int c1), (0, .ref (zk K 0)), (1, .int p1), (2, .int p2), (3, .int p3), (4, .int p4), (5, .int p5)]) rfl ?_
  have L10_8 : ∀ (n10 : Nat) (y6_3 : Int32) (y7_4 : Int32) (y8_5 : Int32), 0 ≤ y6_3.toInt → y6_3.toInt ≤ 64 → 0 ≤ y7_4.toInt → y7_4.toInt ≤ 63936 → 0 ≤ y8_5.toInt → y8_5.toInt ≤ 63 → y7_4.toInt ≤ 999 * y6_3.toInt → y6_3.toInt + y8_5.toInt ≤ p4.toInt → y8_5.toInt - 0 < (n10 : Int) → zc_V 11 K G (zc_D shM K G σ0) [(0, .ref (zk K 0)), (1, .int p1), (2, .int p2), (3, .int p3), (4, .int p4), (5, .int p5), (6, .int y6_3), (7, .int y7_4), (8, .int y8_5)] 10 [] := by
    intro n10
    induction n10 with
    | zero => intro y6_3 y7_4 y8_5 y6_3a y6_3b y7_4a y7_4b y8_5a y8_5b e6 e7 hn10; exfalso; omega
    | succ n10 ih10 =>
      intro y6_3 y7_4 y8_5 y6_3a y6_3b y7_4a y7_4b y8_5a y8_5b e6 e7 hn10
      refine zr_iload hB 8 dX9_weightOf_10 rfl ?_
      refine zr_iload hB 5 dX9_weightOf_12 rfl ?_
      have L114_9 : zc_V 11 K G (zc_D shM K G σ0) [(0, .ref (zk K 0)), (1, .int p1), (2, .int p2), (3, .int p3), (4, .int p4), (5, .int p5), (6, .int y6_3), (7, .int y7_4), (8, .int y8_5)] 114 [] := by
        refine zr_sipush hB dX9_weightOf_114 rfl (fun c10 ec10 => ?_)
        refine zr_iconst hB dX9_weightOf_117 rfl (fun c11 ec11 => ?_)
        refine zr_iload hB 6 dX9_weightOf_118 rfl ?_
        refine zr_if_ne hB dX9_weightOf_120 (tgt := 129) rfl (fun c12 => ?_) (fun c12 => ?_)
        · refine zr_iload hB 7 dX9_weightOf_129 rfl ?_
          refine zr_iload hB 6 dX9_weightOf_131 rfl ?_
          refine zr_idiv hB dX9_weightOf_133 (by omega) (by omega) (fun x13 ex13 ex13a ex13b ex13c => ?_)
          refine zr_iadd hB dX9_weightOf_134 (by omega) (by omega) (fun x14 ex14 => ?_)
          refine zr_idiv hB dX9_weightOf_135 (by omega) (by omega) (fun x15 ex15 ex15a ex15b ex15c => ?_)
          exact zr_iret hG dX9_weightOf_136 ⟨rfl, by omega, by omega⟩
        refine zr_sipush hB dX9_weightOf_123 rfl (fun c16 ec16 => ?_)
        refine zr_goto hB dX9_weightOf_126 (tgt := 134) rfl ?_
        refine zr_iadd hB dX9_weightOf_134 (by omega) (by omega) (fun x17 ex17 => ?_)
        refine zr_idiv hB dX9_weightOf_135 (by omega) (by omega) (fun x18 ex18 ex18a ex18b ex18c => ?_)
        exact zr_iret hG dX9_weightOf_136 ⟨rfl, by omega, by omega⟩
      refine zr_icmp_lt hB dX9_weightOf_14 (tgt := 114) rfl (fun c19 => ?_) (fun c19 => ?_)
      · exact L114_9
      refine zr_iload hB 6 dX9_weightOf_17 rfl ?_
      refine zr_iload_n hB 2 dX9_weightOf_19 rfl ?_
      refine zr_icmp_ge hB dX9_weightOf_20 (tgt := 114) rfl (fun c20 => ?_) (fun c20 => ?_)
      · exact L114_9
      refine zr_aload_n hB 0 dX9_weightOf_23 rfl ?_
      refine zr_iload_n hB 3 dX9_weightOf_24 rfl ?_
      refine zr_iload hB 8 dX9_weightOf_25 rfl ?_
      refine zr_iload hB 4 dX9_weightOf_27 rfl ?_
      refine zr_callvi hG (rest := []) 0 dX9_weightOf_29 wm_X9_113 rfl rfl (c_M_knownOn K hG.2.2.2.2.2.1 σ0 p3 y8_5 p4 hO0 (by omega) (by omega) (by omega) (by omega)) rfl rfl (Nat.le_of_ble_eq_true rfl) ⟨Nat.le_of_ble_eq_true rfl, Nat.le_of_ble_eq_true rfl, rfl, rfl⟩ (fun r21 σ22 h23 => ?_)
      obtain ⟨rfl, r21a, r21b, g24⟩ := h23
      refine zr_istore hB dX9_weightOf_32 (by decide) (lv' := [(9, .int r21), (0, .ref (zk K 0)), (1, .int p1), (2, .int p2), (3, .int p3), (4, .int p4), (5, .int p5), (6, .int y6_3), (7, .int y7_4), (8, .int y8_5)]) rfl ?_
      refine zr_iload hB 0 dX9_weightOf_34 rfl ?_
      refine zr_if_ge hB dX9_weightOf_36 (tgt := 43) rfl (fun c25 => ?_) (fun c25 => ?_)
      · refine zr_aload_n hB 1 dX9_weightOf_43 rfl ?_
        refine zr_aload_n hB 1 dX9_weightOf_44 rfl ?_
        refine zr_getr hG 0 18 dX9_weightOf_45 rfl wf_X9_32 rfl ?_
        refine zr_iload_n hB 2 dX9_weightOf_48 rfl ?_
        refine zr_iald hG 8 dX9_weightOf_49 rfl (by omega) (by omega) (fun x26 ex26 => ?_)
        have bx26 : 0 ≤ x26.toInt ∧ x26.toInt ≤ 4 := by rw [ex26]; exact ⟨(hO0 8 _).1, (hO0 8 _).2.1⟩
        refine zr_aload_n hB 1 dX9_weightOf_50 rfl ?_
        refine zr_getr hG 0 19 dX9_weightOf_51 rfl wf_X9_35 rfl ?_
        refine zr_iload_n hB 2 dX9_weightOf_54 rfl ?_
        refine zr_iald hG 9 dX9_weightOf_55 rfl (by omega) (by omega) (fun x27 ex27 => ?_)
        have t28 := hT p1.toInt (by omega) (by omega)
        rw [← ex26, ← ex27] at t28
        refine zr_aload_n hB 1 dX9_weightOf_56 rfl ?_
        refine zr_getr hG 0 20 dX9_weightOf_57 rfl wf_X9_38 rfl ?_
        refine zr_iload_n hB 2 dX9_weightOf_60 rfl ?_
        refine zr_iald hG 10 dX9_weightOf_61 rfl (by omega) (by omega) (fun x29 ex29 => ?_)
        refine zr_iload_n hB 4 dX9_weightOf_62 rfl ?_
        refine zr_iload hB 9 dX9_weightOf_63 rfl ?_
        refine zr_iload hB 6 dX9_weightOf_65 rfl ?_
        refine zr_isub hB dX9_weightOf_67 (by omega) (by omega) (fun x30 ex30 => ?_)
        refine zr_iload hB 6 dX9_weightOf_68 rfl ?_
        refine zr_callvi hG (rest := []) 0 dX9_weightOf_70 wm_X9_207 rfl rfl (c_M_tellPlain K hG.2.2.2.2.2.1 σ0 x26 x27 x29 p3 x30 p5 hO0 (by omega) (by omega) (by omega) (by omega) (by omega) (by omega) (by omega) (by omega) (by omega)) rfl rfl (Nat.le_of_ble_eq_true rfl) ⟨Nat.le_of_ble_eq_true rfl, Nat.le_of_ble_eq_true rfl, rfl, rfl⟩ (fun r31 σ32 h33 => ?_)
        obtain ⟨rfl, r31a, r31b⟩ := h33
        refine zr_istore hB dX9_weightOf_73 (by decide) (lv' := [(10, .int r31), (9, .int r21), (0, .ref (zk K 0)), (1, .int p1), (2, .int p2), (3, .int p3), (4, .int p4), (5, .int p5), (6, .int y6_3), (7, .int y7_4), (8, .int y8_5)]) rfl ?_
        refine zr_iload hB 0 dX9_weightOf_75 rfl ?_
        refine zr_if_lt hB dX9_weightOf_77 (tgt := 108) rfl (fun c34 => ?_) (fun c34 => ?_)
        · refine zr_iinc hB 10 dX9_weightOf_108 rfl (by decide) rfl (by omega) (by omega) (fun x35 ex35 lv' hlv => ?_)
          obtain rfl : [(8, .int x35), (10, .int r31), (9, .int r21), (0, .ref (zk K 0)), (1, .int p1), (2, .int p2), (3, .int p3), (4, .int p4), (5, .int p5), (6, .int y6_3), (7, .int y7_4)] = lv' := hlv
          refine zr_goto hB dX9_weightOf_111 (tgt := 10) rfl ?_
          exact zc_sub [3, 4, 5, 6, 7, 8, 9, 10, 0] rfl (ih10 y6_3 y7_4 x35 (by omega) (by omega) (by omega) (by omega) (by omega) (by omega) (show y7_4.toInt ≤ 999 * y6_3.toInt by omega) (show y6_3.toInt + x35.toInt ≤ p4.toInt by omega) (by omega))
        refine zr_iinc hB 8 dX9_weightOf_80 rfl (by decide) rfl (by omega) (by omega) (fun x36 ex36 lv' hlv => ?_)
        obtain rfl : [(6, .int x36), (10, .int r31), (9, .int r21), (0, .ref (zk K 0)), (1, .int p1), (2, .int p2), (3, .int p3), (4, .int p4), (5, .int p5), (7, .int y7_4), (8, .int y8_5)] = lv' := hlv
        refine zr_iload hB 9 dX9_weightOf_83 rfl ?_
        refine zr_iload hB 2 dX9_weightOf_85 rfl ?_
        refine zr_iload hB 1 dX9_weightOf_87 rfl ?_
        refine zr_icmp_ge hB dX9_weightOf_89 (tgt := 100) rfl (fun c37 => ?_) (fun c37 => ?_)
        · refine zr_iload hB 2 dX9_weightOf_100 rfl ?_
          refine zr_iload hB 1 dX9_weightOf_102 rfl ?_
          refine zr_isub hB dX9_weightOf_104 (by omega) (by omega) (fun x38 ex38 => ?_)
          refine zr_iadd hB dX9_weightOf_105 (by omega) (by omega) (fun x39 ex39 => ?_)
          refine zr_istore hB dX9_weightOf_106 (by decide) (lv' := [(7, .int x39), (6, .int x36), (10, .int r31), (9, .int r21), (0, .ref (zk K 0)), (1, .int p1), (2, .int p2), (3, .int p3), (4, .int p4), (5, .int p5), (8, .int y8_5)]) rfl ?_
          refine zr_iinc hB 10 dX9_weightOf_108 rfl (by decide) rfl (by omega) (by omega) (fun x40 ex40 lv' hlv => ?_)
          obtain rfl : [(8, .int x40), (7, .int x39), (6, .int x36), (10, .int r31), (9, .int r21), (0, .ref (zk K 0)), (1, .int p1), (2, .int p2), (3, .int p3), (4, .int p4), (5, .int p5)] = lv' := hlv
          refine zr_goto hB dX9_weightOf_111 (tgt := 10) rfl ?_
          exact zc_sub [5, 6, 7, 8, 9, 10, 2, 1, 0] rfl (ih10 x36 x39 x40 (by omega) (by omega) (by omega) (by omega) (by omega) (by omega) (show x39.toInt ≤ 999 * x36.toInt by omega) (show x36.toInt + x40.toInt ≤ p4.toInt by omega) (by omega))
        refine zr_iload hB 1 dX9_weightOf_92 rfl ?_
        refine zr_iload hB 2 dX9_weightOf_94 rfl ?_
        refine zr_isub hB dX9_weightOf_96 (by omega) (by omega) (fun x41 ex41 => ?_)
        refine zr_goto hB dX9_weightOf_97 (tgt := 105) rfl ?_
        refine zr_iadd hB dX9_weightOf_105 (by omega) (by omega) (fun x42 ex42 => ?_)
        refine zr_istore hB dX9_weightOf_106 (by decide) (lv' := [(7, .int x42), (6, .int x36), (10, .int r31), (9, .int r21), (0, .ref (zk K 0)), (1, .int p1), (2, .int p2), (3, .int p3), (4, .int p4), (5, .int p5), (8, .int y8_5)]) rfl ?_
        refine zr_iinc hB 10 dX9_weightOf_108 rfl (by decide) rfl (by omega) (by omega) (fun x43 ex43 lv' hlv => ?_)
        obtain rfl : [(8, .int x43), (7, .int x42), (6, .int x36), (10, .int r31), (9, .int r21), (0, .ref (zk K 0)), (1, .int p1), (2, .int p2), (3, .int p3), (4, .int p4), (5, .int p5)] = lv' := hlv
        refine zr_goto hB dX9_weightOf_111 (tgt := 10) rfl ?_
        exact zc_sub [5, 6, 7, 8, 9, 10, 2, 1, 0] rfl (ih10 x36 x42 x43 (by omega) (by omega) (by omega) (by omega) (by omega) (by omega) (show x42.toInt ≤ 999 * x36.toInt by omega) (show x36.toInt + x43.toInt ≤ p4.toInt by omega) (by omega))
      refine zr_iconst hB dX9_weightOf_39 rfl (fun c44 ec44 => ?_)
      refine zr_goto hB dX9_weightOf_40 (tgt := 73) rfl ?_
      refine zr_istore hB dX9_weightOf_73 (by decide) (lv' := [(10, .int c44), (9, .int r21), (0, .ref (zk K 0)), (1, .int p1), (2, .int p2), (3, .int p3), (4, .int p4), (5, .int p5), (6, .int y6_3), (7, .int y7_4), (8, .int y8_5)]) rfl ?_
      refine zr_iload hB 0 dX9_weightOf_75 rfl ?_
      refine zr_if_lt hB dX9_weightOf_77 (tgt := 108) rfl (fun c45 => ?_) (fun c45 => ?_)
      · refine zr_iinc hB 10 dX9_weightOf_108 rfl (by decide) rfl (by omega) (by omega) (fun x46 ex46 lv' hlv => ?_)
        obtain rfl : [(8, .int x46), (10, .int c44), (9, .int r21), (0, .ref (zk K 0)), (1, .int p1), (2, .int p2), (3, .int p3), (4, .int p4), (5, .int p5), (6, .int y6_3), (7, .int y7_4)] = lv' := hlv
        refine zr_goto hB dX9_weightOf_111 (tgt := 10) rfl ?_
        exact zc_sub [3, 4, 5, 6, 7, 8, 9, 10, 0] rfl (ih10 y6_3 y7_4 x46 (by omega) (by omega) (by omega) (by omega) (by omega) (by omega) (show y7_4.toInt ≤ 999 * y6_3.toInt by omega) (show y6_3.toInt + x46.toInt ≤ p4.toInt by omega) (by omega))
      exfalso; omega
  exact zc_sub [3, 4, 5, 6, 7, 8, 2, 1, 0] rfl (L10_8 65 c1 c2 p4 (by omega) (by omega) (by omega) (by omega) (by omega) (by omega) (show c2.toInt ≤ 999 * c1.toInt by omega) (show c1.toInt + p4.toInt ≤ p4.toInt by omega) (by omega))

set_option maxHeartbeats 1000000 in
set_option maxRecDepth 100000 in
theorem c_M_tellJoined (K : zc_K) (hi : zc_inj shM K.2.2.2.1) (σ0 : zc_S) (p1 : Int32) (p2 : Int32) (p3 : Int32) (p4 : Int32) (hO0 : zc_O okM σ0) (h1a : 0 ≤ p1.toInt) (h1b : p1.toInt ≤ 5) (h2a : 0 ≤ p2.toInt) (h2b : p2.toInt ≤ 3) (h3a : 0 ≤ p3.toInt) (h3b : p3.toInt ≤ 63) (h4a : 1 ≤ p4.toInt) (h4b : p4.toInt ≤ 14) (hx0 : p1.toInt < (σ0.1 0 17).toInt) (hT : zm_T σ0) : zc_M shM K yX9_tellJoined cX9_tellJoined 10 (some .int) (zrm 6 155) σ0 [.ref (zk K 0), .int p1, .int p2, .int p3, .int p4] (zc_I (fun r9 σ9 => σ0 = σ9 ∧ (-1) ≤ r9.toInt ∧ r9.toInt ≤ 999)) := by
  refine zc_start RX9 hi pfX9_tellJoined rfl (Nat.le_of_ble_eq_true rfl) ?_
  intro G hG
  have hB := hG.1
  show zc_V 10 K G (zc_D shM K G σ0) [(0, .ref (zk K 0)), (1, .int p1), (2, .int p2), (3, .int p3), (4, .int p4)] 0 []
  have bw0_17 : 0 ≤ (σ0.1 0 17).toInt ∧ (σ0.1 0 17).toInt ≤ 6 := ⟨(hO0 0 17).1, (hO0 0 17).2.1⟩
  refine zr_iconst hB dX9_tellJoined_0 rfl (fun c1 ec1 => ?_)
  refine zr_istore hB dX9_tellJoined_1 (by decide) (lv' := [(5, .int c1), (0, .ref (zk K 0)), (1, .int p1), (2, .int p2), (3, .int p3), (4, .int p4)]) rfl ?_
  refine zr_iconst hB dX9_tellJoined_3 rfl (fun c2 ec2 => ?_)
  refine zr_istore hB dX9_tellJoined_4 (by decide) (lv' := [(6, .int c2), (5, .int c1), (0, .ref (zk K 0)), (1, .int p1), (2, .int p2), (3, .int p3), (4, .int p4)]) rfl ?_
  refine zr_iconst hB dX9_tellJoined_6 rfl (fun c3 ec3 => ?_)
  refine zr_istore hB dX9_tellJoined_7 (by decide) (lv' := [(7, .int c3), (6, .int c2), (5, .int c1), (0, .ref (zk K 0)), (1, .int p1), (2, .int p2), (3, .int p3), (4, .int p4)]) rfl ?_
  have L9_10 : ∀ (n9 : Nat) (y5_4 : Int32) (y6_5 : Int32) (y7_6 : Int32), 0 ≤ y5_4.toInt → y5_4.toInt ≤ 5000 → 0 ≤ y6_5.toInt → y6_5.toInt ≤ 4995000 → 0 ≤ y7_6.toInt → y7_6.toInt ≤ 5 → y6_5.toInt ≤ 999 * y5_4.toInt → y5_4.toInt ≤ 1000 * y7_6.toInt → y7_6.toInt ≤ p1.toInt → 5 - y7_6.toInt < (n9 : Int) → zc_V 10 K G (zc_D shM K G σ0) [(0, .ref (zk K 0)), (1, .int p1), (2, .int p2), (3, .int p3), (4, .int p4), (5, .int y5_4), (6, .int y6_5), (7, .int y7_6)] 9 [] := by
    intro n9
    induction n9 with
    | zero => intro y5_4 y6_5 y7_6 y5_4a y5_4b y6_5a y6_5b y7_6a y7_6b e7 e8 e9 hn9; exfalso; omega
    | succ n9 ih9 =>
      intro y5_4 y6_5 y7_6 y5_4a y5_4b y6_5a y6_5b y7_6a y7_6b e7 e8 e9 hn9
      refine zr_iload hB 7 dX9_tellJoined_9 rfl ?_
      refine zr_iload_n hB 1 dX9_tellJoined_11 rfl ?_
      refine zr_icmp_ge hB dX9_tellJoined_12 (tgt := 111) rfl (fun c11 => ?_) (fun c11 => ?_)
      · refine zr_iload hB 5 dX9_tellJoined_111 rfl ?_
        refine zr_if_ne hB dX9_tellJoined_113 (tgt := 120) rfl (fun c12 => ?_) (fun c12 => ?_)
        · refine zr_iload hB 6 dX9_tellJoined_120 rfl ?_
          refine zr_iload hB 5 dX9_tellJoined_122 rfl ?_
          refine zr_idiv hB dX9_tellJoined_124 (by omega) (by omega) (fun x13 ex13 ex13a ex13b ex13c => ?_)
          have ex13d := ex13c 999 (by omega)
          exact zr_iret hG dX9_tellJoined_125 ⟨rfl, by omega, by omega⟩
        refine zr_iconst hB dX9_tellJoined_116 rfl (fun c14 ec14 => ?_)
        refine zr_goto hB dX9_tellJoined_117 (tgt := 125) rfl ?_
        exact zr_iret hG dX9_tellJoined_125 ⟨rfl, by omega, by omega⟩
      refine zr_aload_n hB 0 dX9_tellJoined_15 rfl ?_
      refine zr_getr hG 0 18 dX9_tellJoined_16 rfl wf_X9_32 rfl ?_
      refine zr_iload hB 7 dX9_tellJoined_19 rfl ?_
      refine zr_iald hG 8 dX9_tellJoined_21 rfl (by omega) (by omega) (fun x15 ex15 => ?_)
      have bx15 : 0 ≤ x15.toInt ∧ x15.toInt ≤ 4 := by rw [ex15]; exact ⟨(hO0 8 _).1, (hO0 8 _).2.1⟩
      refine zr_iconst hB dX9_tellJoined_22 rfl (fun c16 ec16 => ?_)
      refine zr_icmp_ne hB dX9_tellJoined_23 (tgt := 30) rfl (fun c17 => ?_) (fun c17 => ?_)
      · refine zr_aload_n hB 0 dX9_tellJoined_30 rfl ?_
        refine zr_aload_n hB 0 dX9_tellJoined_31 rfl ?_
        refine zr_getr hG 0 18 dX9_tellJoined_32 rfl wf_X9_32 rfl ?_
        refine zr_iload hB 7 dX9_tellJoined_35 rfl ?_
        refine zr_iald hG 8 dX9_tellJoined_37 rfl (by omega) (by omega) (fun x18 ex18 => ?_)
        obtain rfl : x15 = x18 := ex15.trans ex18.symm
        refine zr_aload_n hB 0 dX9_tellJoined_38 rfl ?_
        refine zr_getr hG 0 19 dX9_tellJoined_39 rfl wf_X9_35 rfl ?_
        refine zr_iload hB 7 dX9_tellJoined_42 rfl ?_
        refine zr_iald hG 9 dX9_tellJoined_44 rfl (by omega) (by omega) (fun x19 ex19 => ?_)
        have t20 := hT y7_6.toInt (by omega) (by omega)
        rw [← ex15, ← ex19] at t20
        refine zr_aload_n hB 0 dX9_tellJoined_45 rfl ?_
        refine zr_getr hG 0 20 dX9_tellJoined_46 rfl wf_X9_38 rfl ?_
        refine zr_iload hB 7 dX9_tellJoined_49 rfl ?_
        refine zr_iald hG 10 dX9_tellJoined_51 rfl (by omega) (by omega) (fun x21 ex21 => ?_)
        refine zr_iload_n hB 2 dX9_tellJoined_52 rfl ?_
        refine zr_iload_n hB 3 dX9_tellJoined_53 rfl ?_
        refine zr_iload hB 4 dX9_tellJoined_54 rfl ?_
        refine zr_callvi hG (rest := []) 0 dX9_tellJoined_56 wm_X9_207 rfl rfl (c_M_tellPlain K hG.2.2.2.2.2.1 σ0 x15 x19 x21 p2 p3 p4 hO0 (by omega) (by omega) (by omega) (by omega) (by omega) (by omega) (by omega) (by omega) (by omega)) rfl rfl (Nat.le_of_ble_eq_true rfl) ⟨Nat.le_of_ble_eq_true rfl, Nat.le_of_ble_eq_true rfl, rfl, rfl⟩ (fun r22 σ23 h24 => ?_)
        obtain ⟨rfl, r22a, r22b⟩ := h24
        refine zr_istore hB dX9_tellJoined_59 (by decide) (lv' := [(8, .int r22), (0, .ref (zk K 0)), (1, .int p1), (2, .int p2), (3, .int p3), (4, .int p4), (5, .int y5_4), (6, .int y6_5), (7, .int y7_6)]) rfl ?_
        refine zr_iload hB 0 dX9_tellJoined_61 rfl ?_
        refine zr_if_ge hB dX9_tellJoined_63 (tgt := 70) rfl (fun c25 => ?_) (fun c25 => ?_)
        · refine zr_aload_n hB 1 dX9_tellJoined_70 rfl ?_
          refine zr_iload hB 8 dX9_tellJoined_71 rfl ?_
          refine zr_aload_n hB 1 dX9_tellJoined_73 rfl ?_
          refine zr_getr hG 0 19 dX9_tellJoined_74 rfl wf_X9_35 rfl ?_
          refine zr_iload_n hB 2 dX9_tellJoined_77 rfl ?_
          refine zr_iald hG 9 dX9_tellJoined_78 rfl (by omega) (by omega) (fun x26 ex26 => ?_)
          refine zr_iload_n hB 3 dX9_tellJoined_79 rfl ?_
          refine zr_iload_n hB 4 dX9_tellJoined_80 rfl ?_
          refine zr_iload hB 5 dX9_tellJoined_81 rfl ?_
          refine zr_callvi hG (rest := []) 0 dX9_tellJoined_83 wm_X9_211 rfl rfl (c_M_weightOf K hG.2.2.2.2.2.1 σ0 y7_6 x26 p2 p3 p4 hO0 (by omega) (by omega) (by omega) (by omega) (by omega) (by omega) (by omega) (by omega) (by omega) hT) rfl rfl (Nat.le_of_ble_eq_true rfl) ⟨Nat.le_of_ble_eq_true rfl, Nat.le_of_ble_eq_true rfl, rfl, rfl⟩ (fun r27 σ28 h29 => ?_)
          obtain ⟨rfl, r27a, r27b⟩ := h29
          refine zr_istore hB dX9_tellJoined_86 (by decide) (lv' := [(9, .int r27), (8, .int r22), (0, .ref (zk K 0)), (1, .int p1), (2, .int p2), (3, .int p3), (4, .int p4), (5, .int y5_4), (6, .int y6_5), (7, .int y7_6)]) rfl ?_
          refine zr_iload hB 7 dX9_tellJoined_88 rfl ?_
          refine zr_iload hB 0 dX9_tellJoined_90 rfl ?_
          refine zr_iadd hB dX9_tellJoined_92 (by omega) (by omega) (fun x30 ex30 => ?_)
          refine zr_istore hB dX9_tellJoined_93 (by decide) (lv' := [(5, .int x30), (9, .int r27), (8, .int r22), (0, .ref (zk K 0)), (1, .int p1), (2, .int p2), (3, .int p3), (4, .int p4), (6, .int y6_5), (7, .int y7_6)]) rfl ?_
          refine zr_iload hB 8 dX9_tellJoined_95 rfl ?_
          refine zr_iload hB 1 dX9_tellJoined_97 rfl ?_
          refine zr_iload hB 2 dX9_tellJoined_99 rfl ?_
          refine zr_imulb hB dX9_tellJoined_101 (A := 1000) (B := 999) (by omega) (by omega) (by omega) (by omega) (by decide) (fun x31 ex31 ex31a ex31b ex31c ex31d => ?_)
          refine zr_iadd hB dX9_tellJoined_102 (by omega) (by omega) (fun x32 ex32 => ?_)
          refine zr_istore hB dX9_tellJoined_103 (by decide) (lv' := [(6, .int x32), (5, .int x30), (9, .int r27), (8, .int r22), (0, .ref (zk K 0)), (1, .int p1), (2, .int p2), (3, .int p3), (4, .int p4), (7, .int y7_6)]) rfl ?_
          refine zr_iinc hB 9 dX9_tellJoined_105 rfl (by decide) rfl (by omega) (by omega) (fun x33 ex33 lv' hlv => ?_)
          obtain rfl : [(7, .int x33), (6, .int x32), (5, .int x30), (9, .int r27), (8, .int r22), (0, .ref (zk K 0)), (1, .int p1), (2, .int p2), (3, .int p3), (4, .int p4)] = lv' := hlv
          refine zr_goto hB dX9_tellJoined_108 (tgt := 9) rfl ?_
          exact zc_sub [5, 6, 7, 8, 9, 2, 1, 0] rfl (ih9 x30 x32 x33 (by omega) (by omega) (by omega) (by omega) (by omega) (by omega) (show x32.toInt ≤ 999 * x30.toInt by omega) (show x30.toInt ≤ 1000 * x33.toInt by omega) (show x33.toInt ≤ p1.toInt by omega) (by omega))
        refine zr_iconst hB dX9_tellJoined_66 rfl (fun c34 ec34 => ?_)
        refine zr_goto hB dX9_tellJoined_67 (tgt := 86) rfl ?_
        refine zr_istore hB dX9_tellJoined_86 (by decide) (lv' := [(9, .int c34), (8, .int r22), (0, .ref (zk K 0)), (1, .int p1), (2, .int p2), (3, .int p3), (4, .int p4), (5, .int y5_4), (6, .int y6_5), (7, .int y7_6)]) rfl ?_
        refine zr_iload hB 7 dX9_tellJoined_88 rfl ?_
        refine zr_iload hB 0 dX9_tellJoined_90 rfl ?_
        refine zr_iadd hB dX9_tellJoined_92 (by omega) (by omega) (fun x35 ex35 => ?_)
        refine zr_istore hB dX9_tellJoined_93 (by decide) (lv' := [(5, .int x35), (9, .int c34), (8, .int r22), (0, .ref (zk K 0)), (1, .int p1), (2, .int p2), (3, .int p3), (4, .int p4), (6, .int y6_5), (7, .int y7_6)]) rfl ?_
        refine zr_iload hB 8 dX9_tellJoined_95 rfl ?_
        refine zr_iload hB 1 dX9_tellJoined_97 rfl ?_
        refine zr_iload hB 2 dX9_tellJoined_99 rfl ?_
        refine zr_imuld hB dX9_tellJoined_101 ec34 (by omega) (by omega) (fun x36 ex36 => ?_)
        refine zr_iadd hB dX9_tellJoined_102 (by omega) (by omega) (fun x37 ex37 => ?_)
        refine zr_istore hB dX9_tellJoined_103 (by decide) (lv' := [(6, .int x37), (5, .int x35), (9, .int c34), (8, .int r22), (0, .ref (zk K 0)), (1, .int p1), (2, .int p2), (3, .int p3), (4, .int p4), (7, .int y7_6)]) rfl ?_
        refine zr_iinc hB 9 dX9_tellJoined_105 rfl (by decide) rfl (by omega) (by omega) (fun x38 ex38 lv' hlv => ?_)
        obtain rfl : [(7, .int x38), (6, .int x37), (5, .int x35), (9, .int c34), (8, .int r22), (0, .ref (zk K 0)), (1, .int p1), (2, .int p2), (3, .int p3), (4, .int p4)] = lv' := hlv
        refine zr_goto hB dX9_tellJoined_108 (tgt := 9) rfl ?_
        exact zc_sub [5, 6, 7, 8, 9, 2, 1, 0] rfl (ih9 x35 x37 x38 (by omega) (by omega) (by omega) (by omega) (by omega) (by omega) (show x37.toInt ≤ 999 * x35.toInt by omega) (show x35.toInt ≤ 1000 * x38.toInt by omega) (show x38.toInt ≤ p1.toInt by omega) (by omega))
      refine zr_iconst hB dX9_tellJoined_26 rfl (fun c39 ec39 => ?_)
      refine zr_goto hB dX9_tellJoined_27 (tgt := 59) rfl ?_
      refine zr_istore hB dX9_tellJoined_59 (by decide) (lv' := [(8, .int c39), (0, .ref (zk K 0)), (1, .int p1), (2, .int p2), (3, .int p3), (4, .int p4), (5, .int y5_4), (6, .int y6_5), (7, .int y7_6)]) rfl ?_
      refine zr_iload hB 0 dX9_tellJoined_61 rfl ?_
      refine zr_if_ge hB dX9_tellJoined_63 (tgt := 70) rfl (fun c40 => ?_) (fun c40 => ?_)
      · exfalso; omega
      refine zr_iconst hB dX9_tellJoined_66 rfl (fun c41 ec41 => ?_)
      refine zr_goto hB dX9_tellJoined_67 (tgt := 86) rfl ?_
      refine zr_istore hB dX9_tellJoined_86 (by decide) (lv' := [(9, .int c41), (8, .int c39), (0, .ref (zk K 0)), (1, .int p1), (2, .int p2), (3, .int p3), (4, .int p4), (5, .int y5_4), (6, .int y6_5), (7, .int y7_6)]) rfl ?_
      refine zr_iload hB 7 dX9_tellJoined_88 rfl ?_
      refine zr_iload hB 0 dX9_tellJoined_90 rfl ?_
      refine zr_iadd hB dX9_tellJoined_92 (by omega) (by omega) (fun x42 ex42 => ?_)
      refine zr_istore hB dX9_tellJoined_93 (by decide) (lv' := [(5, .int x42), (9, .int c41), (8, .int c39), (0, .ref (zk K 0)), (1, .int p1), (2, .int p2), (3, .int p3), (4, .int p4), (6, .int y6_5), (7, .int y7_6)]) rfl ?_
      refine zr_iload hB 8 dX9_tellJoined_95 rfl ?_
      refine zr_iload hB 1 dX9_tellJoined_97 rfl ?_
      refine zr_iload hB 2 dX9_tellJoined_99 rfl ?_
      refine zr_imulc hB dX9_tellJoined_101 ec39 (by omega) (by omega) (fun x43 ex43 => ?_)
      refine zr_iadd hB dX9_tellJoined_102 (by omega) (by omega) (fun x44 ex44 => ?_)
      refine zr_istore hB dX9_tellJoined_103 (by decide) (lv' := [(6, .int x44), (5, .int x42), (9, .int c41), (8, .int c39), (0, .ref (zk K 0)), (1, .int p1), (2, .int p2), (3, .int p3), (4, .int p4), (7, .int y7_6)]) rfl ?_
      refine zr_iinc hB 9 dX9_tellJoined_105 rfl (by decide) rfl (by omega) (by omega) (fun x45 ex45 lv' hlv => ?_)
      obtain rfl : [(7, .int x45), (6, .int x44), (5, .int x42), (9, .int c41), (8, .int c39), (0, .ref (zk K 0)), (1, .int p1), (2, .int p2), (3, .int p3), (4, .int p4)] = lv' := hlv
      refine zr_goto hB dX9_tellJoined_108 (tgt := 9) rfl ?_
      exact zc_sub [5, 6, 7, 8, 9, 2, 1, 0] rfl (ih9 x42 x44 x45 (by omega) (by omega) (by omega) (by omega) (by omega) (by omega) (show x44.toInt ≤ 999 * x42.toInt by omega) (show x42.toInt ≤ 1000 * x45.toInt by omega) (show x45.toInt ≤ p1.toInt by omega) (by omega))
  exact zc_sub [3, 4, 5, 6, 7, 2, 1, 0] rfl (L9_10 7 c1 c2 c3 (by omega) (by omega) (by omega) (by omega) (by omega) (by omega) (show c2.toInt ≤ 999 * c1.toInt by omega) (show c1.toInt ≤ 1000 * c3.toInt by omega) (show c3.toInt ≤ p1.toInt by omega) (by omega))

set_option maxHeartbeats 1000000 in
set_option maxRecDepth 100000 in
theorem c_M_tellBy (K : zc_K) (hi : zc_inj shM K.2.2.2.1) (σ0 : zc_S) (p1 : Int32) (p2 : Int32) (p3 : Int32) (p4 : Int32) (hO0 : zc_O okM σ0) (h1a : 0 ≤ p1.toInt) (h1b : p1.toInt ≤ 5) (h2a : 0 ≤ p2.toInt) (h2b : p2.toInt ≤ 3) (h3a : 0 ≤ p3.toInt) (h3b : p3.toInt ≤ 63) (h4a : 1 ≤ p4.toInt) (h4b : p4.toInt ≤ 14) (hx0 : p1.toInt < (σ0.1 0 17).toInt) (hT : zm_T σ0) : zc_M shM K yX9_tellBy cX9_tellBy 5 (some .int) (zrm 7 184) σ0 [.ref (zk K 0), .int p1, .int p2, .int p3, .int p4] (zc_I (fun r9 σ9 => σ0 = σ9 ∧ (-1) ≤ r9.toInt ∧ r9.toInt ≤ 999)) := by
  refine zc_start RX9 hi pfX9_tellBy rfl (Nat.le_of_ble_eq_true rfl) ?_
  intro G hG
  have hB := hG.1
  show zc_V 5 K G (zc_D shM K G σ0) [(0, .ref (zk K 0)), (1, .int p1), (2, .int p2), (3, .int p3), (4, .int p4)] 0 []
  have bw0_17 : 0 ≤ (σ0.1 0 17).toInt ∧ (σ0.1 0 17).toInt ≤ 6 := ⟨(hO0 0 17).1, (hO0 0 17).2.1⟩
  refine zr_aload_n hB 0 dX9_tellBy_0 rfl ?_
  refine zr_getr hG 0 18 dX9_tellBy_1 rfl wf_X9_32 rfl ?_
  refine zr_iload_n hB 1 dX9_tellBy_4 rfl ?_
  refine zr_iald hG 8 dX9_tellBy_5 rfl (by omega) (by omega) (fun x1 ex1 => ?_)
  have bx1 : 0 ≤ x1.toInt ∧ x1.toInt ≤ 4 := by rw [ex1]; exact ⟨(hO0 8 _).1, (hO0 8 _).2.1⟩
  refine zr_iconst hB dX9_tellBy_6 rfl (fun c2 ec2 => ?_)
  refine zr_icmp_ne hB dX9_tellBy_7 (tgt := 22) rfl (fun c3 => ?_) (fun c3 => ?_)
  · refine zr_aload_n hB 0 dX9_tellBy_22 rfl ?_
    refine zr_aload_n hB 0 dX9_tellBy_23 rfl ?_
    refine zr_getr hG 0 18 dX9_tellBy_24 rfl wf_X9_32 rfl ?_
    refine zr_iload_n hB 1 dX9_tellBy_27 rfl ?_
    refine zr_iald hG 8 dX9_tellBy_28 rfl (by omega) (by omega) (fun x4 ex4 => ?_)
    obtain rfl : x1 = x4 := ex1.trans ex4.symm
    refine zr_aload_n hB 0 dX9_tellBy_29 rfl ?_
    refine zr_getr hG 0 19 dX9_tellBy_30 rfl wf_X9_35 rfl ?_
    refine zr_iload_n hB 1 dX9_tellBy_33 rfl ?_
    refine zr_iald hG 9 dX9_tellBy_34 rfl (by omega) (by omega) (fun x5 ex5 => ?_)
    have t6 := hT p1.toInt (by omega) (by omega)
    rw [← ex1, ← ex5] at t6
    refine zr_aload_n hB 0 dX9_tellBy_35 rfl ?_
    refine zr_getr hG 0 20 dX9_tellBy_36 rfl wf_X9_38 rfl ?_
    refine zr_iload_n hB 1 dX9_tellBy_39 rfl ?_
    refine zr_iald hG 10 dX9_tellBy_40 rfl (by omega) (by omega) (fun x7 ex7 => ?_)
    refine zr_iload_n hB 2 dX9_tellBy_41 rfl ?_
    refine zr_iload_n hB 3 dX9_tellBy_42 rfl ?_
    refine zr_iload hB 4 dX9_tellBy_43 rfl ?_
    refine zr_callvi hG (rest := []) 0 dX9_tellBy_45 wm_X9_207 rfl rfl (c_M_tellPlain K hG.2.2.2.2.2.1 σ0 x1 x5 x7 p2 p3 p4 hO0 (by omega) (by omega) (by omega) (by omega) (by omega) (by omega) (by omega) (by omega) (by omega)) rfl rfl (Nat.le_of_ble_eq_true rfl) ⟨Nat.le_of_ble_eq_true rfl, Nat.le_of_ble_eq_true rfl, rfl, rfl⟩ (fun r8 σ9 h10 => ?_)
    obtain ⟨rfl, r8a, r8b⟩ := h10
    exact zr_iret hG dX9_tellBy_48 ⟨rfl, by omega, by omega⟩
  refine zr_aload_n hB 0 dX9_tellBy_10 rfl ?_
  refine zr_iload_n hB 1 dX9_tellBy_11 rfl ?_
  refine zr_iload_n hB 2 dX9_tellBy_12 rfl ?_
  refine zr_iload_n hB 3 dX9_tellBy_13 rfl ?_
  refine zr_iload hB 4 dX9_tellBy_14 rfl ?_
  refine zr_callvi hG (rest := []) 0 dX9_tellBy_16 wm_X9_214 rfl rfl (c_M_tellJoined K hG.2.2.2.2.2.1 σ0 p1 p2 p3 p4 hO0 (by omega) (by omega) (by omega) (by omega) (by omega) (by omega) (by omega) (by omega) (by omega) hT) rfl rfl (Nat.le_of_ble_eq_true rfl) ⟨Nat.le_of_ble_eq_true rfl, Nat.le_of_ble_eq_true rfl, rfl, rfl⟩ (fun r11 σ12 h13 => ?_)
  obtain ⟨rfl, r11a, r11b⟩ := h13
  refine zr_goto hB dX9_tellBy_19 (tgt := 48) rfl ?_
  exact zr_iret hG dX9_tellBy_48 ⟨rfl, by omega, by omega⟩

set_option maxHeartbeats 1000000 in
set_option maxRecDepth 100000 in
theorem c_M_tells (K : zc_K) (hi : zc_inj shM K.2.2.2.1) (σ0 : zc_S) (p1 : Int32) (p2 : Int32) (p3 : Int32) (p4 : Int32) (hO0 : zc_O okM σ0) (hT : zm_T σ0) : zc_M shM K yX9_tells cX9_tells 5 (some .int) (zrm 8 208) σ0 [.ref (zk K 0), .int p1, .int p2, .int p3, .int p4] (zc_I (fun r9 σ9 => σ0 = σ9 ∧ (-4) ≤ r9.toInt ∧ r9.toInt ≤ 999)) := by
  refine zc_start RX9 hi pfX9_tells rfl (Nat.le_of_ble_eq_true rfl) ?_
  intro G hG
  have hB := hG.1
  show zc_V 5 K G (zc_D shM K G σ0) [(0, .ref (zk K 0)), (1, .int p1), (2, .int p2), (3, .int p3), (4, .int p4)] 0 []
  have bw0_17 : 0 ≤ (σ0.1 0 17).toInt ∧ (σ0.1 0 17).toInt ≤ 6 := ⟨(hO0 0 17).1, (hO0 0 17).2.1⟩
  refine zr_iload_n hB 1 dX9_tells_0 rfl ?_
  refine zr_callsi hG (rest := []) dX9_tells_1 wm_X9_108 (c_M_isShop K hG.2.2.2.2.2.1 σ0 p1 hO0 ) rfl rfl (Nat.le_of_ble_eq_true rfl) ⟨Nat.le_of_ble_eq_true rfl, Nat.le_of_ble_eq_true rfl, rfl, rfl⟩ (fun r1 σ2 h3 => ?_)
  obtain ⟨rfl, r1q⟩ := h3
  have r1z := r1q.b
  refine zr_if_eq hB dX9_tells_4 (tgt := 52) rfl (fun c4 => ?_) (fun c4 => ?_)
  · have q5 := r1q.f c4
    refine zr_iconst hB dX9_tells_52 rfl (fun c6 ec6 => ?_)
    exact zr_iret hG dX9_tells_53 ⟨rfl, by omega, by omega⟩
  have q7 := r1q.t c4
  refine zr_aload_n hB 0 dX9_tells_7 rfl ?_
  refine zr_iload_n hB 2 dX9_tells_8 rfl ?_
  refine zr_callvi hG (rest := []) 0 dX9_tells_9 wm_X9_184 rfl rfl (c_M_isTeller K hG.2.2.2.2.2.1 σ0 p2 hO0 ) rfl rfl (Nat.le_of_ble_eq_true rfl) ⟨Nat.le_of_ble_eq_true rfl, Nat.le_of_ble_eq_true rfl, rfl, rfl⟩ (fun r8 σ9 h10 => ?_)
  obtain ⟨rfl, r8q⟩ := h10
  have r8z := r8q.b
  refine zr_if_eq hB dX9_tells_12 (tgt := 52) rfl (fun c11 => ?_) (fun c11 => ?_)
  · have q12 := r8q.f c11
    refine zr_iconst hB dX9_tells_52 rfl (fun c13 ec13 => ?_)
    exact zr_iret hG dX9_tells_53 ⟨rfl, by omega, by omega⟩
  have q14 := r8q.t c11
  refine zr_iload_n hB 3 dX9_tells_15 rfl ?_
  have v16 := And.intro (zn_lo p3) (zn_hi p3)
  refine zr_i2l hB dX9_tells_16 (fun l15 el15 => ?_)
  refine zr_lconst hB dX9_tells_17 (m := 0) rfl (fun c17 ec17 => ?_)
  refine zr_aload_n hB 0 dX9_tells_18 rfl ?_
  refine zr_geti' hG 0 1 (σ0.1 0 1) dX9_tells_19 rfl wf_X9_101 rfl rfl ?_
  have b18 : 0 ≤ (σ0.1 0 1).toInt ∧ (σ0.1 0 1).toInt ≤ 63 := ⟨(hO0 0 1).1, (hO0 0 1).2.1⟩
  refine zr_i2l hB dX9_tells_22 (fun l19 el19 => ?_)
  refine zr_callsi hG (rest := []) dX9_tells_23 wm_X9_91 (c_M_in K hG.2.2.2.2.2.1 σ0 l15 c17 l19 hO0 ) rfl rfl (Nat.le_of_ble_eq_true rfl) ⟨Nat.le_of_ble_eq_true rfl, Nat.le_of_ble_eq_true rfl, rfl, rfl⟩ (fun r20 σ21 h22 => ?_)
  obtain ⟨rfl, r20q⟩ := h22
  have r20z := r20q.b
  refine zr_if_eq hB dX9_tells_26 (tgt := 52) rfl (fun c23 => ?_) (fun c23 => ?_)
  · have q24 := r20q.f c23
    refine zr_iconst hB dX9_tells_52 rfl (fun c25 ec25 => ?_)
    exact zr_iret hG dX9_tells_53 ⟨rfl, by omega, by omega⟩
  have q26 := r20q.t c23
  refine zr_iload hB 4 dX9_tells_29 rfl ?_
  refine zr_callsi hG (rest := []) dX9_tells_31 wm_X9_219 (c_M_isAhead K hG.2.2.2.2.2.1 σ0 p4 hO0 ) rfl rfl (Nat.le_of_ble_eq_true rfl) ⟨Nat.le_of_ble_eq_true rfl, Nat.le_of_ble_eq_true rfl, rfl, rfl⟩ (fun r27 σ28 h29 => ?_)
  obtain ⟨rfl, r27q⟩ := h29
  have r27z := r27q.b
  refine zr_if_eq hB dX9_tells_34 (tgt := 52) rfl (fun c30 => ?_) (fun c30 => ?_)
  · have q31 := r27q.f c30
    refine zr_iconst hB dX9_tells_52 rfl (fun c32 ec32 => ?_)
    exact zr_iret hG dX9_tells_53 ⟨rfl, by omega, by omega⟩
  have q33 := r27q.t c30
  refine zr_aload_n hB 0 dX9_tells_37 rfl ?_
  refine zr_iload_n hB 2 dX9_tells_38 rfl ?_
  refine zr_iload_n hB 1 dX9_tells_39 rfl ?_
  refine zr_iload_n hB 3 dX9_tells_40 rfl ?_
  refine zr_iload hB 4 dX9_tells_41 rfl ?_
  refine zr_callvi hG (rest := []) 0 dX9_tells_43 wm_X9_222 rfl rfl (c_M_tellBy K hG.2.2.2.2.2.1 σ0 p2 p1 p3 p4 hO0 (by omega) (by omega) (by omega) (by omega) (by omega) (by omega) (by omega) (by omega) (by omega) hT) rfl rfl (Nat.le_of_ble_eq_true rfl) ⟨Nat.le_of_ble_eq_true rfl, Nat.le_of_ble_eq_true rfl, rfl, rfl⟩ (fun r34 σ35 h36 => ?_)
  obtain ⟨rfl, r34a, r34b⟩ := h36
  refine zr_callsi hG (rest := []) dX9_tells_46 wm_X9_117 (c_M_orNone K hG.2.2.2.2.2.1 σ0 r34 hO0 (by omega) (by omega)) rfl rfl (Nat.le_of_ble_eq_true rfl) ⟨Nat.le_of_ble_eq_true rfl, Nat.le_of_ble_eq_true rfl, rfl, rfl⟩ (fun r37 σ38 h39 => ?_)
  obtain ⟨rfl, r37a, r37b, g40⟩ := h39
  refine zr_goto hB dX9_tells_49 (tgt := 53) rfl ?_
  exact zr_iret hG dX9_tells_53 ⟨rfl, by omega, by omega⟩

set_option maxHeartbeats 1000000 in
set_option maxRecDepth 100000 in
theorem c_M_weight (K : zc_K) (hi : zc_inj shM K.2.2.2.1) (σ0 : zc_S) (p1 : Int32) (p2 : Int32) (p3 : Int32) (p4 : Int32) (p5 : Int32) (hO0 : zc_O okM σ0) (hT : zm_T σ0) : zc_M shM K yX9_weight cX9_weight 6 (some .int) (zrm 8 208) σ0 [.ref (zk K 0), .int p1, .int p2, .int p3, .int p4, .int p5] (zc_I (fun r9 σ9 => σ0 = σ9)) := by
  refine zc_start RX9 hi pfX9_weight rfl (Nat.le_of_ble_eq_true rfl) ?_
  intro G hG
  have hB := hG.1
  show zc_V 6 K G (zc_D shM K G σ0) [(0, .ref (zk K 0)), (1, .int p1), (2, .int p2), (3, .int p3), (4, .int p4), (5, .int p5)] 0 []
  have bw0_17 : 0 ≤ (σ0.1 0 17).toInt ∧ (σ0.1 0 17).toInt ≤ 6 := ⟨(hO0 0 17).1, (hO0 0 17).2.1⟩
  refine zr_iload_n hB 1 dX9_weight_0 rfl ?_
  refine zr_callsi hG (rest := []) dX9_weight_1 wm_X9_108 (c_M_isShop K hG.2.2.2.2.2.1 σ0 p1 hO0 ) rfl rfl (Nat.le_of_ble_eq_true rfl) ⟨Nat.le_of_ble_eq_true rfl, Nat.le_of_ble_eq_true rfl, rfl, rfl⟩ (fun r1 σ2 h3 => ?_)
  obtain ⟨rfl, r1q⟩ := h3
  have r1z := r1q.b
  refine zr_if_eq hB dX9_weight_4 (tgt := 71) rfl (fun c4 => ?_) (fun c4 => ?_)
  · have q5 := r1q.f c4
    refine zr_iconst hB dX9_weight_71 rfl (fun c6 ec6 => ?_)
    exact zr_iret hG dX9_weight_72 rfl
  have q7 := r1q.t c4
  refine zr_aload_n hB 0 dX9_weight_7 rfl ?_
  refine zr_iload_n hB 2 dX9_weight_8 rfl ?_
  refine zr_callvi hG (rest := []) 0 dX9_weight_9 wm_X9_184 rfl rfl (c_M_isTeller K hG.2.2.2.2.2.1 σ0 p2 hO0 ) rfl rfl (Nat.le_of_ble_eq_true rfl) ⟨Nat.le_of_ble_eq_true rfl, Nat.le_of_ble_eq_true rfl, rfl, rfl⟩ (fun r8 σ9 h10 => ?_)
  obtain ⟨rfl, r8q⟩ := h10
  have r8z := r8q.b
  refine zr_if_eq hB dX9_weight_12 (tgt := 71) rfl (fun c11 => ?_) (fun c11 => ?_)
  · have q12 := r8q.f c11
    refine zr_iconst hB dX9_weight_71 rfl (fun c13 ec13 => ?_)
    exact zr_iret hG dX9_weight_72 rfl
  have q14 := r8q.t c11
  refine zr_iload_n hB 3 dX9_weight_15 rfl ?_
  have v16 := And.intro (zn_lo p3) (zn_hi p3)
  refine zr_i2l hB dX9_weight_16 (fun l15 el15 => ?_)
  refine zr_lconst hB dX9_weight_17 (m := 0) rfl (fun c17 ec17 => ?_)
  refine zr_iload_n hB 2 dX9_weight_18 rfl ?_
  refine zr_iconst hB dX9_weight_19 rfl (fun c18 ec18 => ?_)
  refine zr_isub hB dX9_weight_20 (by omega) (by omega) (fun x19 ex19 => ?_)
  refine zr_i2l hB dX9_weight_21 (fun l20 el20 => ?_)
  refine zr_callsi hG (rest := []) dX9_weight_22 wm_X9_91 (c_M_in K hG.2.2.2.2.2.1 σ0 l15 c17 l20 hO0 ) rfl rfl (Nat.le_of_ble_eq_true rfl) ⟨Nat.le_of_ble_eq_true rfl, Nat.le_of_ble_eq_true rfl, rfl, rfl⟩ (fun r21 σ22 h23 => ?_)
  obtain ⟨rfl, r21q⟩ := h23
  have r21z := r21q.b
  refine zr_if_eq hB dX9_weight_25 (tgt := 71) rfl (fun c24 => ?_) (fun c24 => ?_)
  · have q25 := r21q.f c24
    refine zr_iconst hB dX9_weight_71 rfl (fun c26 ec26 => ?_)
    exact zr_iret hG dX9_weight_72 rfl
  have q27 := r21q.t c24
  refine zr_aload_n hB 0 dX9_weight_28 rfl ?_
  refine zr_getr hG 0 18 dX9_weight_29 rfl wf_X9_32 rfl ?_
  refine zr_iload_n hB 2 dX9_weight_32 rfl ?_
  refine zr_iald hG 8 dX9_weight_33 rfl (by omega) (by omega) (fun x28 ex28 => ?_)
  have bx28 : 0 ≤ x28.toInt ∧ x28.toInt ≤ 4 := by rw [ex28]; exact ⟨(hO0 8 _).1, (hO0 8 _).2.1⟩
  refine zr_iconst hB dX9_weight_34 rfl (fun c29 ec29 => ?_)
  refine zr_icmp_ne hB dX9_weight_35 (tgt := 71) rfl (fun c30 => ?_) (fun c30 => ?_)
  · refine zr_iconst hB dX9_weight_71 rfl (fun c31 ec31 => ?_)
    exact zr_iret hG dX9_weight_72 rfl
  refine zr_aload_n hB 0 dX9_weight_38 rfl ?_
  refine zr_getr hG 0 18 dX9_weight_39 rfl wf_X9_32 rfl ?_
  refine zr_iload_n hB 3 dX9_weight_42 rfl ?_
  refine zr_iald hG 8 dX9_weight_43 rfl (by omega) (by omega) (fun x32 ex32 => ?_)
  have bx32 : 0 ≤ x32.toInt ∧ x32.toInt ≤ 4 := by rw [ex32]; exact ⟨(hO0 8 _).1, (hO0 8 _).2.1⟩
  refine zr_iconst hB dX9_weight_44 rfl (fun c33 ec33 => ?_)
  refine zr_icmp_eq hB dX9_weight_45 (tgt := 71) rfl (fun c34 => ?_) (fun c34 => ?_)
  · refine zr_iconst hB dX9_weight_71 rfl (fun c35 ec35 => ?_)
    exact zr_iret hG dX9_weight_72 rfl
  refine zr_iload hB 4 dX9_weight_48 rfl ?_
  have v37 := And.intro (zn_lo p4) (zn_hi p4)
  refine zr_i2l hB dX9_weight_50 (fun l36 el36 => ?_)
  refine zr_lconst hB dX9_weight_51 (m := 0) rfl (fun c38 ec38 => ?_)
  refine zr_aload_n hB 0 dX9_weight_52 rfl ?_
  refine zr_geti' hG 0 1 (σ0.1 0 1) dX9_weight_53 rfl wf_X9_101 rfl rfl ?_
  have b39 : 0 ≤ (σ0.1 0 1).toInt ∧ (σ0.1 0 1).toInt ≤ 63 := ⟨(hO0 0 1).1, (hO0 0 1).2.1⟩
  refine zr_i2l hB dX9_weight_56 (fun l40 el40 => ?_)
  refine zr_callsi hG (rest := []) dX9_weight_57 wm_X9_91 (c_M_in K hG.2.2.2.2.2.1 σ0 l36 c38 l40 hO0 ) rfl rfl (Nat.le_of_ble_eq_true rfl) ⟨Nat.le_of_ble_eq_true rfl, Nat.le_of_ble_eq_true rfl, rfl, rfl⟩ (fun r41 σ42 h43 => ?_)
  obtain ⟨rfl, r41q⟩ := h43
  have r41z := r41q.b
  refine zr_if_eq hB dX9_weight_60 (tgt := 71) rfl (fun c44 => ?_) (fun c44 => ?_)
  · have q45 := r41q.f c44
    refine zr_iconst hB dX9_weight_71 rfl (fun c46 ec46 => ?_)
    exact zr_iret hG dX9_weight_72 rfl
  have q47 := r41q.t c44
  refine zr_iload hB 5 dX9_weight_63 rfl ?_
  refine zr_callsi hG (rest := []) dX9_weight_65 wm_X9_219 (c_M_isAhead K hG.2.2.2.2.2.1 σ0 p5 hO0 ) rfl rfl (Nat.le_of_ble_eq_true rfl) ⟨Nat.le_of_ble_eq_true rfl, Nat.le_of_ble_eq_true rfl, rfl, rfl⟩ (fun r48 σ49 h50 => ?_)
  obtain ⟨rfl, r48q⟩ := h50
  have r48z := r48q.b
  refine zr_if_ne hB dX9_weight_68 (tgt := 73) rfl (fun c51 => ?_) (fun c51 => ?_)
  · have q52 := r48q.t c51
    refine zr_aload_n hB 0 dX9_weight_73 rfl ?_
    refine zr_iload_n hB 3 dX9_weight_74 rfl ?_
    refine zr_iload_n hB 1 dX9_weight_75 rfl ?_
    refine zr_iload hB 4 dX9_weight_76 rfl ?_
    refine zr_iload hB 5 dX9_weight_78 rfl ?_
    refine zr_callvi hG (rest := []) 0 dX9_weight_80 wm_X9_222 rfl rfl (c_M_tellBy K hG.2.2.2.2.2.1 σ0 p3 p1 p4 p5 hO0 (by omega) (by omega) (by omega) (by omega) (by omega) (by omega) (by omega) (by omega) (by omega) hT) rfl rfl (Nat.le_of_ble_eq_true rfl) ⟨Nat.le_of_ble_eq_true rfl, Nat.le_of_ble_eq_true rfl, rfl, rfl⟩ (fun r53 σ54 h55 => ?_)
    obtain ⟨rfl, r53a, r53b⟩ := h55
    refine zr_if_ge hB dX9_weight_83 (tgt := 91) rfl (fun c56 => ?_) (fun c56 => ?_)
    · refine zr_aload_n hB 0 dX9_weight_91 rfl ?_
      refine zr_iload_n hB 3 dX9_weight_92 rfl ?_
      refine zr_aload_n hB 0 dX9_weight_93 rfl ?_
      refine zr_getr hG 0 19 dX9_weight_94 rfl wf_X9_35 rfl ?_
      refine zr_iload_n hB 2 dX9_weight_97 rfl ?_
      refine zr_iald hG 9 dX9_weight_98 rfl (by omega) (by omega) (fun x57 ex57 => ?_)
      refine zr_iload_n hB 1 dX9_weight_99 rfl ?_
      refine zr_iload hB 4 dX9_weight_100 rfl ?_
      refine zr_iload hB 5 dX9_weight_102 rfl ?_
      refine zr_callvi hG (rest := []) 0 dX9_weight_104 wm_X9_211 rfl rfl (c_M_weightOf K hG.2.2.2.2.2.1 σ0 p3 x57 p1 p4 p5 hO0 (by omega) (by omega) (by omega) (by omega) (by omega) (by omega) (by omega) (by omega) (by omega) hT) rfl rfl (Nat.le_of_ble_eq_true rfl) ⟨Nat.le_of_ble_eq_true rfl, Nat.le_of_ble_eq_true rfl, rfl, rfl⟩ (fun r58 σ59 h60 => ?_)
      obtain ⟨rfl, r58a, r58b⟩ := h60
      exact zr_iret hG dX9_weight_107 rfl
    refine zr_bipush hB dX9_weight_86 rfl (fun c61 ec61 => ?_)
    refine zr_goto hB dX9_weight_88 (tgt := 107) rfl ?_
    exact zr_iret hG dX9_weight_107 rfl
  have q62 := r48q.f c51
  refine zr_iconst hB dX9_weight_71 rfl (fun c63 ec63 => ?_)
  exact zr_iret hG dX9_weight_72 rfl

set_option maxHeartbeats 1000000 in
set_option maxRecDepth 100000 in
theorem c_M_size (K : zc_K) (hi : zc_inj shM K.2.2.2.1) (σ0 : zc_S) (p0 : Int32) (hO0 : zc_O okM σ0) (h0a : (-2147483647) ≤ p0.toInt) : zc_M shM K yX9_size cX9_size 1 (some .int) (zrm 0 0) σ0 [.int p0] (zc_I (fun r9 σ9 => σ0 = σ9 ∧ 0 ≤ r9.toInt ∧ (r9.toInt = p0.toInt ∨ r9.toInt = -p0.toInt))) := by
  refine zc_start RX9 hi pfX9_size rfl (Nat.le_of_ble_eq_true rfl) ?_
  intro G hG
  have hB := hG.1
  show zc_V 1 K G (zc_D shM K G σ0) [(0, .int p0)] 0 []
  refine zr_iload_n hB 0 dX9_size_0 rfl ?_
  refine zr_if_ge hB dX9_size_1 (tgt := 9) rfl (fun c1 => ?_) (fun c1 => ?_)
  · refine zr_iload_n hB 0 dX9_size_9 rfl ?_
    exact zr_iret hG dX9_size_10 ⟨rfl, by omega, by omega⟩
  refine zr_iload_n hB 0 dX9_size_4 rfl ?_
  refine zr_ineg hB dX9_size_5 (by omega) (fun x2 ex2 => ?_)
  refine zr_goto hB dX9_size_6 (tgt := 10) rfl ?_
  exact zr_iret hG dX9_size_10 ⟨rfl, by omega, by omega⟩

def m_M_layDay : zc_ms := [(14, none), (15, none)]
set_option maxHeartbeats 1000000 in
set_option maxRecDepth 100000 in
theorem c_M_layDay (K : zc_K) (hi : zc_inj shM K.2.2.2.1) (σ0 : zc_S) (p1 : Int32) (p2 : Int32) (p3 : Int32) (hO0 : zc_O okM σ0) (h1a : 0 ≤ p1.toInt) (h1b : p1.toInt ≤ 63) (h2a : (-1) ≤ p2.toInt) (h2b : p2.toInt ≤ 999) (h3a : 0 ≤ p3.toInt) (h3b : p3.toInt ≤ 3) : zc_M shM K yX9_layDay cX9_layDay 5 none (zrm 3 68) σ0 [.ref (zk K 0), .int p1, .int p2, .int p3] (zc_N (fun σ9 => zc_O okM σ9 ∧ zc_Ag m_M_layDay σ0 σ9)) := by
  refine zc_start RX9 hi pfX9_layDay rfl (Nat.le_of_ble_eq_true rfl) ?_
  intro G hG
  have hB := hG.1
  have hA0 : zc_Ag m_M_layDay σ0 σ0 := zc_Ag.rf
  show zc_V 5 K G (zc_D shM K G σ0) [(0, .ref (zk K 0)), (1, .int p1), (2, .int p2), (3, .int p3)] 0 []
  refine zr_aload_n hB 0 dX9_layDay_0 rfl ?_
  refine zr_iload_n hB 3 dX9_layDay_1 rfl ?_
  refine zr_iload_n hB 1 dX9_layDay_2 rfl ?_
  refine zr_aload_n hB 0 dX9_layDay_3 rfl ?_
  refine zr_geti' hG 0 1 (σ0.1 0 1) dX9_layDay_4 rfl wf_X9_101 rfl rfl ?_
  have b1 : 0 ≤ (σ0.1 0 1).toInt ∧ (σ0.1 0 1).toInt ≤ 63 := ⟨(hO0 0 1).1, (hO0 0 1).2.1⟩
  refine zr_callvi hG (rest := []) 0 dX9_layDay_7 wm_X9_113 rfl rfl (c_M_knownOn K hG.2.2.2.2.2.1 σ0 p3 p1 (σ0.1 0 1) hO0 (by omega) (by omega) (by omega) (by omega)) rfl rfl (Nat.le_of_ble_eq_true rfl) ⟨Nat.le_of_ble_eq_true rfl, Nat.le_of_ble_eq_true rfl, rfl, rfl⟩ (fun r2 σ3 h4 => ?_)
  obtain ⟨rfl, r2a, r2b, g5⟩ := h4
  refine zr_istore hB dX9_layDay_10 (by decide) (lv' := [(4, .int r2), (0, .ref (zk K 0)), (1, .int p1), (2, .int p2), (3, .int p3)]) rfl ?_
  refine zr_aload_n hB 1 dX9_layDay_12 rfl ?_
  refine zr_getr hG 0 26 dX9_layDay_13 rfl wf_X9_53 rfl ?_
  refine zr_iload_n hB 2 dX9_layDay_16 rfl ?_
  refine zr_iload hB 0 dX9_layDay_17 rfl ?_
  refine zr_if_lt hB dX9_layDay_19 (tgt := 30) rfl (fun c6 => ?_) (fun c6 => ?_)
  · refine zr_iconst hB dX9_layDay_30 rfl (fun c7 ec7 => ?_)
    refine zr_zast hG 15 dX9_layDay_31 rfl (by omega) (by omega) (by omega) (by omega) ?_
    have hOw8 := zc_O.u hO0 15 p1.toInt.toNat (v := c7) (show 0 ≤ c7.toInt by omega) (show c7.toInt ≤ 1 by omega) (Or.inr (show 0 ≤ c7.toInt by omega))
    have hAw8 := zc_Ag.u hA0 15 p1.toInt.toNat c7 rfl
    refine zr_aload_n hB 1 dX9_layDay_32 rfl ?_
    refine zr_getr hG 0 25 dX9_layDay_33 rfl wf_X9_50 rfl ?_
    refine zr_iload_n hB 2 dX9_layDay_36 rfl ?_
    refine zr_aload_n hB 1 dX9_layDay_37 rfl ?_
    refine zr_getr hG 0 26 dX9_layDay_38 rfl wf_X9_53 rfl ?_
    refine zr_iload_n hB 2 dX9_layDay_41 rfl ?_
    refine zr_zald hG 15 dX9_layDay_42 rfl (by omega) (by omega) (fun x9 ex9 => ?_)
    obtain rfl : c7 = x9 := (ex9.trans (zc_us _ _ _ _)).symm
    refine zr_if_eq hB dX9_layDay_43 (tgt := 53) rfl (fun c10 => ?_) (fun c10 => ?_)
    · refine zr_iconst hB dX9_layDay_53 rfl (fun c11 ec11 => ?_)
      refine zr_iast hG 14 dX9_layDay_54 rfl (by omega) (by omega)  ?_
      have hOw12 := zc_O.u hOw8 14 p1.toInt.toNat (v := c11) (show (-999) ≤ c11.toInt by omega) (show c11.toInt ≤ 999 by omega) (Or.inr (show (-999) ≤ c11.toInt by omega))
      have hAw12 := zc_Ag.u hAw8 14 p1.toInt.toNat c11 rfl
      exact zr_vret hG dX9_layDay_55 ⟨hOw12, hAw12⟩
    exfalso; omega
  refine zr_iload_n hB 3 dX9_layDay_22 rfl ?_
  refine zr_if_lt hB dX9_layDay_23 (tgt := 30) rfl (fun c13 => ?_) (fun c13 => ?_)
  · refine zr_iconst hB dX9_layDay_30 rfl (fun c14 ec14 => ?_)
    refine zr_zast hG 15 dX9_layDay_31 rfl (by omega) (by omega) (by omega) (by omega) ?_
    have hOw15 := zc_O.u hO0 15 p1.toInt.toNat (v := c14) (show 0 ≤ c14.toInt by omega) (show c14.toInt ≤ 1 by omega) (Or.inr (show 0 ≤ c14.toInt by omega))
    have hAw15 := zc_Ag.u hA0 15 p1.toInt.toNat c14 rfl
    refine zr_aload_n hB 1 dX9_layDay_32 rfl ?_
    refine zr_getr hG 0 25 dX9_layDay_33 rfl wf_X9_50 rfl ?_
    refine zr_iload_n hB 2 dX9_layDay_36 rfl ?_
    refine zr_aload_n hB 1 dX9_layDay_37 rfl ?_
    refine zr_getr hG 0 26 dX9_layDay_38 rfl wf_X9_53 rfl ?_
    refine zr_iload_n hB 2 dX9_layDay_41 rfl ?_
    refine zr_zald hG 15 dX9_layDay_42 rfl (by omega) (by omega) (fun x16 ex16 => ?_)
    obtain rfl : c14 = x16 := (ex16.trans (zc_us _ _ _ _)).symm
    refine zr_if_eq hB dX9_layDay_43 (tgt := 53) rfl (fun c17 => ?_) (fun c17 => ?_)
    · refine zr_iconst hB dX9_layDay_53 rfl (fun c18 ec18 => ?_)
      refine zr_iast hG 14 dX9_layDay_54 rfl (by omega) (by omega)  ?_
      have hOw19 := zc_O.u hOw15 14 p1.toInt.toNat (v := c18) (show (-999) ≤ c18.toInt by omega) (show c18.toInt ≤ 999 by omega) (Or.inr (show (-999) ≤ c18.toInt by omega))
      have hAw19 := zc_Ag.u hAw15 14 p1.toInt.toNat c18 rfl
      exact zr_vret hG dX9_layDay_55 ⟨hOw19, hAw19⟩
    exfalso; omega
  refine zr_iconst hB dX9_layDay_26 rfl (fun c20 ec20 => ?_)
  refine zr_goto hB dX9_layDay_27 (tgt := 31) rfl ?_
  refine zr_zast hG 15 dX9_layDay_31 rfl (by omega) (by omega) (by omega) (by omega) ?_
  have hOw21 := zc_O.u hO0 15 p1.toInt.toNat (v := c20) (show 0 ≤ c20.toInt by omega) (show c20.toInt ≤ 1 by omega) (Or.inr (show 0 ≤ c20.toInt by omega))
  have hAw21 := zc_Ag.u hA0 15 p1.toInt.toNat c20 rfl
  refine zr_aload_n hB 1 dX9_layDay_32 rfl ?_
  refine zr_getr hG 0 25 dX9_layDay_33 rfl wf_X9_50 rfl ?_
  refine zr_iload_n hB 2 dX9_layDay_36 rfl ?_
  refine zr_aload_n hB 1 dX9_layDay_37 rfl ?_
  refine zr_getr hG 0 26 dX9_layDay_38 rfl wf_X9_53 rfl ?_
  refine zr_iload_n hB 2 dX9_layDay_41 rfl ?_
  refine zr_zald hG 15 dX9_layDay_42 rfl (by omega) (by omega) (fun x22 ex22 => ?_)
  obtain rfl : c20 = x22 := (ex22.trans (zc_us _ _ _ _)).symm
  refine zr_if_eq hB dX9_layDay_43 (tgt := 53) rfl (fun c23 => ?_) (fun c23 => ?_)
  · exfalso; omega
  refine zr_iload hB 0 dX9_layDay_46 rfl ?_
  refine zr_iload_n hB 3 dX9_layDay_48 rfl ?_
  refine zr_isub hB dX9_layDay_49 (by omega) (by omega) (fun x24 ex24 => ?_)
  refine zr_goto hB dX9_layDay_50 (tgt := 54) rfl ?_
  refine zr_iast hG 14 dX9_layDay_54 rfl (by omega) (by omega)  ?_
  have hOw25 := zc_O.u hOw21 14 p1.toInt.toNat (v := x24) (show (-999) ≤ x24.toInt by omega) (show x24.toInt ≤ 999 by omega) (Or.inr (show (-999) ≤ x24.toInt by omega))
  have hAw25 := zc_Ag.u hAw21 14 p1.toInt.toNat x24 rfl
  exact zr_vret hG dX9_layDay_55 ⟨hOw25, hAw25⟩

def m_M_layMisses : zc_ms := [(14, none), (15, none)]
set_option maxHeartbeats 1000000 in
set_option maxRecDepth 100000 in
theorem c_M_layMisses (K : zc_K) (hi : zc_inj shM K.2.2.2.1) (σ0 : zc_S) (p1 : Int32) (p2 : Int32) (p3 : Int32) (p4 : Int32) (p5 : Int32) (hO0 : zc_O okM σ0) (h1a : 0 ≤ p1.toInt) (h1b : p1.toInt ≤ 3) (h2a : 0 ≤ p2.toInt) (h2b : p2.toInt ≤ 5) (h3a : 1 ≤ p3.toInt) (h3b : p3.toInt ≤ 14) (h4a : 0 ≤ p4.toInt) (h4b : p4.toInt ≤ 63) (h5a : 0 ≤ p5.toInt) (h5b : p5.toInt ≤ 63) (hx0 : p2.toInt < (σ0.1 0 17).toInt) (hT : zm_T σ0) : zc_M shM K yX9_layMisses cX9_layMisses 7 none (zrm 8 208) σ0 [.ref (zk K 0), .int p1, .int p2, .int p3, .int p4, .int p5] (zc_N (fun σ9 => zc_O okM σ9 ∧ zc_Ag m_M_layMisses σ0 σ9)) := by
  refine zc_start RX9 hi pfX9_layMisses rfl (Nat.le_of_ble_eq_true rfl) ?_
  intro G hG
  have hB := hG.1
  have hA0 : zc_Ag m_M_layMisses σ0 σ0 := zc_Ag.rf
  show zc_V 7 K G (zc_D shM K G σ0) [(0, .ref (zk K 0)), (1, .int p1), (2, .int p2), (3, .int p3), (4, .int p4), (5, .int p5)] 0 []
  have bw0_17 : 0 ≤ (σ0.1 0 17).toInt ∧ (σ0.1 0 17).toInt ≤ 6 := ⟨(hO0 0 17).1, (hO0 0 17).2.1⟩
  refine zr_iload hB 4 dX9_layMisses_0 rfl ?_
  refine zr_istore hB dX9_layMisses_2 (by decide) (lv' := [(6, .int p4), (0, .ref (zk K 0)), (1, .int p1), (2, .int p2), (3, .int p3), (4, .int p4), (5, .int p5)]) rfl ?_
  have L4_4 : ∀ (n4 : Nat) (σ2 : zc_S) (y6_1 : Int32), zc_O okM σ2 → zc_Ag m_M_layMisses σ0 σ2 → 0 ≤ y6_1.toInt → y6_1.toInt ≤ 64 → p2.toInt < (σ2.1 0 17).toInt → 64 - y6_1.toInt < (n4 : Int) → zc_V 7 K G (zc_D shM K G σ2) [(0, .ref (zk K 0)), (1, .int p1), (2, .int p2), (3, .int p3), (4, .int p4), (5, .int p5), (6, .int y6_1)] 4 [] := by
    intro n4
    induction n4 with
    | zero => intro σ2 y6_1 hO2 hA2 y6_1a y6_1b e3 hn4; exfalso; omega
    | succ n4 ih4 =>
      intro σ2 y6_1 hO2 hA2 y6_1a y6_1b e3 hn4
      refine zr_iload hB 6 dX9_layMisses_4 rfl ?_
      refine zr_iload hB 5 dX9_layMisses_6 rfl ?_
      refine zr_icmp_gt hB dX9_layMisses_8 (tgt := 56) rfl (fun c5 => ?_) (fun c5 => ?_)
      · exact zr_vret hG dX9_layMisses_56 ⟨hO2, hA2⟩
      refine zr_aload_n hB 0 dX9_layMisses_11 rfl ?_
      refine zr_iload hB 6 dX9_layMisses_12 rfl ?_
      refine zr_iload hB 6 dX9_layMisses_14 rfl ?_
      refine zr_iload_n hB 3 dX9_layMisses_16 rfl ?_
      refine zr_icmp_lt hB dX9_layMisses_17 (tgt := 31) rfl (fun c6 => ?_) (fun c6 => ?_)
      · refine zr_iconst hB dX9_layMisses_31 rfl (fun c7 ec7 => ?_)
        refine zr_goto hB dX9_layMisses_32 (tgt := 46) rfl ?_
        refine zr_iload_n hB 1 dX9_layMisses_46 rfl ?_
        refine zr_callvn hG (rest := []) 0 dX9_layMisses_47 wm_X9_225 rfl rfl (c_M_layDay K hG.2.2.2.2.2.1 σ2 y6_1 c7 p1 hO2 (by omega) (by omega) (by omega) (by omega) (by omega) (by omega)) rfl rfl (Nat.le_of_ble_eq_true rfl) ⟨Nat.le_of_ble_eq_true rfl, Nat.le_of_ble_eq_true rfl, rfl, rfl⟩ (fun σ9 h10 => ?_)
        obtain ⟨hO11, hAc12⟩ := h10
        have hA13 := zc_Ag.tr hA2 hAc12 rfl
        have q14 : (σ9.1 0 17).toInt = (σ2.1 0 17).toInt := congrArg Int32.toInt (hAc12 0 17 rfl).1
        refine zr_iinc hB 6 dX9_layMisses_50 rfl (by decide) rfl (by omega) (by omega) (fun x15 ex15 lv' hlv => ?_)
        obtain rfl : [(6, .int x15), (0, .ref (zk K 0)), (1, .int p1), (2, .int p2), (3, .int p3), (4, .int p4), (5, .int p5)] = lv' := hlv
        refine zr_goto hB dX9_layMisses_53 (tgt := 4) rfl ?_
        have b16 : 0 ≤ (σ9.1 0 17).toInt ∧ (σ9.1 0 17).toInt ≤ 6 := ⟨(hO11 0 17).1, (hO11 0 17).2.1⟩
        exact zc_sub [1, 2, 3, 4, 5, 6, 0] rfl (ih4 σ9 x15 hO11 hA13 (by omega) (by omega) (show p2.toInt < (σ9.1 0 17).toInt by omega) (by omega))
      refine zr_iload hB 6 dX9_layMisses_20 rfl ?_
      refine zr_iload_n hB 3 dX9_layMisses_22 rfl ?_
      refine zr_isub hB dX9_layMisses_23 (by omega) (by omega) (fun x17 ex17 => ?_)
      refine zr_aload_n hB 0 dX9_layMisses_24 rfl ?_
      refine zr_geti' hG 0 1 (σ2.1 0 1) dX9_layMisses_25 rfl wf_X9_101 rfl rfl ?_
      have b18 : 0 ≤ (σ2.1 0 1).toInt ∧ (σ2.1 0 1).toInt ≤ 63 := ⟨(hO2 0 1).1, (hO2 0 1).2.1⟩
      refine zr_icmp_le hB dX9_layMisses_28 (tgt := 35) rfl (fun c19 => ?_) (fun c19 => ?_)
      · refine zr_aload_n hB 0 dX9_layMisses_35 rfl ?_
        refine zr_iload_n hB 2 dX9_layMisses_36 rfl ?_
        refine zr_iload_n hB 1 dX9_layMisses_37 rfl ?_
        refine zr_iload hB 6 dX9_layMisses_38 rfl ?_
        refine zr_iload_n hB 3 dX9_layMisses_40 rfl ?_
        refine zr_isub hB dX9_layMisses_41 (by omega) (by omega) (fun x20 ex20 => ?_)
        refine zr_iload_n hB 3 dX9_layMisses_42 rfl ?_
        refine zr_callvi hG (rest := [.int y6_1, .ref (zk K 0)]) 0 dX9_layMisses_43 wm_X9_222 rfl rfl (c_M_tellBy K hG.2.2.2.2.2.1 σ2 p2 p1 x20 p3 hO2 (by omega) (by omega) (by omega) (by omega) (by omega) (by omega) (by omega) (by omega) (by omega) (zm_T.ag hT hA2 rfl (fun _ => rfl) (fun _ => rfl))) rfl rfl (Nat.le_of_ble_eq_true rfl) ⟨Nat.le_of_ble_eq_true rfl, Nat.le_of_ble_eq_true rfl, rfl, rfl⟩ (fun r21 σ22 h23 => ?_)
        obtain ⟨rfl, r21a, r21b⟩ := h23
        refine zr_iload_n hB 1 dX9_layMisses_46 rfl ?_
        refine zr_callvn hG (rest := []) 0 dX9_layMisses_47 wm_X9_225 rfl rfl (c_M_layDay K hG.2.2.2.2.2.1 σ2 y6_1 r21 p1 hO2 (by omega) (by omega) (by omega) (by omega) (by omega) (by omega)) rfl rfl (Nat.le_of_ble_eq_true rfl) ⟨Nat.le_of_ble_eq_true rfl, Nat.le_of_ble_eq_true rfl, rfl, rfl⟩ (fun σ25 h26 => ?_)
        obtain ⟨hO27, hAc28⟩ := h26
        have hA29 := zc_Ag.tr hA2 hAc28 rfl
        have q30 : (σ25.1 0 17).toInt = (σ2.1 0 17).toInt := congrArg Int32.toInt (hAc28 0 17 rfl).1
        have q31 : (σ25.1 0 1).toInt = (σ2.1 0 1).toInt := congrArg Int32.toInt (hAc28 0 1 rfl).1
        refine zr_iinc hB 6 dX9_layMisses_50 rfl (by decide) rfl (by omega) (by omega) (fun x32 ex32 lv' hlv => ?_)
        obtain rfl : [(6, .int x32), (0, .ref (zk K 0)), (1, .int p1), (2, .int p2), (3, .int p3), (4, .int p4), (5, .int p5)] = lv' := hlv
        refine zr_goto hB dX9_layMisses_53 (tgt := 4) rfl ?_
        have b33 : 0 ≤ (σ25.1 0 17).toInt ∧ (σ25.1 0 17).toInt ≤ 6 := ⟨(hO27 0 17).1, (hO27 0 17).2.1⟩
        exact zc_sub [1, 2, 3, 4, 5, 6, 0] rfl (ih4 σ25 x32 hO27 hA29 (by omega) (by omega) (show p2.toInt < (σ25.1 0 17).toInt by omega) (by omega))
      refine zr_iconst hB dX9_layMisses_31 rfl (fun c34 ec34 => ?_)
      refine zr_goto hB dX9_layMisses_32 (tgt := 46) rfl ?_
      refine zr_iload_n hB 1 dX9_layMisses_46 rfl ?_
      refine zr_callvn hG (rest := []) 0 dX9_layMisses_47 wm_X9_225 rfl rfl (c_M_layDay K hG.2.2.2.2.2.1 σ2 y6_1 c34 p1 hO2 (by omega) (by omega) (by omega) (by omega) (by omega) (by omega)) rfl rfl (Nat.le_of_ble_eq_true rfl) ⟨Nat.le_of_ble_eq_true rfl, Nat.le_of_ble_eq_true rfl, rfl, rfl⟩ (fun σ36 h37 => ?_)
      obtain ⟨hO38, hAc39⟩ := h37
      have hA40 := zc_Ag.tr hA2 hAc39 rfl
      have q41 : (σ36.1 0 17).toInt = (σ2.1 0 17).toInt := congrArg Int32.toInt (hAc39 0 17 rfl).1
      have q42 : (σ36.1 0 1).toInt = (σ2.1 0 1).toInt := congrArg Int32.toInt (hAc39 0 1 rfl).1
      refine zr_iinc hB 6 dX9_layMisses_50 rfl (by decide) rfl (by omega) (by omega) (fun x43 ex43 lv' hlv => ?_)
      obtain rfl : [(6, .int x43), (0, .ref (zk K 0)), (1, .int p1), (2, .int p2), (3, .int p3), (4, .int p4), (5, .int p5)] = lv' := hlv
      refine zr_goto hB dX9_layMisses_53 (tgt := 4) rfl ?_
      have b44 : 0 ≤ (σ36.1 0 17).toInt ∧ (σ36.1 0 17).toInt ≤ 6 := ⟨(hO38 0 17).1, (hO38 0 17).2.1⟩
      exact zc_sub [1, 2, 3, 4, 5, 6, 0] rfl (ih4 σ36 x43 hO38 hA40 (by omega) (by omega) (show p2.toInt < (σ36.1 0 17).toInt by omega) (by omega))
  exact zc_sub [1, 2, 3, 4, 5, 6, 0] rfl (L4_4 66 σ0 p4 hO0 hA0 (by omega) (by omega) (show p2.toInt < (σ0.1 0 17).toInt by omega) (by omega))

set_option maxHeartbeats 1000000 in
set_option maxRecDepth 100000 in
theorem c_M_isAsked (K : zc_K) (hi : zc_inj shM K.2.2.2.1) (σ0 : zc_S) (p1 : Int32) (p2 : Int32) (p3 : Int32) (p4 : Int32) (p5 : Int32) (hO0 : zc_O okM σ0)  : zc_M shM K yX9_isAsked cX9_isAsked 6 (some .boolean) (zrm 3 66) σ0 [.ref (zk K 0), .int p1, .int p2, .int p3, .int p4, .int p5] (zc_I (fun r9 σ9 => σ0 = σ9 ∧ zc_if r9 (0 ≤ p1.toInt ∧ p1.toInt ≤ 3 ∧ 0 ≤ p2.toInt ∧ p2.toInt < (σ0.1 0 17).toInt ∧ p2.toInt ≤ 5 ∧ 1 ≤ p3.toInt ∧ p3.toInt ≤ 14 ∧ 0 ≤ p4.toInt ∧ p4.toInt ≤ p5.toInt ∧ p5.toInt ≤ 63 ∧ p4.toInt ≤ 63 ∧ 0 ≤ p5.toInt))) := by
  refine zc_start RX9 hi pfX9_isAsked rfl (Nat.le_of_ble_eq_true rfl) ?_
  intro G hG
  have hB := hG.1
  show zc_V 6 K G (zc_D shM K G σ0) [(0, .ref (zk K 0)), (1, .int p1), (2, .int p2), (3, .int p3), (4, .int p4), (5, .int p5)] 0 []
  have bw0_17 : 0 ≤ (σ0.1 0 17).toInt ∧ (σ0.1 0 17).toInt ≤ 6 := ⟨(hO0 0 17).1, (hO0 0 17).2.1⟩
  refine zr_iload_n hB 1 dX9_isAsked_0 rfl ?_
  refine zr_callsi hG (rest := []) dX9_isAsked_1 wm_X9_108 (c_M_isShop K hG.2.2.2.2.2.1 σ0 p1 hO0 ) rfl rfl (Nat.le_of_ble_eq_true rfl) ⟨Nat.le_of_ble_eq_true rfl, Nat.le_of_ble_eq_true rfl, rfl, rfl⟩ (fun r1 σ2 h3 => ?_)
  obtain ⟨rfl, r1q⟩ := h3
  have r1z := r1q.b
  refine zr_if_eq hB dX9_isAsked_4 (tgt := 36) rfl (fun c4 => ?_) (fun c4 => ?_)
  · have q5 := r1q.f c4
    refine zr_iconst hB dX9_isAsked_36 rfl (fun c6 ec6 => ?_)
    exact zr_zret hG dX9_isAsked_37 (by omega) (by omega) ⟨rfl, zc_if.mf (by omega) (by omega)⟩
  have q7 := r1q.t c4
  refine zr_aload_n hB 0 dX9_isAsked_7 rfl ?_
  refine zr_iload_n hB 2 dX9_isAsked_8 rfl ?_
  refine zr_callvi hG (rest := []) 0 dX9_isAsked_9 wm_X9_184 rfl rfl (c_M_isTeller K hG.2.2.2.2.2.1 σ0 p2 hO0 ) rfl rfl (Nat.le_of_ble_eq_true rfl) ⟨Nat.le_of_ble_eq_true rfl, Nat.le_of_ble_eq_true rfl, rfl, rfl⟩ (fun r8 σ9 h10 => ?_)
  obtain ⟨rfl, r8q⟩ := h10
  have r8z := r8q.b
  refine zr_if_eq hB dX9_isAsked_12 (tgt := 36) rfl (fun c11 => ?_) (fun c11 => ?_)
  · have q12 := r8q.f c11
    refine zr_iconst hB dX9_isAsked_36 rfl (fun c13 ec13 => ?_)
    exact zr_zret hG dX9_isAsked_37 (by omega) (by omega) ⟨rfl, zc_if.mf (by omega) (by omega)⟩
  have q14 := r8q.t c11
  refine zr_iload_n hB 3 dX9_isAsked_15 rfl ?_
  refine zr_callsi hG (rest := []) dX9_isAsked_16 wm_X9_219 (c_M_isAhead K hG.2.2.2.2.2.1 σ0 p3 hO0 ) rfl rfl (Nat.le_of_ble_eq_true rfl) ⟨Nat.le_of_ble_eq_true rfl, Nat.le_of_ble_eq_true rfl, rfl, rfl⟩ (fun r15 σ16 h17 => ?_)
  obtain ⟨rfl, r15q⟩ := h17
  have r15z := r15q.b
  refine zr_if_eq hB dX9_isAsked_19 (tgt := 36) rfl (fun c18 => ?_) (fun c18 => ?_)
  · have q19 := r15q.f c18
    refine zr_iconst hB dX9_isAsked_36 rfl (fun c20 ec20 => ?_)
    exact zr_zret hG dX9_isAsked_37 (by omega) (by omega) ⟨rfl, zc_if.mf (by omega) (by omega)⟩
  have q21 := r15q.t c18
  refine zr_iload hB 4 dX9_isAsked_22 rfl ?_
  refine zr_iload hB 5 dX9_isAsked_24 rfl ?_
  refine zr_callsi hG (rest := []) dX9_isAsked_26 wm_X9_228 (c_M_areDays K hG.2.2.2.2.2.1 σ0 p4 p5 hO0 ) rfl rfl (Nat.le_of_ble_eq_true rfl) ⟨Nat.le_of_ble_eq_true rfl, Nat.le_of_ble_eq_true rfl, rfl, rfl⟩ (fun r22 σ23 h24 => ?_)
  obtain ⟨rfl, r22q⟩ := h24
  have r22z := r22q.b
  refine zr_if_eq hB dX9_isAsked_29 (tgt := 36) rfl (fun c25 => ?_) (fun c25 => ?_)
  · have q26 := r22q.f c25
    refine zr_iconst hB dX9_isAsked_36 rfl (fun c27 ec27 => ?_)
    exact zr_zret hG dX9_isAsked_37 (by omega) (by omega) ⟨rfl, zc_if.mf (by omega) (by omega)⟩
  have q28 := r22q.t c25
  refine zr_iconst hB dX9_isAsked_32 rfl (fun c29 ec29 => ?_)
  refine zr_goto hB dX9_isAsked_33 (tgt := 37) rfl ?_
  exact zr_zret hG dX9_isAsked_37 (by omega) (by omega) ⟨rfl, zc_if.mt (by omega) (by omega)⟩

def m_M_miss : zc_ms := [(14, none), (15, none)]
set_option maxHeartbeats 1000000 in
set_option maxRecDepth 100000 in
theorem c_M_miss (K : zc_K) (hi : zc_inj shM K.2.2.2.1) (σ0 : zc_S) (p1 : Int32) (p2 : Int32) (p3 : Int32) (p4 : Int32) (hO0 : zc_O okM σ0) (hT : zm_T σ0) : zc_M shM K yX9_miss cX9_miss 5 (some .int) (zrm 9 234) σ0 [.ref (zk K 0), .int p1, .int p2, .int p3, .int p4] (zc_I (fun r9 σ9 => zc_O okM σ9 ∧ zc_Ag m_M_miss σ0 σ9)) := by
  refine zc_start RX9 hi pfX9_miss rfl (Nat.le_of_ble_eq_true rfl) ?_
  intro G hG
  have hB := hG.1
  have hA0 : zc_Ag m_M_miss σ0 σ0 := zc_Ag.rf
  show zc_V 5 K G (zc_D shM K G σ0) [(0, .ref (zk K 0)), (1, .int p1), (2, .int p2), (3, .int p3), (4, .int p4)] 0 []
  have bw0_17 : 0 ≤ (σ0.1 0 17).toInt ∧ (σ0.1 0 17).toInt ≤ 6 := ⟨(hO0 0 17).1, (hO0 0 17).2.1⟩
  refine zr_aload_n hB 0 dX9_miss_0 rfl ?_
  refine zr_iload_n hB 1 dX9_miss_1 rfl ?_
  refine zr_iload_n hB 2 dX9_miss_2 rfl ?_
  refine zr_iload_n hB 3 dX9_miss_3 rfl ?_
  refine zr_iload hB 4 dX9_miss_4 rfl ?_
  refine zr_iload hB 4 dX9_miss_6 rfl ?_
  refine zr_callvi hG (rest := []) 0 dX9_miss_8 wm_X9_232 rfl rfl (c_M_isAsked K hG.2.2.2.2.2.1 σ0 p1 p2 p3 p4 p4 hO0 ) rfl rfl (Nat.le_of_ble_eq_true rfl) ⟨Nat.le_of_ble_eq_true rfl, Nat.le_of_ble_eq_true rfl, rfl, rfl⟩ (fun r1 σ2 h3 => ?_)
  obtain ⟨rfl, r1q⟩ := h3
  have r1z := r1q.b
  refine zr_if_ne hB dX9_miss_11 (tgt := 16) rfl (fun c4 => ?_) (fun c4 => ?_)
  · have q5 := r1q.t c4
    refine zr_aload_n hB 0 dX9_miss_16 rfl ?_
    refine zr_iload_n hB 1 dX9_miss_17 rfl ?_
    refine zr_iload_n hB 2 dX9_miss_18 rfl ?_
    refine zr_iload_n hB 3 dX9_miss_19 rfl ?_
    refine zr_iload hB 4 dX9_miss_20 rfl ?_
    refine zr_iload hB 4 dX9_miss_22 rfl ?_
    refine zr_callvn hG (rest := []) 0 dX9_miss_24 wm_X9_236 rfl rfl (c_M_layMisses K hG.2.2.2.2.2.1 σ0 p1 p2 p3 p4 p4 hO0 (by omega) (by omega) (by omega) (by omega) (by omega) (by omega) (by omega) (by omega) (by omega) (by omega) (by omega) hT) rfl rfl (Nat.le_of_ble_eq_true rfl) ⟨Nat.le_of_ble_eq_true rfl, Nat.le_of_ble_eq_true rfl, rfl, rfl⟩ (fun σ7 h8 => ?_)
    obtain ⟨hO9, hAc10⟩ := h8
    have hA11 := zc_Ag.tr hA0 hAc10 rfl
    have q12 : (σ7.1 0 17).toInt = (σ0.1 0 17).toInt := congrArg Int32.toInt (hAc10 0 17 rfl).1
    refine zr_aload_n hB 0 dX9_miss_27 rfl ?_
    refine zr_getr hG 0 26 dX9_miss_28 rfl wf_X9_53 rfl ?_
    refine zr_iload hB 4 dX9_miss_31 rfl ?_
    refine zr_zald hG 15 dX9_miss_33 rfl (by omega) (by omega) (fun x13 ex13 => ?_)
    have bx13 : 0 ≤ x13.toInt ∧ x13.toInt ≤ 1 := by rw [ex13]; exact ⟨(hO9 15 _).1, (hO9 15 _).2.1⟩
    refine zr_if_eq hB dX9_miss_34 (tgt := 50) rfl (fun c14 => ?_) (fun c14 => ?_)
    · refine zr_bipush hB dX9_miss_50 rfl (fun c15 ec15 => ?_)
      exact zr_iret hG dX9_miss_52 ⟨hO9, hA11⟩
    refine zr_aload_n hB 0 dX9_miss_37 rfl ?_
    refine zr_getr hG 0 25 dX9_miss_38 rfl wf_X9_50 rfl ?_
    refine zr_iload hB 4 dX9_miss_41 rfl ?_
    refine zr_iald hG 14 dX9_miss_43 rfl (by omega) (by omega) (fun x16 ex16 => ?_)
    have bx16 : (-999) ≤ x16.toInt ∧ x16.toInt ≤ 999 := by rw [ex16]; exact ⟨(hO9 14 _).1, (hO9 14 _).2.1⟩
    refine zr_callsi hG (rest := []) dX9_miss_44 wm_X9_240 (c_M_size K hG.2.2.2.2.2.1 σ7 x16 hO9 (by omega)) rfl rfl (Nat.le_of_ble_eq_true rfl) ⟨Nat.le_of_ble_eq_true rfl, Nat.le_of_ble_eq_true rfl, rfl, rfl⟩ (fun r17 σ18 h19 => ?_)
    obtain ⟨rfl, r17a, g20⟩ := h19
    refine zr_goto hB dX9_miss_47 (tgt := 52) rfl ?_
    exact zr_iret hG dX9_miss_52 ⟨hO9, hA11⟩
  have q21 := r1q.f c4
  refine zr_iconst hB dX9_miss_14 rfl (fun c22 ec22 => ?_)
  exact zr_iret hG dX9_miss_15 ⟨hO0, hA0⟩

set_option maxHeartbeats 1000000 in
set_option maxRecDepth 100000 in
theorem c_M_manyIn (K : zc_K) (hi : zc_inj shM K.2.2.2.1) (σ0 : zc_S) (p1 : Int32) (p2 : Int32) (hO0 : zc_O okM σ0) (h1a : 0 ≤ p1.toInt) (h1b : p1.toInt ≤ 63) (h2a : (-14) ≤ p2.toInt) (h2b : p2.toInt ≤ 63) : zc_M shM K yX9_manyIn cX9_manyIn 5 (some .int) (zrm 0 0) σ0 [.ref (zk K 0), .int p1, .int p2] (zc_I (fun r9 σ9 => σ0 = σ9 ∧ 0 ≤ r9.toInt ∧ r9.toInt ≤ 64 ∧ r9.toInt = zm_mn σ0 p1.toInt (p2.toInt + 1 - p1.toInt).toNat)) := by
  refine zc_start RX9 hi pfX9_manyIn rfl (Nat.le_of_ble_eq_true rfl) ?_
  intro G hG
  have hB := hG.1
  show zc_V 5 K G (zc_D shM K G σ0) [(0, .ref (zk K 0)), (1, .int p1), (2, .int p2)] 0 []
  refine zr_iconst hB dX9_manyIn_0 rfl (fun c1 ec1 => ?_)
  refine zr_istore_n hB dX9_manyIn_1 rfl (by decide) (lv' := [(3, .int c1), (0, .ref (zk K 0)), (1, .int p1), (2, .int p2)]) rfl ?_
  refine zr_iload_n hB 2 dX9_manyIn_2 rfl ?_
  refine zr_istore hB dX9_manyIn_3 (by decide) (lv' := [(4, .int p1), (3, .int c1), (0, .ref (zk K 0)), (1, .int p1), (2, .int p2)]) rfl ?_
  have L5_7 : ∀ (n5 : Nat) (y3_2 : Int32) (y4_3 : Int32), 0 ≤ y3_2.toInt → y3_2.toInt ≤ 64 → 0 ≤ y4_3.toInt → y4_3.toInt ≤ 64 → y3_2.toInt ≤ y4_3.toInt → p1.toInt ≤ y4_3.toInt → ((y4_3.toInt = p1.toInt ∨ y4_3.toInt ≤ p2.toInt + 1)) → y3_2.toInt = zm_mn σ0 p1.toInt (y4_3.toInt - p1.toInt).toNat → 64 - y4_3.toInt < (n5 : Int) → zc_V 5 K G (zc_D shM K G σ0) [(0, .ref (zk K 0)), (1, .int p1), (2, .int p2), (3, .int y3_2), (4, .int y4_3)] 5 [] := by
    intro n5
    induction n5 with
    | zero => intro y3_2 y4_3 y3_2a y3_2b y4_3a y4_3b e4 e5 e6 hcn hn5; exfalso; omega
    | succ n5 ih5 =>
      intro y3_2 y4_3 y3_2a y3_2b y4_3a y4_3b e4 e5 e6 hcn hn5
      refine zr_iload hB 4 dX9_manyIn_5 rfl ?_
      refine zr_iload_n hB 2 dX9_manyIn_7 rfl ?_
      refine zr_icmp_gt hB dX9_manyIn_8 (tgt := 35) rfl (fun c8 => ?_) (fun c8 => ?_)
      · refine zr_iload_n hB 3 dX9_manyIn_35 rfl ?_
        exact zr_iret hG dX9_manyIn_36 ⟨rfl, by omega, by omega, (show y3_2.toInt = zm_mn σ0 p1.toInt (p2.toInt + 1 - p1.toInt).toNat by rw [hcn, show (p2.toInt + 1 - p1.toInt).toNat = (y4_3.toInt - p1.toInt).toNat by omega])⟩
      refine zr_iload_n hB 3 dX9_manyIn_11 rfl ?_
      refine zr_aload_n hB 0 dX9_manyIn_12 rfl ?_
      refine zr_getr hG 0 26 dX9_manyIn_13 rfl wf_X9_53 rfl ?_
      refine zr_iload hB 4 dX9_manyIn_16 rfl ?_
      refine zr_zald hG 15 dX9_manyIn_18 rfl (by omega) (by omega) (fun x9 ex9 => ?_)
      have bx9 : 0 ≤ x9.toInt ∧ x9.toInt ≤ 1 := by rw [ex9]; exact ⟨(hO0 15 _).1, (hO0 15 _).2.1⟩
      refine zr_if_eq hB dX9_manyIn_19 (tgt := 26) rfl (fun c10 => ?_) (fun c10 => ?_)
      · refine zr_iconst hB dX9_manyIn_26 rfl (fun c11 ec11 => ?_)
        refine zr_iadd hB dX9_manyIn_27 (by omega) (by omega) (fun x12 ex12 => ?_)
        refine zr_istore_n hB dX9_manyIn_28 rfl (by decide) (lv' := [(3, .int x12), (0, .ref (zk K 0)), (1, .int p1), (2, .int p2), (4, .int y4_3)]) rfl ?_
        refine zr_iinc hB 4 dX9_manyIn_29 rfl (by decide) rfl (by omega) (by omega) (fun x13 ex13 lv' hlv => ?_)
        obtain rfl : [(4, .int x13), (3, .int x12), (0, .ref (zk K 0)), (1, .int p1), (2, .int p2)] = lv' := hlv
        refine zr_goto hB dX9_manyIn_32 (tgt := 5) rfl ?_
        exact zc_sub [2, 3, 4, 1, 0] rfl (ih5 x12 x13 (by omega) (by omega) (by omega) (by omega) (show x12.toInt ≤ x13.toInt by omega) (show p1.toInt ≤ x13.toInt by omega) (show (x13.toInt = p1.toInt ∨ x13.toInt ≤ p2.toInt + 1) by omega) (show x12.toInt = zm_mn σ0 p1.toInt (x13.toInt - p1.toInt).toNat by rw [zm_mn_s σ0 p1.toInt (n := (y4_3.toInt - p1.toInt).toNat) (by omega), show (p1.toInt + ((y4_3.toInt - p1.toInt).toNat : Int)).toNat = y4_3.toInt.toNat by omega, ← ex9]; split <;> omega) (by omega))
      refine zr_iconst hB dX9_manyIn_22 rfl (fun c14 ec14 => ?_)
      refine zr_goto hB dX9_manyIn_23 (tgt := 27) rfl ?_
      refine zr_iadd hB dX9_manyIn_27 (by omega) (by omega) (fun x15 ex15 => ?_)
      refine zr_istore_n hB dX9_manyIn_28 rfl (by decide) (lv' := [(3, .int x15), (0, .ref (zk K 0)), (1, .int p1), (2, .int p2), (4, .int y4_3)]) rfl ?_
      refine zr_iinc hB 4 dX9_manyIn_29 rfl (by decide) rfl (by omega) (by omega) (fun x16 ex16 lv' hlv => ?_)
      obtain rfl : [(4, .int x16), (3, .int x15), (0, .ref (zk K 0)), (1, .int p1), (2, .int p2)] = lv' := hlv
      refine zr_goto hB dX9_manyIn_32 (tgt := 5) rfl ?_
      exact zc_sub [2, 3, 4, 1, 0] rfl (ih5 x15 x16 (by omega) (by omega) (by omega) (by omega) (show x15.toInt ≤ x16.toInt by omega) (show p1.toInt ≤ x16.toInt by omega) (show (x16.toInt = p1.toInt ∨ x16.toInt ≤ p2.toInt + 1) by omega) (show x15.toInt = zm_mn σ0 p1.toInt (x16.toInt - p1.toInt).toNat by rw [zm_mn_s σ0 p1.toInt (n := (y4_3.toInt - p1.toInt).toNat) (by omega), show (p1.toInt + ((y4_3.toInt - p1.toInt).toNat : Int)).toNat = y4_3.toInt.toNat by omega, ← ex9]; split <;> omega) (by omega))
  exact zc_sub [2, 3, 4, 1, 0] rfl (L5_7 66 c1 p1 (by omega) (by omega) (by omega) (by omega) (show c1.toInt ≤ p1.toInt by omega) (show p1.toInt ≤ p1.toInt by omega) (show (p1.toInt = p1.toInt ∨ p1.toInt ≤ p2.toInt + 1) by omega) (show c1.toInt = zm_mn σ0 p1.toInt (p1.toInt - p1.toInt).toNat by rw [show (p1.toInt - p1.toInt).toNat = 0 by omega]; show c1.toInt = 0; omega) (by omega))

set_option maxHeartbeats 1000000 in
set_option maxRecDepth 100000 in
theorem c_M_sumIn (K : zc_K) (hi : zc_inj shM K.2.2.2.1) (σ0 : zc_S) (p1 : Int32) (p2 : Int32) (hO0 : zc_O okM σ0) (h1a : 0 ≤ p1.toInt) (h1b : p1.toInt ≤ 63) (h2a : (-14) ≤ p2.toInt) (h2b : p2.toInt ≤ 63) : zc_M shM K yX9_sumIn cX9_sumIn 5 (some .int) (zrm 1 20) σ0 [.ref (zk K 0), .int p1, .int p2] (zc_I (fun r9 σ9 => σ0 = σ9)) := by
  refine zc_start RX9 hi pfX9_sumIn rfl (Nat.le_of_ble_eq_true rfl) ?_
  intro G hG
  have hB := hG.1
  show zc_V 5 K G (zc_D shM K G σ0) [(0, .ref (zk K 0)), (1, .int p1), (2, .int p2)] 0 []
  refine zr_iconst hB dX9_sumIn_0 rfl (fun c1 ec1 => ?_)
  refine zr_istore_n hB dX9_sumIn_1 rfl (by decide) (lv' := [(3, .int c1), (0, .ref (zk K 0)), (1, .int p1), (2, .int p2)]) rfl ?_
  refine zr_iload_n hB 2 dX9_sumIn_2 rfl ?_
  refine zr_istore hB dX9_sumIn_3 (by decide) (lv' := [(4, .int p1), (3, .int c1), (0, .ref (zk K 0)), (1, .int p1), (2, .int p2)]) rfl ?_
  have L5_4 : ∀ (n5 : Nat) (y3_2 : Int32) (y4_3 : Int32), 0 ≤ y4_3.toInt → y4_3.toInt ≤ 64 → 64 - y4_3.toInt < (n5 : Int) → zc_V 5 K G (zc_D shM K G σ0) [(0, .ref (zk K 0)), (1, .int p1), (2, .int p2), (3, .int y3_2), (4, .int y4_3)] 5 [] := by
    intro n5
    induction n5 with
    | zero => intro y3_2 y4_3 y4_3a y4_3b hn5; have vy3_2 := And.intro (zn_lo y3_2) (zn_hi y3_2); exfalso; omega
    | succ n5 ih5 =>
      intro y3_2 y4_3 y4_3a y4_3b hn5
      have vy3_2 := And.intro (zn_lo y3_2) (zn_hi y3_2)
      refine zr_iload hB 4 dX9_sumIn_5 rfl ?_
      refine zr_iload_n hB 2 dX9_sumIn_7 rfl ?_
      refine zr_icmp_gt hB dX9_sumIn_8 (tgt := 30) rfl (fun c5 => ?_) (fun c5 => ?_)
      · refine zr_iload_n hB 3 dX9_sumIn_30 rfl ?_
        exact zr_iret hG dX9_sumIn_31 rfl
      refine zr_iload_n hB 3 dX9_sumIn_11 rfl ?_
      refine zr_aload_n hB 0 dX9_sumIn_12 rfl ?_
      refine zr_getr hG 0 25 dX9_sumIn_13 rfl wf_X9_50 rfl ?_
      refine zr_iload hB 4 dX9_sumIn_16 rfl ?_
      refine zr_iald hG 14 dX9_sumIn_18 rfl (by omega) (by omega) (fun x6 ex6 => ?_)
      have bx6 : (-999) ≤ x6.toInt ∧ x6.toInt ≤ 999 := by rw [ex6]; exact ⟨(hO0 14 _).1, (hO0 14 _).2.1⟩
      refine zr_callsi hG (rest := [.int y3_2]) dX9_sumIn_19 wm_X9_240 (c_M_size K hG.2.2.2.2.2.1 σ0 x6 hO0 (by omega)) rfl rfl (Nat.le_of_ble_eq_true rfl) ⟨Nat.le_of_ble_eq_true rfl, Nat.le_of_ble_eq_true rfl, rfl, rfl⟩ (fun r7 σ8 h9 => ?_)
      obtain ⟨rfl, r7a, g10⟩ := h9
      refine zr_iaddw hB dX9_sumIn_22 (fun x11 ex11 => ?_)
      refine zr_istore_n hB dX9_sumIn_23 rfl (by decide) (lv' := [(3, .int x11), (0, .ref (zk K 0)), (1, .int p1), (2, .int p2), (4, .int y4_3)]) rfl ?_
      refine zr_iinc hB 4 dX9_sumIn_24 rfl (by decide) rfl (by omega) (by omega) (fun x12 ex12 lv' hlv => ?_)
      obtain rfl : [(4, .int x12), (3, .int x11), (0, .ref (zk K 0)), (1, .int p1), (2, .int p2)] = lv' := hlv
      refine zr_goto hB dX9_sumIn_27 (tgt := 5) rfl ?_
      exact zc_sub [2, 3, 4, 1, 0] rfl (ih5 x11 x12 (by omega) (by omega) (by omega))
  exact zc_sub [2, 3, 4, 1, 0] rfl (L5_4 66 c1 p1 (by omega) (by omega) (by omega))

set_option maxHeartbeats 1000000 in
set_option maxRecDepth 100000 in
theorem c_M_within (K : zc_K) (hi : zc_inj shM K.2.2.2.1) (σ0 : zc_S) (p1 : Int32) (p2 : Int32) (p3 : Int32) (hO0 : zc_O okM σ0) (h1a : 0 ≤ p1.toInt) (h1b : p1.toInt ≤ 63) (h2a : (-14) ≤ p2.toInt) (h2b : p2.toInt ≤ 63) : zc_M shM K yX9_within cX9_within 6 (some .int) (zrm 1 20) σ0 [.ref (zk K 0), .int p1, .int p2, .int p3] (zc_I (fun r9 σ9 => σ0 = σ9 ∧ 0 ≤ r9.toInt ∧ r9.toInt ≤ 64 ∧ (p3.toInt < 999 ∨ r9.toInt = zm_mn σ0 p1.toInt (p2.toInt + 1 - p1.toInt).toNat))) := by
  refine zc_start RX9 hi pfX9_within rfl (Nat.le_of_ble_eq_true rfl) ?_
  intro G hG
  have hB := hG.1
  show zc_V 6 K G (zc_D shM K G σ0) [(0, .ref (zk K 0)), (1, .int p1), (2, .int p2), (3, .int p3)] 0 []
  refine zr_iconst hB dX9_within_0 rfl (fun c1 ec1 => ?_)
  refine zr_istore hB dX9_within_1 (by decide) (lv' := [(4, .int c1), (0, .ref (zk K 0)), (1, .int p1), (2, .int p2), (3, .int p3)]) rfl ?_
  refine zr_iload_n hB 2 dX9_within_3 rfl ?_
  refine zr_istore hB dX9_within_4 (by decide) (lv' := [(5, .int p1), (4, .int c1), (0, .ref (zk K 0)), (1, .int p1), (2, .int p2), (3, .int p3)]) rfl ?_
  have L6_7 : ∀ (n6 : Nat) (y4_2 : Int32) (y5_3 : Int32), 0 ≤ y4_2.toInt → y4_2.toInt ≤ 64 → 0 ≤ y5_3.toInt → y5_3.toInt ≤ 64 → y4_2.toInt ≤ y5_3.toInt → p1.toInt ≤ y5_3.toInt → ((y5_3.toInt = p1.toInt ∨ y5_3.toInt ≤ p2.toInt + 1)) → ((p3.toInt < 999 ∨ y4_2.toInt = zm_mn σ0 p1.toInt (y5_3.toInt - p1.toInt).toNat)) → 64 - y5_3.toInt < (n6 : Int) → zc_V 6 K G (zc_D shM K G σ0) [(0, .ref (zk K 0)), (1, .int p1), (2, .int p2), (3, .int p3), (4, .int y4_2), (5, .int y5_3)] 6 [] := by
    intro n6
    induction n6 with
    | zero => intro y4_2 y5_3 y4_2a y4_2b y5_3a y5_3b e4 e5 e6 hcn hn6; exfalso; omega
    | succ n6 ih6 =>
      intro y4_2 y5_3 y4_2a y4_2b y5_3a y5_3b e4 e5 e6 hcn hn6
      refine zr_iload hB 5 dX9_within_6 rfl ?_
      refine zr_iload_n hB 2 dX9_within_8 rfl ?_
      refine zr_icmp_gt hB dX9_within_9 (tgt := 52) rfl (fun c8 => ?_) (fun c8 => ?_)
      · refine zr_iload hB 4 dX9_within_52 rfl ?_
        exact zr_iret hG dX9_within_54 ⟨rfl, by omega, by omega, (show p3.toInt < 999 ∨ y4_2.toInt = zm_mn σ0 p1.toInt (p2.toInt + 1 - p1.toInt).toNat by rw [show (p2.toInt + 1 - p1.toInt).toNat = (y5_3.toInt - p1.toInt).toNat by omega]; exact hcn)⟩
      refine zr_iload hB 4 dX9_within_12 rfl ?_
      refine zr_aload_n hB 0 dX9_within_14 rfl ?_
      refine zr_getr hG 0 26 dX9_within_15 rfl wf_X9_53 rfl ?_
      refine zr_iload hB 5 dX9_within_18 rfl ?_
      refine zr_zald hG 15 dX9_within_20 rfl (by omega) (by omega) (fun x9 ex9 => ?_)
      have bx9 : 0 ≤ x9.toInt ∧ x9.toInt ≤ 1 := by rw [ex9]; exact ⟨(hO0 15 _).1, (hO0 15 _).2.1⟩
      refine zr_if_eq hB dX9_within_21 (tgt := 42) rfl (fun c10 => ?_) (fun c10 => ?_)
      · refine zr_iconst hB dX9_within_42 rfl (fun c11 ec11 => ?_)
        refine zr_iadd hB dX9_within_43 (by omega) (by omega) (fun x12 ex12 => ?_)
        refine zr_istore hB dX9_within_44 (by decide) (lv' := [(4, .int x12), (0, .ref (zk K 0)), (1, .int p1), (2, .int p2), (3, .int p3), (5, .int y5_3)]) rfl ?_
        refine zr_iinc hB 5 dX9_within_46 rfl (by decide) rfl (by omega) (by omega) (fun x13 ex13 lv' hlv => ?_)
        obtain rfl : [(5, .int x13), (4, .int x12), (0, .ref (zk K 0)), (1, .int p1), (2, .int p2), (3, .int p3)] = lv' := hlv
        refine zr_goto hB dX9_within_49 (tgt := 6) rfl ?_
        exact zc_sub [2, 3, 4, 5, 1, 0] rfl (ih6 x12 x13 (by omega) (by omega) (by omega) (by omega) (show x12.toInt ≤ x13.toInt by omega) (show p1.toInt ≤ x13.toInt by omega) (show (x13.toInt = p1.toInt ∨ x13.toInt ≤ p2.toInt + 1) by omega) (show (p3.toInt < 999 ∨ x12.toInt = zm_mn σ0 p1.toInt (x13.toInt - p1.toInt).toNat) by rcases hcn with hcn | hcn; (left; exact hcn); by_cases hw9 : p3.toInt < 999; (left; exact hw9); right; rw [zm_mn_s σ0 p1.toInt (n := (y5_3.toInt - p1.toInt).toNat) (by omega), show (p1.toInt + ((y5_3.toInt - p1.toInt).toNat : Int)).toNat = y5_3.toInt.toNat by omega, ← ex9]; split <;> omega) (by omega))
      refine zr_aload_n hB 0 dX9_within_24 rfl ?_
      refine zr_getr hG 0 25 dX9_within_25 rfl wf_X9_50 rfl ?_
      refine zr_iload hB 5 dX9_within_28 rfl ?_
      refine zr_iald hG 14 dX9_within_30 rfl (by omega) (by omega) (fun x14 ex14 => ?_)
      have bx14 : (-999) ≤ x14.toInt ∧ x14.toInt ≤ 999 := by rw [ex14]; exact ⟨(hO0 14 _).1, (hO0 14 _).2.1⟩
      refine zr_callsi hG (rest := [.int y4_2]) dX9_within_31 wm_X9_240 (c_M_size K hG.2.2.2.2.2.1 σ0 x14 hO0 (by omega)) rfl rfl (Nat.le_of_ble_eq_true rfl) ⟨Nat.le_of_ble_eq_true rfl, Nat.le_of_ble_eq_true rfl, rfl, rfl⟩ (fun r15 σ16 h17 => ?_)
      obtain ⟨rfl, r15a, g18⟩ := h17
      refine zr_iload_n hB 3 dX9_within_34 rfl ?_
      refine zr_icmp_gt hB dX9_within_35 (tgt := 42) rfl (fun c19 => ?_) (fun c19 => ?_)
      · refine zr_iconst hB dX9_within_42 rfl (fun c20 ec20 => ?_)
        refine zr_iadd hB dX9_within_43 (by omega) (by omega) (fun x21 ex21 => ?_)
        refine zr_istore hB dX9_within_44 (by decide) (lv' := [(4, .int x21), (0, .ref (zk K 0)), (1, .int p1), (2, .int p2), (3, .int p3), (5, .int y5_3)]) rfl ?_
        refine zr_iinc hB 5 dX9_within_46 rfl (by decide) rfl (by omega) (by omega) (fun x22 ex22 lv' hlv => ?_)
        obtain rfl : [(5, .int x22), (4, .int x21), (0, .ref (zk K 0)), (1, .int p1), (2, .int p2), (3, .int p3)] = lv' := hlv
        refine zr_goto hB dX9_within_49 (tgt := 6) rfl ?_
        exact zc_sub [2, 3, 4, 5, 1, 0] rfl (ih6 x21 x22 (by omega) (by omega) (by omega) (by omega) (show x21.toInt ≤ x22.toInt by omega) (show p1.toInt ≤ x22.toInt by omega) (show (x22.toInt = p1.toInt ∨ x22.toInt ≤ p2.toInt + 1) by omega) (show (p3.toInt < 999 ∨ x21.toInt = zm_mn σ0 p1.toInt (x22.toInt - p1.toInt).toNat) by rcases hcn with hcn | hcn; (left; exact hcn); by_cases hw9 : p3.toInt < 999; (left; exact hw9); right; rw [zm_mn_s σ0 p1.toInt (n := (y5_3.toInt - p1.toInt).toNat) (by omega), show (p1.toInt + ((y5_3.toInt - p1.toInt).toNat : Int)).toNat = y5_3.toInt.toNat by omega, ← ex9]; split <;> omega) (by omega))
      refine zr_iconst hB dX9_within_38 rfl (fun c23 ec23 => ?_)
      refine zr_goto hB dX9_within_39 (tgt := 43) rfl ?_
      refine zr_iadd hB dX9_within_43 (by omega) (by omega) (fun x24 ex24 => ?_)
      refine zr_istore hB dX9_within_44 (by decide) (lv' := [(4, .int x24), (0, .ref (zk K 0)), (1, .int p1), (2, .int p2), (3, .int p3), (5, .int y5_3)]) rfl ?_
      refine zr_iinc hB 5 dX9_within_46 rfl (by decide) rfl (by omega) (by omega) (fun x25 ex25 lv' hlv => ?_)
      obtain rfl : [(5, .int x25), (4, .int x24), (0, .ref (zk K 0)), (1, .int p1), (2, .int p2), (3, .int p3)] = lv' := hlv
      refine zr_goto hB dX9_within_49 (tgt := 6) rfl ?_
      exact zc_sub [2, 3, 4, 5, 1, 0] rfl (ih6 x24 x25 (by omega) (by omega) (by omega) (by omega) (show x24.toInt ≤ x25.toInt by omega) (show p1.toInt ≤ x25.toInt by omega) (show (x25.toInt = p1.toInt ∨ x25.toInt ≤ p2.toInt + 1) by omega) (show (p3.toInt < 999 ∨ x24.toInt = zm_mn σ0 p1.toInt (x25.toInt - p1.toInt).toNat) by rcases hcn with hcn | hcn; (left; exact hcn); by_cases hw9 : p3.toInt < 999; (left; exact hw9); right; rw [zm_mn_s σ0 p1.toInt (n := (y5_3.toInt - p1.toInt).toNat) (by omega), show (p1.toInt + ((y5_3.toInt - p1.toInt).toNat : Int)).toNat = y5_3.toInt.toNat by omega, ← ex9]; split <;> omega) (by omega))
  exact zc_sub [2, 3, 4, 5, 1, 0] rfl (L6_7 66 c1 p1 (by omega) (by omega) (by omega) (by omega) (show c1.toInt ≤ p1.toInt by omega) (show p1.toInt ≤ p1.toInt by omega) (show (p1.toInt = p1.toInt ∨ p1.toInt ≤ p2.toInt + 1) by omega) (show (p3.toInt < 999 ∨ c1.toInt = zm_mn σ0 p1.toInt (p1.toInt - p1.toInt).toNat) by rw [show (p1.toInt - p1.toInt).toNat = 0 by omega]; right; show c1.toInt = 0; omega) (by omega))

set_option maxHeartbeats 1000000 in
set_option maxRecDepth 100000 in
theorem c_M_spanOf (K : zc_K) (hi : zc_inj shM K.2.2.2.1) (σ0 : zc_S) (p1 : Int32) (p2 : Int32) (p3 : Int32) (hO0 : zc_O okM σ0) (h1a : 0 ≤ p1.toInt) (h1b : p1.toInt ≤ 63) (h2a : (-14) ≤ p2.toInt) (h2b : p2.toInt ≤ 63) (h3a : 1 ≤ p3.toInt) (h3b : p3.toInt ≤ 100) : zc_M shM K yX9_spanOf cX9_spanOf 6 (some .int) (zrm 2 45) σ0 [.ref (zk K 0), .int p1, .int p2, .int p3] (zc_I (fun r9 σ9 => σ0 = σ9 ∧ 0 ≤ r9.toInt ∧ r9.toInt ≤ 999)) := by
  refine zc_start RX9 hi pfX9_spanOf rfl (Nat.le_of_ble_eq_true rfl) ?_
  intro G hG
  have hB := hG.1
  show zc_V 6 K G (zc_D shM K G σ0) [(0, .ref (zk K 0)), (1, .int p1), (2, .int p2), (3, .int p3)] 0 []
  refine zr_aload_n hB 0 dX9_spanOf_0 rfl ?_
  refine zr_iload_n hB 1 dX9_spanOf_1 rfl ?_
  refine zr_iload_n hB 2 dX9_spanOf_2 rfl ?_
  refine zr_callvi hG (rest := []) 0 dX9_spanOf_3 wm_X9_243 rfl rfl (c_M_manyIn K hG.2.2.2.2.2.1 σ0 p1 p2 hO0 (by omega) (by omega) (by omega) (by omega)) rfl rfl (Nat.le_of_ble_eq_true rfl) ⟨Nat.le_of_ble_eq_true rfl, Nat.le_of_ble_eq_true rfl, rfl, rfl⟩ (fun r1 σ2 h3 => ?_)
  obtain ⟨rfl, r1a, r1b, g4⟩ := h3
  refine zr_istore hB dX9_spanOf_6 (by decide) (lv' := [(4, .int r1), (0, .ref (zk K 0)), (1, .int p1), (2, .int p2), (3, .int p3)]) rfl ?_
  refine zr_iconst hB dX9_spanOf_8 rfl (fun c5 ec5 => ?_)
  refine zr_istore hB dX9_spanOf_9 (by decide) (lv' := [(5, .int c5), (4, .int r1), (0, .ref (zk K 0)), (1, .int p1), (2, .int p2), (3, .int p3)]) rfl ?_
  have L11_7 : ∀ (n11 : Nat) (y5_6 : Int32), 0 ≤ y5_6.toInt → y5_6.toInt ≤ 999 → 999 - y5_6.toInt < (n11 : Int) → zc_V 6 K G (zc_D shM K G σ0) [(0, .ref (zk K 0)), (1, .int p1), (2, .int p2), (3, .int p3), (4, .int r1), (5, .int y5_6)] 11 [] := by
    intro n11
    induction n11 with
    | zero => intro y5_6 y5_6a y5_6b hn11; exfalso; omega
    | succ n11 ih11 =>
      intro y5_6 y5_6a y5_6b hn11
      refine zr_bipush hB dX9_spanOf_11 rfl (fun c8 ec8 => ?_)
      refine zr_aload_n hB 0 dX9_spanOf_13 rfl ?_
      refine zr_iload_n hB 1 dX9_spanOf_14 rfl ?_
      refine zr_iload_n hB 2 dX9_spanOf_15 rfl ?_
      refine zr_iload hB 5 dX9_spanOf_16 rfl ?_
      refine zr_callvi hG (rest := [.int c8]) 0 dX9_spanOf_18 wm_X9_251 rfl rfl (c_M_within K hG.2.2.2.2.2.1 σ0 p1 p2 y5_6 hO0 (by omega) (by omega) (by omega) (by omega)) rfl rfl (Nat.le_of_ble_eq_true rfl) ⟨Nat.le_of_ble_eq_true rfl, Nat.le_of_ble_eq_true rfl, rfl, rfl⟩ (fun r9 σ10 h11 => ?_)
      obtain ⟨rfl, r9a, r9b, g12⟩ := h11
      refine zr_imuld hB dX9_spanOf_21 ec8 (by omega) (by omega) (fun x13 ex13 => ?_)
      refine zr_iload_n hB 3 dX9_spanOf_22 rfl ?_
      refine zr_iload hB 4 dX9_spanOf_23 rfl ?_
      refine zr_imulb hB dX9_spanOf_25 (A := 100) (B := 64) (by omega) (by omega) (by omega) (by omega) (by decide) (fun x14 ex14 ex14a ex14b ex14c ex14d => ?_)
      refine zr_icmp_ge hB dX9_spanOf_26 (tgt := 35) rfl (fun c15 => ?_) (fun c15 => ?_)
      · refine zr_iload hB 5 dX9_spanOf_35 rfl ?_
        exact zr_iret hG dX9_spanOf_37 ⟨rfl, by omega, by omega⟩
      refine zr_iinc hB 5 dX9_spanOf_29 rfl (by decide) rfl (by omega) (by omega) (fun x16 ex16 lv' hlv => ?_)
      obtain rfl : [(5, .int x16), (0, .ref (zk K 0)), (1, .int p1), (2, .int p2), (3, .int p3), (4, .int r1)] = lv' := hlv
      refine zr_goto hB dX9_spanOf_32 (tgt := 11) rfl ?_
      exact zc_sub [1, 2, 3, 4, 5, 0] rfl (ih11 x16 (by omega) (by omega) (by omega))
  exact zc_sub [2, 3, 4, 5, 1, 0] rfl (L11_7 1001 c5 (by omega) (by omega) (by omega))

def m_M_misses : zc_ms := [(14, none), (15, none)]
set_option maxHeartbeats 1000000 in
set_option maxRecDepth 100000 in
theorem c_M_misses (K : zc_K) (hi : zc_inj shM K.2.2.2.1) (σ0 : zc_S) (p1 : Int32) (p2 : Int32) (p3 : Int32) (p4 : Int32) (p5 : Int32) (p6 : Int32) (hO0 : zc_O okM σ0) (hT : zm_T σ0) : zc_M shM K yX9_misses cX9_misses 10 (some .int) (zrm 9 234) σ0 [.ref (zk K 0), .int p1, .int p2, .int p3, .int p4, .int p5, .int p6] (zc_I (fun r9 σ9 => zc_O okM σ9 ∧ zc_Ag m_M_misses σ0 σ9)) := by
  refine zc_start RX9 hi pfX9_misses rfl (Nat.le_of_ble_eq_true rfl) ?_
  intro G hG
  have hB := hG.1
  have hA0 : zc_Ag m_M_misses σ0 σ0 := zc_Ag.rf
  show zc_V 10 K G (zc_D shM K G σ0) [(0, .ref (zk K 0)), (1, .int p1), (2, .int p2), (3, .int p3), (4, .int p4), (5, .int p5), (6, .int p6)] 0 []
  have bw0_17 : 0 ≤ (σ0.1 0 17).toInt ∧ (σ0.1 0 17).toInt ≤ 6 := ⟨(hO0 0 17).1, (hO0 0 17).2.1⟩
  refine zr_aload_n hB 0 dX9_misses_0 rfl ?_
  refine zr_iload_n hB 1 dX9_misses_1 rfl ?_
  refine zr_iload_n hB 2 dX9_misses_2 rfl ?_
  refine zr_iload_n hB 3 dX9_misses_3 rfl ?_
  refine zr_iload hB 4 dX9_misses_4 rfl ?_
  refine zr_iload hB 5 dX9_misses_6 rfl ?_
  refine zr_callvi hG (rest := []) 0 dX9_misses_8 wm_X9_232 rfl rfl (c_M_isAsked K hG.2.2.2.2.2.1 σ0 p1 p2 p3 p4 p5 hO0 ) rfl rfl (Nat.le_of_ble_eq_true rfl) ⟨Nat.le_of_ble_eq_true rfl, Nat.le_of_ble_eq_true rfl, rfl, rfl⟩ (fun r1 σ2 h3 => ?_)
  obtain ⟨rfl, r1q⟩ := h3
  have r1z := r1q.b
  refine zr_if_eq hB dX9_misses_11 (tgt := 27) rfl (fun c4 => ?_) (fun c4 => ?_)
  · have q5 := r1q.f c4
    refine zr_iconst hB dX9_misses_27 rfl (fun c6 ec6 => ?_)
    exact zr_iret hG dX9_misses_28 ⟨hO0, hA0⟩
  have q7 := r1q.t c4
  refine zr_iload hB 6 dX9_misses_14 rfl ?_
  have v9 := And.intro (zn_lo p6) (zn_hi p6)
  refine zr_i2l hB dX9_misses_16 (fun l8 el8 => ?_)
  refine zr_lconst hB dX9_misses_17 (m := 0) rfl (fun c10 ec10 => ?_)
  refine zr_ldc2 hB dX9_misses_18 wc_X9_89 (n := 3) rfl (fun c11 ec11 => ?_)
  refine zr_callsi hG (rest := []) dX9_misses_21 wm_X9_91 (c_M_in K hG.2.2.2.2.2.1 σ0 l8 c10 c11 hO0 ) rfl rfl (Nat.le_of_ble_eq_true rfl) ⟨Nat.le_of_ble_eq_true rfl, Nat.le_of_ble_eq_true rfl, rfl, rfl⟩ (fun r12 σ13 h14 => ?_)
  obtain ⟨rfl, r12q⟩ := h14
  have r12z := r12q.b
  refine zr_if_ne hB dX9_misses_24 (tgt := 29) rfl (fun c15 => ?_) (fun c15 => ?_)
  · have q16 := r12q.t c15
    refine zr_aload_n hB 0 dX9_misses_29 rfl ?_
    refine zr_iload_n hB 1 dX9_misses_30 rfl ?_
    refine zr_iload_n hB 2 dX9_misses_31 rfl ?_
    refine zr_iload_n hB 3 dX9_misses_32 rfl ?_
    refine zr_iload hB 4 dX9_misses_33 rfl ?_
    refine zr_iload hB 5 dX9_misses_35 rfl ?_
    refine zr_callvn hG (rest := []) 0 dX9_misses_37 wm_X9_236 rfl rfl (c_M_layMisses K hG.2.2.2.2.2.1 σ0 p1 p2 p3 p4 p5 hO0 (by omega) (by omega) (by omega) (by omega) (by omega) (by omega) (by omega) (by omega) (by omega) (by omega) (by omega) hT) rfl rfl (Nat.le_of_ble_eq_true rfl) ⟨Nat.le_of_ble_eq_true rfl, Nat.le_of_ble_eq_true rfl, rfl, rfl⟩ (fun σ18 h19 => ?_)
    obtain ⟨hO20, hAc21⟩ := h19
    have hA22 := zc_Ag.tr hA0 hAc21 rfl
    have q23 : (σ18.1 0 17).toInt = (σ0.1 0 17).toInt := congrArg Int32.toInt (hAc21 0 17 rfl).1
    refine zr_bipush hB dX9_misses_40 rfl (fun c24 ec24 => ?_)
    refine zr_istore hB dX9_misses_42 (by decide) (lv' := [(7, .int c24), (0, .ref (zk K 0)), (1, .int p1), (2, .int p2), (3, .int p3), (4, .int p4), (5, .int p5), (6, .int p6)]) rfl ?_
    refine zr_bipush hB dX9_misses_44 rfl (fun c25 ec25 => ?_)
    refine zr_istore hB dX9_misses_46 (by decide) (lv' := [(8, .int c25), (7, .int c24), (0, .ref (zk K 0)), (1, .int p1), (2, .int p2), (3, .int p3), (4, .int p4), (5, .int p5), (6, .int p6)]) rfl ?_
    refine zr_iload hB 6 dX9_misses_48 rfl ?_
    refine zr_istore hB dX9_misses_50 (by decide) (lv' := [(9, .int p4), (8, .int c25), (7, .int c24), (0, .ref (zk K 0)), (1, .int p1), (2, .int p2), (3, .int p3), (4, .int p4), (5, .int p5), (6, .int p6)]) rfl ?_
    have L52_29 : ∀ (n52 : Nat) (y7_26 : Int32) (y8_27 : Int32) (y9_28 : Int32), (-4) ≤ y7_26.toInt → y7_26.toInt ≤ 999 → (-4) ≤ y8_27.toInt → y8_27.toInt ≤ 63 → 0 ≤ y9_28.toInt → y9_28.toInt ≤ 64 → 64 - y9_28.toInt < (n52 : Int) → zc_V 10 K G (zc_D shM K G σ18) [(0, .ref (zk K 0)), (1, .int p1), (2, .int p2), (3, .int p3), (4, .int p4), (5, .int p5), (6, .int p6), (7, .int y7_26), (8, .int y8_27), (9, .int y9_28)] 52 [] := by
      intro n52
      induction n52 with
      | zero => intro y7_26 y8_27 y9_28 y7_26a y7_26b y8_27a y8_27b y9_28a y9_28b hn52; exfalso; omega
      | succ n52 ih52 =>
        intro y7_26 y8_27 y9_28 y7_26a y7_26b y8_27a y8_27b y9_28a y9_28b hn52
        refine zr_iload hB 9 dX9_misses_52 rfl ?_
        refine zr_iload hB 5 dX9_misses_54 rfl ?_
        refine zr_icmp_gt hB dX9_misses_56 (tgt := 106) rfl (fun c30 => ?_) (fun c30 => ?_)
        · refine zr_iload hB 6 dX9_misses_106 rfl ?_
          refine zr_if_ne hB dX9_misses_108 (tgt := 122) rfl (fun c31 => ?_) (fun c31 => ?_)
          · refine zr_iload hB 6 dX9_misses_122 rfl ?_
            refine zr_iconst hB dX9_misses_124 rfl (fun c32 ec32 => ?_)
            refine zr_icmp_ne hB dX9_misses_125 (tgt := 139) rfl (fun c33 => ?_) (fun c33 => ?_)
            · refine zr_iload hB 6 dX9_misses_139 rfl ?_
              refine zr_iconst hB dX9_misses_141 rfl (fun c34 ec34 => ?_)
              refine zr_icmp_ne hB dX9_misses_142 (tgt := 150) rfl (fun c35 => ?_) (fun c35 => ?_)
              · refine zr_iload hB 8 dX9_misses_150 rfl ?_
                exact zr_iret hG dX9_misses_152 ⟨hO20, hA22⟩
              refine zr_iload hB 7 dX9_misses_145 rfl ?_
              refine zr_goto hB dX9_misses_147 (tgt := 152) rfl ?_
              exact zr_iret hG dX9_misses_152 ⟨hO20, hA22⟩
            refine zr_aload_n hB 0 dX9_misses_128 rfl ?_
            refine zr_iload hB 4 dX9_misses_129 rfl ?_
            refine zr_iload hB 5 dX9_misses_131 rfl ?_
            refine zr_callvi hG (rest := []) 0 dX9_misses_133 wm_X9_246 rfl rfl (c_M_sumIn K hG.2.2.2.2.2.1 σ18 p4 p5 hO20 (by omega) (by omega) (by omega) (by omega)) rfl rfl (Nat.le_of_ble_eq_true rfl) ⟨Nat.le_of_ble_eq_true rfl, Nat.le_of_ble_eq_true rfl, rfl, rfl⟩ (fun r36 σ37 h38 => ?_)
            obtain rfl := h38
            refine zr_goto hB dX9_misses_136 (tgt := 152) rfl ?_
            exact zr_iret hG dX9_misses_152 ⟨hO20, hA22⟩
          refine zr_aload_n hB 0 dX9_misses_111 rfl ?_
          refine zr_iload hB 4 dX9_misses_112 rfl ?_
          refine zr_iload hB 5 dX9_misses_114 rfl ?_
          refine zr_callvi hG (rest := []) 0 dX9_misses_116 wm_X9_243 rfl rfl (c_M_manyIn K hG.2.2.2.2.2.1 σ18 p4 p5 hO20 (by omega) (by omega) (by omega) (by omega)) rfl rfl (Nat.le_of_ble_eq_true rfl) ⟨Nat.le_of_ble_eq_true rfl, Nat.le_of_ble_eq_true rfl, rfl, rfl⟩ (fun r39 σ40 h41 => ?_)
          obtain ⟨rfl, r39a, r39b, g42⟩ := h41
          refine zr_goto hB dX9_misses_119 (tgt := 152) rfl ?_
          exact zr_iret hG dX9_misses_152 ⟨hO20, hA22⟩
        refine zr_aload_n hB 0 dX9_misses_59 rfl ?_
        refine zr_getr hG 0 26 dX9_misses_60 rfl wf_X9_53 rfl ?_
        refine zr_iload hB 9 dX9_misses_63 rfl ?_
        refine zr_zald hG 15 dX9_misses_65 rfl (by omega) (by omega) (fun x43 ex43 => ?_)
        have bx43 : 0 ≤ x43.toInt ∧ x43.toInt ≤ 1 := by rw [ex43]; exact ⟨(hO20 15 _).1, (hO20 15 _).2.1⟩
        refine zr_if_eq hB dX9_misses_66 (tgt := 100) rfl (fun c44 => ?_) (fun c44 => ?_)
        · refine zr_iinc hB 9 dX9_misses_100 rfl (by decide) rfl (by omega) (by omega) (fun x45 ex45 lv' hlv => ?_)
          obtain rfl : [(9, .int x45), (0, .ref (zk K 0)), (1, .int p1), (2, .int p2), (3, .int p3), (4, .int p4), (5, .int p5), (6, .int p6), (7, .int y7_26), (8, .int y8_27)] = lv' := hlv
          refine zr_goto hB dX9_misses_103 (tgt := 52) rfl ?_
          exact zc_sub [1, 2, 3, 4, 5, 6, 7, 8, 9, 0] rfl (ih52 y7_26 y8_27 x45 (by omega) (by omega) (by omega) (by omega) (by omega) (by omega) (by omega))
        refine zr_aload_n hB 0 dX9_misses_69 rfl ?_
        refine zr_getr hG 0 25 dX9_misses_70 rfl wf_X9_50 rfl ?_
        refine zr_iload hB 9 dX9_misses_73 rfl ?_
        refine zr_iald hG 14 dX9_misses_75 rfl (by omega) (by omega) (fun x46 ex46 => ?_)
        have bx46 : (-999) ≤ x46.toInt ∧ x46.toInt ≤ 999 := by rw [ex46]; exact ⟨(hO20 14 _).1, (hO20 14 _).2.1⟩
        refine zr_callsi hG (rest := []) dX9_misses_76 wm_X9_240 (c_M_size K hG.2.2.2.2.2.1 σ18 x46 hO20 (by omega)) rfl rfl (Nat.le_of_ble_eq_true rfl) ⟨Nat.le_of_ble_eq_true rfl, Nat.le_of_ble_eq_true rfl, rfl, rfl⟩ (fun r47 σ48 h49 => ?_)
        obtain ⟨rfl, r47a, g50⟩ := h49
        refine zr_iload hB 7 dX9_misses_79 rfl ?_
        refine zr_icmp_le hB dX9_misses_81 (tgt := 100) rfl (fun c51 => ?_) (fun c51 => ?_)
        · refine zr_iinc hB 9 dX9_misses_100 rfl (by decide) rfl (by omega) (by omega) (fun x52 ex52 lv' hlv => ?_)
          obtain rfl : [(9, .int x52), (0, .ref (zk K 0)), (1, .int p1), (2, .int p2), (3, .int p3), (4, .int p4), (5, .int p5), (6, .int p6), (7, .int y7_26), (8, .int y8_27)] = lv' := hlv
          refine zr_goto hB dX9_misses_103 (tgt := 52) rfl ?_
          exact zc_sub [1, 2, 3, 4, 5, 6, 7, 8, 9, 0] rfl (ih52 y7_26 y8_27 x52 (by omega) (by omega) (by omega) (by omega) (by omega) (by omega) (by omega))
        refine zr_aload_n hB 0 dX9_misses_84 rfl ?_
        refine zr_getr hG 0 25 dX9_misses_85 rfl wf_X9_50 rfl ?_
        refine zr_iload hB 9 dX9_misses_88 rfl ?_
        refine zr_iald hG 14 dX9_misses_90 rfl (by omega) (by omega) (fun x53 ex53 => ?_)
        obtain rfl : x46 = x53 := ex46.trans ex53.symm
        refine zr_callsi hG (rest := []) dX9_misses_91 wm_X9_240 (c_M_size K hG.2.2.2.2.2.1 σ18 x46 hO20 (by omega)) rfl rfl (Nat.le_of_ble_eq_true rfl) ⟨Nat.le_of_ble_eq_true rfl, Nat.le_of_ble_eq_true rfl, rfl, rfl⟩ (fun r54 σ55 h56 => ?_)
        obtain ⟨rfl, r54a, g57⟩ := h56
        refine zr_istore hB dX9_misses_94 (by decide) (lv' := [(7, .int r54), (0, .ref (zk K 0)), (1, .int p1), (2, .int p2), (3, .int p3), (4, .int p4), (5, .int p5), (6, .int p6), (8, .int y8_27), (9, .int y9_28)]) rfl ?_
        refine zr_iload hB 9 dX9_misses_96 rfl ?_
        refine zr_istore hB dX9_misses_98 (by decide) (lv' := [(8, .int y9_28), (7, .int r54), (0, .ref (zk K 0)), (1, .int p1), (2, .int p2), (3, .int p3), (4, .int p4), (5, .int p5), (6, .int p6), (9, .int y9_28)]) rfl ?_
        refine zr_iinc hB 9 dX9_misses_100 rfl (by decide) rfl (by omega) (by omega) (fun x58 ex58 lv' hlv => ?_)
        obtain rfl : [(9, .int x58), (8, .int y9_28), (7, .int r54), (0, .ref (zk K 0)), (1, .int p1), (2, .int p2), (3, .int p3), (4, .int p4), (5, .int p5), (6, .int p6)] = lv' := hlv
        refine zr_goto hB dX9_misses_103 (tgt := 52) rfl ?_
        exact zc_sub [3, 4, 5, 6, 7, 8, 9, 2, 1, 0] rfl (ih52 r54 y9_28 x58 (by omega) (by omega) (by omega) (by omega) (by omega) (by omega) (by omega))
    exact zc_sub [3, 4, 5, 6, 7, 8, 9, 2, 1, 0] rfl (L52_29 66 c24 c25 p4 (by omega) (by omega) (by omega) (by omega) (by omega) (by omega) (by omega))
  have q59 := r12q.f c15
  refine zr_iconst hB dX9_misses_27 rfl (fun c60 ec60 => ?_)
  exact zr_iret hG dX9_misses_28 ⟨hO0, hA0⟩

def m_M_best : zc_ms := [(14, none), (15, none)]
set_option maxHeartbeats 1000000 in
set_option maxRecDepth 100000 in
theorem c_M_best (K : zc_K) (hi : zc_inj shM K.2.2.2.1) (σ0 : zc_S) (p1 : Int32) (p2 : Int32) (p3 : Int32) (p4 : Int32) (hO0 : zc_O okM σ0) (hT : zm_T σ0) : zc_M shM K yX9_best cX9_best 11 (some .int) (zrm 9 234) σ0 [.ref (zk K 0), .int p1, .int p2, .int p3, .int p4] (zc_I (fun r9 σ9 => zc_O okM σ9 ∧ zc_Ag m_M_best σ0 σ9)) := by
  refine zc_start RX9 hi pfX9_best rfl (Nat.le_of_ble_eq_true rfl) ?_
  intro G hG
  have hB := hG.1
  have hA0 : zc_Ag m_M_best σ0 σ0 := zc_Ag.rf
  show zc_V 11 K G (zc_D shM K G σ0) [(0, .ref (zk K 0)), (1, .int p1), (2, .int p2), (3, .int p3), (4, .int p4)] 0 []
  have bw0_17 : 0 ≤ (σ0.1 0 17).toInt ∧ (σ0.1 0 17).toInt ≤ 6 := ⟨(hO0 0 17).1, (hO0 0 17).2.1⟩
  refine zr_iload_n hB 1 dX9_best_0 rfl ?_
  refine zr_callsi hG (rest := []) dX9_best_1 wm_X9_108 (c_M_isShop K hG.2.2.2.2.2.1 σ0 p1 hO0 ) rfl rfl (Nat.le_of_ble_eq_true rfl) ⟨Nat.le_of_ble_eq_true rfl, Nat.le_of_ble_eq_true rfl, rfl, rfl⟩ (fun r1 σ2 h3 => ?_)
  obtain ⟨rfl, r1q⟩ := h3
  have r1z := r1q.b
  refine zr_if_eq hB dX9_best_4 (tgt := 23) rfl (fun c4 => ?_) (fun c4 => ?_)
  · have q5 := r1q.f c4
    refine zr_iconst hB dX9_best_23 rfl (fun c6 ec6 => ?_)
    exact zr_iret hG dX9_best_24 ⟨hO0, hA0⟩
  have q7 := r1q.t c4
  refine zr_iload_n hB 2 dX9_best_7 rfl ?_
  refine zr_callsi hG (rest := []) dX9_best_8 wm_X9_219 (c_M_isAhead K hG.2.2.2.2.2.1 σ0 p2 hO0 ) rfl rfl (Nat.le_of_ble_eq_true rfl) ⟨Nat.le_of_ble_eq_true rfl, Nat.le_of_ble_eq_true rfl, rfl, rfl⟩ (fun r8 σ9 h10 => ?_)
  obtain ⟨rfl, r8q⟩ := h10
  have r8z := r8q.b
  refine zr_if_eq hB dX9_best_11 (tgt := 23) rfl (fun c11 => ?_) (fun c11 => ?_)
  · have q12 := r8q.f c11
    refine zr_iconst hB dX9_best_23 rfl (fun c13 ec13 => ?_)
    exact zr_iret hG dX9_best_24 ⟨hO0, hA0⟩
  have q14 := r8q.t c11
  refine zr_iload_n hB 3 dX9_best_14 rfl ?_
  refine zr_iload hB 4 dX9_best_15 rfl ?_
  refine zr_callsi hG (rest := []) dX9_best_17 wm_X9_228 (c_M_areDays K hG.2.2.2.2.2.1 σ0 p3 p4 hO0 ) rfl rfl (Nat.le_of_ble_eq_true rfl) ⟨Nat.le_of_ble_eq_true rfl, Nat.le_of_ble_eq_true rfl, rfl, rfl⟩ (fun r15 σ16 h17 => ?_)
  obtain ⟨rfl, r15q⟩ := h17
  have r15z := r15q.b
  refine zr_if_ne hB dX9_best_20 (tgt := 25) rfl (fun c18 => ?_) (fun c18 => ?_)
  · have q19 := r15q.t c18
    refine zr_bipush hB dX9_best_25 rfl (fun c20 ec20 => ?_)
    refine zr_istore hB dX9_best_27 (by decide) (lv' := [(5, .int c20), (0, .ref (zk K 0)), (1, .int p1), (2, .int p2), (3, .int p3), (4, .int p4)]) rfl ?_
    refine zr_iconst hB dX9_best_29 rfl (fun c21 ec21 => ?_)
    refine zr_istore hB dX9_best_30 (by decide) (lv' := [(6, .int c21), (5, .int c20), (0, .ref (zk K 0)), (1, .int p1), (2, .int p2), (3, .int p3), (4, .int p4)]) rfl ?_
    refine zr_iconst hB dX9_best_32 rfl (fun c22 ec22 => ?_)
    refine zr_istore hB dX9_best_33 (by decide) (lv' := [(7, .int c22), (6, .int c21), (5, .int c20), (0, .ref (zk K 0)), (1, .int p1), (2, .int p2), (3, .int p3), (4, .int p4)]) rfl ?_
    refine zr_iconst hB dX9_best_35 rfl (fun c23 ec23 => ?_)
    refine zr_istore hB dX9_best_36 (by decide) (lv' := [(8, .int c23), (7, .int c22), (6, .int c21), (5, .int c20), (0, .ref (zk K 0)), (1, .int p1), (2, .int p2), (3, .int p3), (4, .int p4)]) rfl ?_
    have L38_31 : ∀ (n38 : Nat) (σ28 : zc_S) (y5_24 : Int32) (y6_25 : Int32) (y7_26 : Int32) (y8_27 : Int32), zc_O okM σ28 → zc_Ag m_M_best σ0 σ28 → (-4) ≤ y5_24.toInt → y5_24.toInt ≤ 5 → 1 ≤ y6_25.toInt → y6_25.toInt ≤ 64 → 0 ≤ y8_27.toInt → y8_27.toInt ≤ 6 → (σ28.1 0 17).toInt ≤ 6 → 0 ≤ (σ28.1 0 17).toInt → 6 - y8_27.toInt < (n38 : Int) → zc_V 11 K G (zc_D shM K G σ28) [(0, .ref (zk K 0)), (1, .int p1), (2, .int p2), (3, .int p3), (4, .int p4), (5, .int y5_24), (6, .int y6_25), (7, .int y7_26), (8, .int y8_27)] 38 [] := by
      intro n38
      induction n38 with
      | zero => intro σ28 y5_24 y6_25 y7_26 y8_27 hO28 hA28 y5_24a y5_24b y6_25a y6_25b y8_27a y8_27b e29 e30 hn38; have vy7_26 := And.intro (zn_lo y7_26) (zn_hi y7_26); exfalso; omega
      | succ n38 ih38 =>
        intro σ28 y5_24 y6_25 y7_26 y8_27 hO28 hA28 y5_24a y5_24b y6_25a y6_25b y8_27a y8_27b e29 e30 hn38
        have vy7_26 := And.intro (zn_lo y7_26) (zn_hi y7_26)
        refine zr_iload hB 8 dX9_best_38 rfl ?_
        refine zr_aload_n hB 0 dX9_best_40 rfl ?_
        refine zr_geti' hG 0 17 (σ28.1 0 17) dX9_best_41 rfl wf_X9_181 rfl rfl ?_
        have b32 : 0 ≤ (σ28.1 0 17).toInt ∧ (σ28.1 0 17).toInt ≤ 6 := ⟨(hO28 0 17).1, (hO28 0 17).2.1⟩
        refine zr_icmp_ge hB dX9_best_44 (tgt := 119) rfl (fun c33 => ?_) (fun c33 => ?_)
        · refine zr_iload hB 5 dX9_best_119 rfl ?_
          exact zr_iret hG dX9_best_121 ⟨hO28, hA28⟩
        refine zr_aload_n hB 0 dX9_best_47 rfl ?_
        refine zr_iload_n hB 1 dX9_best_48 rfl ?_
        refine zr_iload hB 8 dX9_best_49 rfl ?_
        refine zr_iload_n hB 2 dX9_best_51 rfl ?_
        refine zr_iload_n hB 3 dX9_best_52 rfl ?_
        refine zr_iload hB 4 dX9_best_53 rfl ?_
        refine zr_callvn hG (rest := []) 0 dX9_best_55 wm_X9_236 rfl rfl (c_M_layMisses K hG.2.2.2.2.2.1 σ28 p1 y8_27 p2 p3 p4 hO28 (by omega) (by omega) (by omega) (by omega) (by omega) (by omega) (by omega) (by omega) (by omega) (by omega) (by omega) (zm_T.ag hT hA28 rfl (fun _ => rfl) (fun _ => rfl))) rfl rfl (Nat.le_of_ble_eq_true rfl) ⟨Nat.le_of_ble_eq_true rfl, Nat.le_of_ble_eq_true rfl, rfl, rfl⟩ (fun σ35 h36 => ?_)
        obtain ⟨hO37, hAc38⟩ := h36
        have hA39 := zc_Ag.tr hA28 hAc38 rfl
        have q40 : (σ35.1 0 17).toInt = (σ28.1 0 17).toInt := congrArg Int32.toInt (hAc38 0 17 rfl).1
        refine zr_aload_n hB 0 dX9_best_58 rfl ?_
        refine zr_iload_n hB 3 dX9_best_59 rfl ?_
        refine zr_iload hB 4 dX9_best_60 rfl ?_
        refine zr_callvi hG (rest := []) 0 dX9_best_62 wm_X9_243 rfl rfl (c_M_manyIn K hG.2.2.2.2.2.1 σ35 p3 p4 hO37 (by omega) (by omega) (by omega) (by omega)) rfl rfl (Nat.le_of_ble_eq_true rfl) ⟨Nat.le_of_ble_eq_true rfl, Nat.le_of_ble_eq_true rfl, rfl, rfl⟩ (fun r41 σ42 h43 => ?_)
        obtain ⟨rfl, r41a, r41b, g44⟩ := h43
        refine zr_istore hB dX9_best_65 (by decide) (lv' := [(9, .int r41), (0, .ref (zk K 0)), (1, .int p1), (2, .int p2), (3, .int p3), (4, .int p4), (5, .int y5_24), (6, .int y6_25), (7, .int y7_26), (8, .int y8_27)]) rfl ?_
        refine zr_aload_n hB 1 dX9_best_67 rfl ?_
        refine zr_iload_n hB 4 dX9_best_68 rfl ?_
        refine zr_iload hB 5 dX9_best_69 rfl ?_
        refine zr_callvi hG (rest := []) 0 dX9_best_71 wm_X9_246 rfl rfl (c_M_sumIn K hG.2.2.2.2.2.1 σ35 p3 p4 hO37 (by omega) (by omega) (by omega) (by omega)) rfl rfl (Nat.le_of_ble_eq_true rfl) ⟨Nat.le_of_ble_eq_true rfl, Nat.le_of_ble_eq_true rfl, rfl, rfl⟩ (fun r45 σ46 h47 => ?_)
        obtain rfl := h47
        refine zr_istore hB dX9_best_74 (by decide) (lv' := [(10, .int r45), (9, .int r41), (0, .ref (zk K 0)), (1, .int p1), (2, .int p2), (3, .int p3), (4, .int p4), (5, .int y5_24), (6, .int y6_25), (7, .int y7_26), (8, .int y8_27)]) rfl ?_
        refine zr_iload hB 1 dX9_best_76 rfl ?_
        refine zr_if_le hB dX9_best_78 (tgt := 113) rfl (fun c48 => ?_) (fun c48 => ?_)
        · refine zr_iinc hB 10 dX9_best_113 rfl (by decide) rfl (by omega) (by omega) (fun x49 ex49 lv' hlv => ?_)
          obtain rfl : [(8, .int x49), (10, .int r45), (9, .int r41), (0, .ref (zk K 0)), (1, .int p1), (2, .int p2), (3, .int p3), (4, .int p4), (5, .int y5_24), (6, .int y6_25), (7, .int y7_26)] = lv' := hlv
          refine zr_goto hB dX9_best_116 (tgt := 38) rfl ?_
          have b50 : 0 ≤ (σ35.1 0 17).toInt ∧ (σ35.1 0 17).toInt ≤ 6 := ⟨(hO37 0 17).1, (hO37 0 17).2.1⟩
          exact zc_sub [3, 4, 5, 6, 7, 8, 9, 10, 0] rfl (ih38 σ35 y5_24 y6_25 y7_26 x49 hO37 hA39 (by omega) (by omega) (by omega) (by omega) (by omega) (by omega) (show (σ35.1 0 17).toInt ≤ 6 by omega) (show 0 ≤ (σ35.1 0 17).toInt by omega) (by omega))
        refine zr_iload hB 7 dX9_best_81 rfl ?_
        refine zr_bipush hB dX9_best_83 rfl (fun c51 ec51 => ?_)
        refine zr_icmp_eq hB dX9_best_85 (tgt := 101) rfl (fun c52 => ?_) (fun c52 => ?_)
        · refine zr_iload hB 10 dX9_best_101 rfl ?_
          refine zr_istore hB dX9_best_103 (by decide) (lv' := [(5, .int y8_27), (10, .int r45), (9, .int r41), (0, .ref (zk K 0)), (1, .int p1), (2, .int p2), (3, .int p3), (4, .int p4), (6, .int y6_25), (7, .int y7_26), (8, .int y8_27)]) rfl ?_
          refine zr_iload hB 2 dX9_best_105 rfl ?_
          refine zr_istore hB dX9_best_107 (by decide) (lv' := [(6, .int r41), (5, .int y8_27), (10, .int r45), (9, .int r41), (0, .ref (zk K 0)), (1, .int p1), (2, .int p2), (3, .int p3), (4, .int p4), (7, .int y7_26), (8, .int y8_27)]) rfl ?_
          refine zr_iload hB 2 dX9_best_109 rfl ?_
          refine zr_istore hB dX9_best_111 (by decide) (lv' := [(7, .int r45), (6, .int r41), (5, .int y8_27), (10, .int r45), (9, .int r41), (0, .ref (zk K 0)), (1, .int p1), (2, .int p2), (3, .int p3), (4, .int p4), (8, .int y8_27)]) rfl ?_
          refine zr_iinc hB 10 dX9_best_113 rfl (by decide) rfl (by omega) (by omega) (fun x53 ex53 lv' hlv => ?_)
          obtain rfl : [(8, .int x53), (7, .int r45), (6, .int r41), (5, .int y8_27), (10, .int r45), (9, .int r41), (0, .ref (zk K 0)), (1, .int p1), (2, .int p2), (3, .int p3), (4, .int p4)] = lv' := hlv
          refine zr_goto hB dX9_best_116 (tgt := 38) rfl ?_
          have b54 : 0 ≤ (σ35.1 0 17).toInt ∧ (σ35.1 0 17).toInt ≤ 6 := ⟨(hO37 0 17).1, (hO37 0 17).2.1⟩
          exact zc_sub [6, 7, 8, 9, 10, 3, 2, 1, 0] rfl (ih38 σ35 y8_27 r41 r45 x53 hO37 hA39 (by omega) (by omega) (by omega) (by omega) (by omega) (by omega) (show (σ35.1 0 17).toInt ≤ 6 by omega) (show 0 ≤ (σ35.1 0 17).toInt by omega) (by omega))
        refine zr_iload hB 0 dX9_best_88 rfl ?_
        refine zr_iload hB 8 dX9_best_90 rfl ?_
        refine zr_imulw hB dX9_best_92 (fun x55 ex55 => ?_)
        refine zr_iload hB 9 dX9_best_93 rfl ?_
        refine zr_iload hB 1 dX9_best_95 rfl ?_
        refine zr_imulw hB dX9_best_97 (fun x56 ex56 => ?_)
        refine zr_icmp_ge hB dX9_best_98 (tgt := 113) rfl (fun c57 => ?_) (fun c57 => ?_)
        · refine zr_iinc hB 10 dX9_best_113 rfl (by decide) rfl (by omega) (by omega) (fun x58 ex58 lv' hlv => ?_)
          obtain rfl : [(8, .int x58), (10, .int r45), (9, .int r41), (0, .ref (zk K 0)), (1, .int p1), (2, .int p2), (3, .int p3), (4, .int p4), (5, .int y5_24), (6, .int y6_25), (7, .int y7_26)] = lv' := hlv
          refine zr_goto hB dX9_best_116 (tgt := 38) rfl ?_
          have b59 : 0 ≤ (σ35.1 0 17).toInt ∧ (σ35.1 0 17).toInt ≤ 6 := ⟨(hO37 0 17).1, (hO37 0 17).2.1⟩
          exact zc_sub [3, 4, 5, 6, 7, 8, 9, 10, 0] rfl (ih38 σ35 y5_24 y6_25 y7_26 x58 hO37 hA39 (by omega) (by omega) (by omega) (by omega) (by omega) (by omega) (show (σ35.1 0 17).toInt ≤ 6 by omega) (show 0 ≤ (σ35.1 0 17).toInt by omega) (by omega))
        refine zr_iload hB 10 dX9_best_101 rfl ?_
        refine zr_istore hB dX9_best_103 (by decide) (lv' := [(5, .int y8_27), (10, .int r45), (9, .int r41), (0, .ref (zk K 0)), (1, .int p1), (2, .int p2), (3, .int p3), (4, .int p4), (6, .int y6_25), (7, .int y7_26), (8, .int y8_27)]) rfl ?_
        refine zr_iload hB 2 dX9_best_105 rfl ?_
        refine zr_istore hB dX9_best_107 (by decide) (lv' := [(6, .int r41), (5, .int y8_27), (10, .int r45), (9, .int r41), (0, .ref (zk K 0)), (1, .int p1), (2, .int p2), (3, .int p3), (4, .int p4), (7, .int y7_26), (8, .int y8_27)]) rfl ?_
        refine zr_iload hB 2 dX9_best_109 rfl ?_
        refine zr_istore hB dX9_best_111 (by decide) (lv' := [(7, .int r45), (6, .int r41), (5, .int y8_27), (10, .int r45), (9, .int r41), (0, .ref (zk K 0)), (1, .int p1), (2, .int p2), (3, .int p3), (4, .int p4), (8, .int y8_27)]) rfl ?_
        refine zr_iinc hB 10 dX9_best_113 rfl (by decide) rfl (by omega) (by omega) (fun x60 ex60 lv' hlv => ?_)
        obtain rfl : [(8, .int x60), (7, .int r45), (6, .int r41), (5, .int y8_27), (10, .int r45), (9, .int r41), (0, .ref (zk K 0)), (1, .int p1), (2, .int p2), (3, .int p3), (4, .int p4)] = lv' := hlv
        refine zr_goto hB dX9_best_116 (tgt := 38) rfl ?_
        have b61 : 0 ≤ (σ35.1 0 17).toInt ∧ (σ35.1 0 17).toInt ≤ 6 := ⟨(hO37 0 17).1, (hO37 0 17).2.1⟩
        exact zc_sub [6, 7, 8, 9, 10, 3, 2, 1, 0] rfl (ih38 σ35 y8_27 r41 r45 x60 hO37 hA39 (by omega) (by omega) (by omega) (by omega) (by omega) (by omega) (show (σ35.1 0 17).toInt ≤ 6 by omega) (show 0 ≤ (σ35.1 0 17).toInt by omega) (by omega))
    exact zc_sub [4, 5, 6, 7, 8, 3, 2, 1, 0] rfl (L38_31 8 σ0 c20 c21 c22 c23 hO0 hA0 (by omega) (by omega) (by omega) (by omega) (by omega) (by omega) (show (σ0.1 0 17).toInt ≤ 6 by omega) (show 0 ≤ (σ0.1 0 17).toInt by omega) (by omega))
  have q62 := r15q.f c18
  refine zr_iconst hB dX9_best_23 rfl (fun c63 ec63 => ?_)
  exact zr_iret hG dX9_best_24 ⟨hO0, hA0⟩
