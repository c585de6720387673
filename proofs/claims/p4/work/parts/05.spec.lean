/-! the class's rows: a chain of tellings, and what it says -/
def zx_lk (σ : zc_S) (on : Int) : Nat → Nat → Int
  | 0, _ => -4
  | _ + 1, 0 => -4
  | n + 1, i + 1 => if (σ.1 13 i).toInt ≤ on then (σ.1 14 i).toInt else zx_lk σ on n (σ.1 12 i).toInt.toNat
/-- the chains go back: nothing is told behind the last telling -/
def zx_C (σ : zc_S) : Prop := (∀ c : Nat, (σ.1 11 c).toInt ≤ (σ.1 1 1).toInt) ∧ ∀ i : Nat, (i : Int) < (σ.1 1 1).toInt → (σ.1 12 i).toInt ≤ i
/-- what is known of a place on a day -/
def zx_A (σ : zc_S) (c : Nat) (on : Int) : Int := zx_lk σ on (σ.1 1 1).toInt.toNat (σ.1 11 c).toInt.toNat
theorem zx_fuel {σ : zc_S} {on : Int} (h : zx_C σ) : ∀ (b at' n m : Nat), at' ≤ b → at' ≤ n → at' ≤ m → (at' : Int) ≤ (σ.1 1 1).toInt → zx_lk σ on n at' = zx_lk σ on m at' := by
  intro b
  induction b with
  | zero =>
    intro a n m h1 _ _ _
    obtain rfl : a = 0 := by omega
    cases n <;> cases m <;> rfl
  | succ b ih =>
    intro a n m h1 h2 h3 h4
    cases a with
    | zero => cases n <;> cases m <;> rfl
    | succ i =>
      cases n with
      | zero => omega
      | succ n =>
        cases m with
        | zero => omega
        | succ m =>
          have q := h.2 i (by omega)
          simp only [zx_lk]
          split
          · rfl
          · exact ih _ n m (by omega) (by omega) (by omega) (by omega)
theorem zx_same {σ τ : zc_S} {on : Int} (h : zx_C σ) : ∀ (n at' : Nat), (at' : Int) ≤ (σ.1 1 1).toInt → (∀ i : Nat, i < at' → τ.1 12 i = σ.1 12 i ∧ τ.1 13 i = σ.1 13 i ∧ τ.1 14 i = σ.1 14 i) → zx_lk τ on n at' = zx_lk σ on n at' := by
  intro n
  induction n with
  | zero => intro a _ _; rfl
  | succ n ih =>
    intro a h4 hs
    cases a with
    | zero => rfl
    | succ i =>
      have q := h.2 i (by omega)
      obtain ⟨e1, e2, e3⟩ := hs i (Nat.lt_succ_self i)
      simp only [zx_lk, e1, e2, e3]
      split
      · rfl
      · exact ih _ (by omega) (fun j hj => hs j (by omega))
/-- one telling more, of place c -/
def zx_T (σ τ : zc_S) (c : Nat) (v : Int) : Prop := (τ.1 1 1).toInt = (σ.1 1 1).toInt + 1 ∧ zx_C τ ∧ ∀ (c' : Nat) (on : Int), zx_A τ c' on = if c' = c ∧ (σ.1 1 0).toInt ≤ on then v else zx_A σ c' on
def zx_tl (σ : zc_S) (c : Nat) (lt nw v n1 : Int32) : zc_S := zc_u (zc_u (zc_u (zc_u (zc_u σ 12 (σ.1 1 1).toInt.toNat lt) 13 (σ.1 1 1).toInt.toNat nw) 14 (σ.1 1 1).toInt.toNat v) 1 1 n1) 11 c n1
theorem zx_tell {σ : zc_S} {c : Nat} {v n1 : Int32} (hC : zx_C σ) (h0 : 0 ≤ (σ.1 1 1).toInt) (hl : ∀ c, 0 ≤ (σ.1 11 c).toInt) (hn : n1.toInt = (σ.1 1 1).toInt + 1) : zx_T σ (zx_tl σ c (σ.1 11 c) (σ.1 1 0) v n1) c v.toInt := by
  have hk : ∀ k j, (zx_tl σ c (σ.1 11 c) (σ.1 1 0) v n1).1 k j = if k = 11 ∧ j = c then n1 else if k = 1 ∧ j = 1 then n1 else if k = 14 ∧ j = (σ.1 1 1).toInt.toNat then v else if k = 13 ∧ j = (σ.1 1 1).toInt.toNat then σ.1 1 0 else if k = 12 ∧ j = (σ.1 1 1).toInt.toNat then σ.1 11 c else σ.1 k j := fun k j => rfl
  generalize zx_tl σ c (σ.1 11 c) (σ.1 1 0) v n1 = τ at hk ⊢
  have e1 : τ.1 1 1 = n1 := by rw [hk]; simp
  have e11 : ∀ j, τ.1 11 j = if j = c then n1 else σ.1 11 j := by intro j; rw [hk]; simp
  have e12 : ∀ j, τ.1 12 j = if j = (σ.1 1 1).toInt.toNat then σ.1 11 c else σ.1 12 j := by intro j; rw [hk]; simp
  have e13 : ∀ j, τ.1 13 j = if j = (σ.1 1 1).toInt.toNat then σ.1 1 0 else σ.1 13 j := by intro j; rw [hk]; simp
  have e14 : ∀ j, τ.1 14 j = if j = (σ.1 1 1).toInt.toNat then v else σ.1 14 j := by intro j; rw [hk]; simp
  have hT : zx_C τ := by
    refine ⟨fun j => ?_, fun i hi => ?_⟩
    · rw [e1, e11]
      have := hC.1 j
      split <;> omega
    · rw [e1] at hi
      rw [e12]
      split
      · have := hC.1 c
        omega
      · exact hC.2 i (by omega)
  refine ⟨by rw [e1]; exact hn, hT, fun c' on => ?_⟩
  have lo : ∀ i : Nat, i < (σ.1 1 1).toInt.toNat → τ.1 12 i = σ.1 12 i ∧ τ.1 13 i = σ.1 13 i ∧ τ.1 14 i = σ.1 14 i := by
    intro i hi
    rw [e12, e13, e14, if_neg (by omega), if_neg (by omega), if_neg (by omega)]
    exact ⟨rfl, rfl, rfl⟩
  have hb := hC.1 c'
  have hb0 := hl c'
  have low : ∀ n, zx_lk τ on n (σ.1 11 c').toInt.toNat = zx_lk σ on n (σ.1 11 c').toInt.toNat := fun n => zx_same hC n _ (by omega) (fun i hi => lo i (by omega))
  unfold zx_A
  rw [e1, e11]
  by_cases hc : c' = c
  · subst hc
    rw [if_pos rfl, hn, show ((σ.1 1 1).toInt + 1).toNat = (σ.1 1 1).toInt.toNat + 1 by omega]
    simp only [zx_lk, e12, e13, e14, eq_self_iff_true, if_true, true_and]
    split
    · rfl
    · exact low _
  · rw [if_neg hc, if_neg (fun h => hc h.1), low, hn]
    exact zx_fuel hC _ _ _ _ (Nat.le_refl _) (by omega) (by omega) (by omega)
theorem zx_C.ag {M : zc_ms} {σ τ : zc_S} (h : zx_C σ) (ha : zc_Ag M σ τ) (h1 : zc_im M 1 1 = false) (h2 : ∀ j, zc_im M 11 j = false) (h3 : ∀ j, zc_im M 12 j = false) : zx_C τ := by
  refine ⟨fun c => ?_, fun i hi => ?_⟩
  · rw [(ha 11 c (h2 c)).1, (ha 1 1 h1).1]; exact h.1 c
  · rw [(ha 1 1 h1).1] at hi
    rw [(ha 12 i (h3 i)).1]; exact h.2 i hi
theorem zx_A.ag {M : zc_ms} {σ τ : zc_S} (ha : zc_Ag M σ τ) (h1 : zc_im M 1 1 = false) (h2 : ∀ j, zc_im M 11 j = false) (h3 : ∀ j, zc_im M 12 j = false) (h4 : ∀ j, zc_im M 13 j = false) (h5 : ∀ j, zc_im M 14 j = false) (c : Nat) (on : Int) : zx_A τ c on = zx_A σ c on := by
  unfold zx_A
  rw [(ha 1 1 h1).1, (ha 11 c (h2 c)).1]
  generalize (σ.1 1 1).toInt.toNat = n
  generalize (σ.1 11 c).toInt.toNat = k
  induction n generalizing k with
  | zero => rfl
  | succ n ih =>
    cases k with
    | zero => rfl
    | succ i =>
      simp only [zx_lk]
      rw [(ha 12 i (h3 i)).1, (ha 13 i (h4 i)).1, (ha 14 i (h5 i)).1]
      split
      · rfl
      · exact ih _
theorem zx_none {σ : zc_S} {on : Int} {n a : Nat} (h : n = 0 ∨ a = 0) : zx_lk σ on n a = -4 := by
  rcases h with rfl | rfl
  · rfl
  · cases n <;> rfl
theorem zx_no {σ : zc_S} {on a n : Int} (hn : 0 < n) (ha : 0 < a) (h : on < (σ.1 13 (a - 1).toNat).toInt) : zx_lk σ on n.toNat a.toNat = zx_lk σ on (n - 1).toNat (σ.1 12 (a - 1).toNat).toInt.toNat := by
  rw [show n.toNat = (n - 1).toNat + 1 by omega, show a.toNat = (a - 1).toNat + 1 by omega]
  simp only [zx_lk]
  rw [if_neg (by omega)]
theorem zx_yes {σ : zc_S} {on a n : Int} (hn : 0 < n) (ha : 0 < a) (h : (σ.1 13 (a - 1).toNat).toInt ≤ on) : zx_lk σ on n.toNat a.toNat = (σ.1 14 (a - 1).toNat).toInt := by
  rw [show n.toNat = (n - 1).toNat + 1 by omega, show a.toNat = (a - 1).toNat + 1 by omega]
  simp only [zx_lk]
  rw [if_pos h]
/-! the reference's table -/
def zy_I (σ τ : zc_S) (c : Nat) (v t L : Int) : Prop := ∀ c' on : Nat, c' < 256 → on < 64 → (τ.1 1 (256 * on + c')).toInt = if c' = c ∧ t ≤ (on : Int) ∧ (on : Int) < L then v else (σ.1 1 (256 * on + c')).toInt
theorem zy_I0 {σ : zc_S} {c : Nat} {v t L : Int} (h : L ≤ t) : zy_I σ σ c v t L := by
  intro c' on _ _
  rw [if_neg (by omega)]
theorem zy_Iu {σ τ : zc_S} {c : Nat} {v t L : Int} {q : Nat} {x : Int32} (h : zy_I σ τ c v t L) (h1 : t ≤ L) (h0 : 0 ≤ t) (hc : c < 256) (hq : (q : Int) = 256 * L + c) (hx : x.toInt = v) : zy_I σ (zc_u τ 1 q x) c v t (L + 1) := by
  intro c' on h2 h3
  rw [zc_u_at]
  unfold upd
  by_cases e : 256 * on + c' = q
  · rw [if_pos e, if_pos (by omega), hx]
  · rw [if_neg e, h c' on h2 h3]
    by_cases g : c' = c ∧ t ≤ (on : Int) ∧ (on : Int) < L
    · rw [if_pos g, if_pos (by omega)]
    · rw [if_neg g, if_neg (by omega)]
theorem zy_In {σ τ : zc_S} {c : Nat} {v t L : Int} {k j : Nat} {x : Int32} (h : zy_I σ τ c v t L) (hk : 1 ≠ k) : zy_I σ (zc_u τ k j x) c v t L := by
  intro c' on h2 h3
  rw [zc_u_ne _ _ _ _ hk]
  exact h c' on h2 h3
/-- one telling more in the table -/
def zy_T (σ τ : zc_S) (c : Nat) (v : Int) : Prop := (τ.1 0 2).toInt = (σ.1 0 2).toInt + 1 ∧ zy_I σ τ c (v + 1) (σ.1 0 1).toInt 64
def zl_Q (a t : Int) : Prop := (a = -4 ∧ t = 0) ∨ (0 ≤ a ∧ t = a + 1)
def zl_rows (σX σM : zc_S) : Prop := ∀ c on : Nat, c < 256 → on < 64 → zl_Q (zx_A σX c on) (σM.1 1 (256 * on + c)).toInt
theorem zl_tell {σX σM τX τM : zc_S} {c : Nat} {v w : Int} (h : zl_rows σX σM) (hn : (σX.1 1 0).toInt = (σM.1 0 1).toInt) (hX : zx_T σX τX c v) (hM : zy_T σM τM c w) (hv : zl_Q v (w + 1)) : zl_rows τX τM := by
  intro c' on h1 h2
  rw [hX.2.2 c' on, hM.2 c' on h1 h2, hn]
  by_cases e : c' = c ∧ (σM.1 0 1).toInt ≤ (on : Int)
  · rw [if_pos e, if_pos (by omega)]; exact hv
  · rw [if_neg e, if_neg (by omega)]; exact h c' on h1 h2
/-! reading from sheets: the pure picture -/
def zq_nm (v : Int) : Int := if v < 0 then -4 else v
def zq_rd (t : Int) (c0 : Nat) (cl : Nat → Int) (A : Nat → Int → Int) : Nat → Nat → Int → Int
  | 0 => A
  | i + 1 => fun c on => if zq_rd t c0 cl A i (c0 + i) t = zq_nm (cl i) then zq_rd t c0 cl A i c on else if c = c0 + i ∧ t ≤ on then zq_nm (cl i) else zq_rd t c0 cl A i c on
def zq_rn (t : Int) (c0 : Nat) (cl : Nat → Int) (A : Nat → Int → Int) : Nat → Int
  | 0 => 0
  | i + 1 => zq_rn t c0 cl A i + if zq_rd t c0 cl A i (c0 + i) t = zq_nm (cl i) then 0 else 1
def zq_cn (t : Int) (c0 : Nat) (cl : Nat → Int) (A : Nat → Int → Int) : Nat → Int
  | 0 => 0
  | i + 1 => zq_cn t c0 cl A i + if A (c0 + i) t = zq_nm (cl i) then 0 else 1
section ZQ
variable {t : Int} {c0 : Nat} {cl cl' : Nat → Int} {A B : Nat → Int → Int}
theorem zq_hi {on : Int} : ∀ (i k : Nat), i ≤ k → zq_rd t c0 cl A i (c0 + k) on = A (c0 + k) on
  | 0, _, _ => rfl
  | i + 1, k, h => by
    have e := zq_hi (on := on) i k (by omega)
    simp only [zq_rd]
    split
    · exact e
    · rw [if_neg (by omega)]; exact e
theorem zq_rn_cn : ∀ i : Nat, zq_rn t c0 cl A i = zq_cn t c0 cl A i
  | 0 => rfl
  | i + 1 => by simp only [zq_rn, zq_cn]; rw [zq_rn_cn i, zq_hi i i (Nat.le_refl i)]
theorem zq_cn_mono : ∀ (n i : Nat), i ≤ n → zq_cn t c0 cl A i ≤ zq_cn t c0 cl A n
  | 0, i, h => by obtain rfl : i = 0 := by omega
                  exact Int.le_refl _
  | n + 1, i, h => by
    by_cases e : i = n + 1
    · subst e; exact Int.le_refl _
    · have q := zq_cn_mono n i (by omega)
      simp only [zq_cn]
      split <;> omega
theorem zq_cong {n : Nat} (hA : ∀ (c : Nat) (on : Int), c < 256 → 0 ≤ on → on < 64 → A c on = B c on) (hcl : ∀ i, i < n → cl i = cl' i) (h0 : 0 ≤ t) (h1 : t < 64) (hc : c0 + n ≤ 256) : ∀ i, i ≤ n → (∀ (c : Nat) (on : Int), c < 256 → 0 ≤ on → on < 64 → zq_rd t c0 cl A i c on = zq_rd t c0 cl' B i c on) ∧ zq_rn t c0 cl A i = zq_rn t c0 cl' B i
  | 0, _ => ⟨hA, rfl⟩
  | i + 1, hi => by
    obtain ⟨e1, e2⟩ := zq_cong hA hcl h0 h1 hc i (by omega)
    have e3 := hcl i (by omega)
    have e4 := e1 (c0 + i) t (by omega) h0 h1
    refine ⟨fun c on g1 g2 g3 => ?_, ?_⟩
    · simp only [zq_rd]
      rw [e3, e4, e1 c on g1 g2 g3]
    · simp only [zq_rn]
      rw [e2, e3, e4]
theorem zq_cn_cong {n : Nat} (hA : ∀ (c : Nat) (on : Int), c < 256 → 0 ≤ on → on < 64 → A c on = B c on) (hcl : ∀ i, i < n → cl i = cl' i) (h0 : 0 ≤ t) (h1 : t < 64) (hc : c0 + n ≤ 256) (i : Nat) (hi : i ≤ n) : zq_cn t c0 cl A i = zq_cn t c0 cl' B i := by
  rw [← zq_rn_cn, ← zq_rn_cn]
  exact (zq_cong hA hcl h0 h1 hc i hi).2
end ZQ
/-- so many days can be read -/
def zq_G (fl : Nat → Prop) (cl cn : Nat → Int) (tl : Int) (R : Nat) : Prop := ∀ i, i < R → ¬ fl i ∧ cl i ≤ 999 ∧ tl + cn (i + 1) ≤ 200
def zq_E (fl : Nat → Prop) (cl cn : Nat → Int) (tl : Int) (n : Nat) (same : Prop) (told : Nat → Prop) : Prop := ∃ R : Nat, R ≤ n ∧ zq_G fl cl cn tl R ∧ (((R = n ∨ fl R) ∧ told R) ∨ (R < n ∧ ¬ fl R ∧ (999 < cl R ∨ 200 < tl + cn (R + 1)) ∧ same))
theorem zq_both {fl fl' : Nat → Prop} {cl cl' cn cn' : Nat → Int} {tl tl' : Int} {n : Nat} {same same' : Prop} {told told' : Nat → Prop} (hf : ∀ i, fl i ↔ fl' i) (hc : ∀ i, ¬ fl i → cl i = cl' i) (hn : ∀ R, (∀ i, i < R → cl i = cl' i) → R ≤ n → cn R = cn' R) (ht : tl = tl') (h : zq_E fl cl cn tl n same told) (h' : zq_E fl' cl' cn' tl' n same' told') : (∃ R, R ≤ n ∧ (∀ i, i < R → cl i = cl' i) ∧ told R ∧ told' R) ∨ (same ∧ same') := by
  subst ht
  obtain ⟨R, r1, r2, r3⟩ := h
  obtain ⟨Q, q1, q2, q3⟩ := h'
  have hcR : ∀ i, i < R → cl i = cl' i := fun i hi => hc i (r2 i hi).1
  have e : R = Q := by
    rcases Nat.lt_trichotomy R Q with l | l | l
    · exfalso
      have z := q2 R l
      have nf : ¬ fl R := fun x => z.1 ((hf R).mp x)
      have ec := hc R nf
      have en := hn (R + 1) (fun i hi => by
        by_cases g : i < R
        · exact hcR i g
        · obtain rfl : i = R := by omega
          exact ec) (by omega)
      rcases r3 with ⟨y, _⟩ | ⟨_, _, y, _⟩
      · rcases y with y | y
        · omega
        · exact nf y
      · rw [ec, en] at y
        omega
    · exact l
    · exfalso
      have z := r2 Q l
      have nf : ¬ fl' Q := fun x => z.1 ((hf Q).mpr x)
      have ec := hc Q z.1
      have en := hn (Q + 1) (fun i hi => hcR i (by omega)) (by omega)
      rcases q3 with ⟨y, _⟩ | ⟨_, _, y, _⟩
      · rcases y with y | y
        · omega
        · exact nf y
      · rw [← ec, ← en] at y
        omega
  subst e
  rcases r3 with ⟨y, ty⟩ | ⟨a1, a2, a3, a4⟩
  · rcases q3 with ⟨x, tx⟩ | ⟨b1, b2, b3, b4⟩
    · exact Or.inl ⟨R, r1, hcR, ty, tx⟩
    · exfalso
      rcases y with y | y
      · omega
      · exact b2 ((hf R).mp y)
  · rcases q3 with ⟨x, tx⟩ | ⟨b1, b2, b3, b4⟩
    · exfalso
      rcases x with x | x
      · omega
      · exact a2 ((hf R).mpr x)
    · exact Or.inr ⟨a4, b4⟩
/-! the class's side -/
def zx_cl (σ : zc_S) (k f : Int) (j : Nat) : Int := (σ.1 39 (k * 64 + f + j).toNat).toInt
def zx_R (σ0 σ : zc_S) (c0 : Nat) (cl : Nat → Int) (i : Nat) : Prop := zx_C σ ∧ (∀ (c : Nat) (on : Int), zx_A σ c on = zq_rd (σ0.1 1 0).toInt c0 cl (zx_A σ0) i c on) ∧ (σ.1 1 1).toInt = (σ0.1 1 1).toInt + zq_rn (σ0.1 1 0).toInt c0 cl (zx_A σ0) i
theorem zx_R0 {σ : zc_S} {c0 : Nat} {cl : Nat → Int} {i : Nat} (h : zx_C σ) (hi : i = 0) : zx_R σ σ c0 cl i := by
  subst hi
  exact ⟨h, fun _ _ => rfl, (Int.add_zero _).symm⟩
theorem zx_Rk {σ0 σ : zc_S} {c0 : Nat} {cl : Nat → Int} {i n : Nat} (h : zx_R σ0 σ c0 cl i) (hn : n = i + 1) (hk : zx_A σ (c0 + i) (σ0.1 1 0).toInt = zq_nm (cl i)) : zx_R σ0 σ c0 cl n := by
  subst hn
  rw [h.2.1] at hk
  refine ⟨h.1, fun c on => ?_, ?_⟩
  · rw [h.2.1]; simp only [zq_rd]; rw [if_pos hk]
  · rw [h.2.2]; simp only [zq_rn]; rw [if_pos hk]; omega
theorem zx_Rt {σ0 σ τ : zc_S} {c0 : Nat} {cl : Nat → Int} {i n : Nat} (h : zx_R σ0 σ c0 cl i) (hn : n = i + 1) (hk : ¬ zx_A σ (c0 + i) (σ0.1 1 0).toInt = zq_nm (cl i)) (h0 : (σ.1 1 0).toInt = (σ0.1 1 0).toInt) (hT : zx_T σ τ (c0 + i) (zq_nm (cl i))) : zx_R σ0 τ c0 cl n := by
  subst hn
  rw [h.2.1] at hk
  refine ⟨hT.2.1, fun c on => ?_, ?_⟩
  · rw [hT.2.2, h0, h.2.1]; simp only [zq_rd]; rw [if_neg hk]
  · rw [hT.1, h.2.2]; simp only [zq_rn]; rw [if_neg hk]; omega
theorem zx_R.ag {M : zc_ms} {σ0 σ τ : zc_S} {c0 : Nat} {cl : Nat → Int} {i : Nat} (h : zx_R σ0 σ c0 cl i) (ha : zc_Ag M σ τ) (h1 : zc_im M 1 1 = false) (h2 : ∀ j, zc_im M 11 j = false) (h3 : ∀ j, zc_im M 12 j = false) (h4 : ∀ j, zc_im M 13 j = false) (h5 : ∀ j, zc_im M 14 j = false) : zx_R σ0 τ c0 cl i :=
  ⟨h.1.ag ha h1 h2 h3, fun c on => by rw [zx_A.ag ha h1 h2 h3 h4 h5]; exact h.2.1 c on, by rw [(ha 1 1 h1).1]; exact h.2.2⟩
/-! the reference's side -/
def zy_A (σ : zc_S) (c : Nat) (on : Int) : Int := if (σ.1 1 (256 * on.toNat + c)).toInt ≤ 0 then -4 else (σ.1 1 (256 * on.toNat + c)).toInt - 1
def zy_cl (σ : zc_S) (k f : Int) (j : Nat) : Int := (σ.1 26 (64 * k + f + j).toNat).toInt
def zy_R (σ0 σ : zc_S) (c0 : Nat) (cl : Nat → Int) (i : Nat) : Prop := (∀ (c : Nat) (on : Int), c < 256 → 0 ≤ on → on < 64 → zy_A σ c on = zq_rd (σ0.1 0 1).toInt c0 cl (zy_A σ0) i c on) ∧ (σ.1 0 2).toInt = (σ0.1 0 2).toInt + zq_rn (σ0.1 0 1).toInt c0 cl (zy_A σ0) i
theorem zy_R0 {σ : zc_S} {c0 : Nat} {cl : Nat → Int} {i : Nat} (hi : i = 0) : zy_R σ σ c0 cl i := by
  subst hi
  exact ⟨fun _ _ _ _ _ => rfl, (Int.add_zero _).symm⟩
theorem zy_At {σ τ : zc_S} {c c' : Nat} {v on : Int} (hT : zy_T σ τ c' v) (hc : c < 256) (h0 : 0 ≤ on) (h1 : on < 64) : zy_A τ c on = if c = c' ∧ (σ.1 0 1).toInt ≤ on then (if v + 1 ≤ 0 then -4 else v) else zy_A σ c on := by
  have q := hT.2 c on.toNat hc (by omega)
  unfold zy_A
  by_cases e : c = c' ∧ (σ.1 0 1).toInt ≤ on
  · rw [if_pos (by omega)] at q
    rw [q, if_pos e]
    split
    · rfl
    · omega
  · rw [if_neg (by omega)] at q
    rw [q, if_neg e]
theorem zy_Rk {σ0 σ : zc_S} {c0 : Nat} {cl : Nat → Int} {i n : Nat} (h : zy_R σ0 σ c0 cl i) (hn : n = i + 1) (hc : c0 + i < 256) (h0 : 0 ≤ (σ0.1 0 1).toInt) (h1 : (σ0.1 0 1).toInt < 64) (hk : zy_A σ (c0 + i) (σ0.1 0 1).toInt = zq_nm (cl i)) : zy_R σ0 σ c0 cl n := by
  subst hn
  rw [h.1 _ _ hc h0 h1] at hk
  refine ⟨fun c on g1 g2 g3 => ?_, ?_⟩
  · rw [h.1 c on g1 g2 g3]; simp only [zq_rd]; rw [if_pos hk]
  · rw [h.2]; simp only [zq_rn]; rw [if_pos hk]; omega
theorem zy_Rt {σ0 σ τ : zc_S} {c0 : Nat} {cl : Nat → Int} {i n : Nat} {v : Int} (h : zy_R σ0 σ c0 cl i) (hn : n = i + 1) (hc : c0 + i < 256) (h0 : 0 ≤ (σ0.1 0 1).toInt) (h1 : (σ0.1 0 1).toInt < 64) (hs : (σ.1 0 1).toInt = (σ0.1 0 1).toInt) (hk : ¬ zy_A σ (c0 + i) (σ0.1 0 1).toInt = zq_nm (cl i)) (hT : zy_T σ τ (c0 + i) v) (hv : (if v + 1 ≤ 0 then -4 else v) = zq_nm (cl i)) : zy_R σ0 τ c0 cl n := by
  subst hn
  rw [h.1 _ _ hc h0 h1] at hk
  refine ⟨fun c on g1 g2 g3 => ?_, ?_⟩
  · rw [zy_At hT g1 g2 g3, hv, hs, h.1 c on g1 g2 g3]; simp only [zq_rd]; rw [if_neg hk]
  · rw [hT.1, h.2]; simp only [zq_rn]; rw [if_neg hk]; omega
theorem zx_or {P Q R S : Prop} (h : (P ∧ Q) ∨ (R ∧ S)) (hn : ¬ P) : S := by
  rcases h with ⟨a, _⟩ | ⟨_, b⟩
  · exact absurd a hn
  · exact b
theorem zq_cnk {t : Int} {c0 : Nat} {cl : Nat → Int} {A : Nat → Int → Int} {i : Nat} (h : A (c0 + i) t = zq_nm (cl i)) : zq_cn t c0 cl A (i + 1) = zq_cn t c0 cl A i := by
  simp only [zq_cn]; rw [if_pos h]; omega
theorem zq_cnt {t : Int} {c0 : Nat} {cl : Nat → Int} {A : Nat → Int → Int} {i : Nat} (h : ¬ A (c0 + i) t = zq_nm (cl i)) : zq_cn t c0 cl A (i + 1) = zq_cn t c0 cl A i + 1 := by
  simp only [zq_cn]; rw [if_neg h]
theorem zq_G1 {fl : Nat → Prop} {cl cn : Nat → Int} {tl : Int} {R n : Nat} (h : zq_G fl cl cn tl R) (hn : n = R + 1) (h1 : ¬ fl R) (h2 : cl R ≤ 999) (h3 : tl + cn (R + 1) ≤ 200) : zq_G fl cl cn tl n := by
  subst hn
  intro i hi
  by_cases e : i = R
  · subst e; exact ⟨h1, h2, h3⟩
  · exact h i (by omega)
theorem zq_G.le {fl : Nat → Prop} {cl cn : Nat → Int} {tl : Int} {R : Nat} (h : zq_G fl cl cn tl R) (h0 : cn 0 = 0) (ht : tl ≤ 200) : tl + cn R ≤ 200 := by
  match R, h with
  | 0, _ => rw [h0]; omega
  | R + 1, h => exact (h R (Nat.lt_succ_self R)).2.2
theorem zq_Gz {fl : Nat → Prop} {cl cn : Nat → Int} {tl : Int} {R : Nat} (h : R = 0) : zq_G fl cl cn tl R := by
  subst h
  exact fun i hi => absurd hi (Nat.not_lt_zero i)
theorem zx_room {σ0 σ : zc_S} {c0 : Nat} {cl : Nat → Int} {i n : Nat} (h : zx_R σ0 σ c0 cl i) (hN : (σ0.1 1 1).toInt + zq_cn (σ0.1 1 0).toInt c0 cl (zx_A σ0) n ≤ 200) (hi : i < n) (hk : ¬ zx_A σ (c0 + i) (σ0.1 1 0).toInt = zq_nm (cl i)) : (σ.1 1 1).toInt < 200 := by
  have q := zq_cn_mono (t := (σ0.1 1 0).toInt) (c0 := c0) (cl := cl) (A := zx_A σ0) n (i + 1) hi
  rw [h.2.1, zq_hi i i (Nat.le_refl i)] at hk
  rw [zq_cnt hk] at q
  have e := h.2.2
  rw [zq_rn_cn] at e
  omega
theorem zy_room {σ0 σ : zc_S} {c0 : Nat} {cl : Nat → Int} {i n : Nat} (h : zy_R σ0 σ c0 cl i) (hN : (σ0.1 0 2).toInt + zq_cn (σ0.1 0 1).toInt c0 cl (zy_A σ0) n ≤ 200) (hi : i < n) (hc : c0 + i < 256) (h0 : 0 ≤ (σ0.1 0 1).toInt) (h1 : (σ0.1 0 1).toInt < 64) (hk : ¬ zy_A σ (c0 + i) (σ0.1 0 1).toInt = zq_nm (cl i)) : (σ.1 0 2).toInt < 200 := by
  have q := zq_cn_mono (t := (σ0.1 0 1).toInt) (c0 := c0) (cl := cl) (A := zy_A σ0) n (i + 1) hi
  rw [h.1 _ _ hc h0 h1, zq_hi i i (Nat.le_refl i)] at hk
  rw [zq_cnt hk] at q
  have e := h.2
  rw [zq_rn_cn] at e
  omega
def zx_fl (σ : zc_S) (k l f : Int) (i : Nat) : Prop := ¬ ((σ.1 37 k.toNat).toInt = l ∧ 0 ≤ f + i ∧ f + i < (σ.1 38 k.toNat).toInt)
def zy_fl (σ : zc_S) (k l f : Int) (i : Nat) : Prop := ¬ ((σ.1 24 k.toNat).toInt = l ∧ 0 ≤ f + i ∧ f + i < (σ.1 25 k.toNat).toInt)
theorem zn_add3 {z x y : Int32} (e : z = x + y) : z.toInt = x.toInt + y.toInt ∨ z.toInt = x.toInt + y.toInt - 4294967296 ∨ z.toInt = x.toInt + y.toInt + 4294967296 := by
  have h : z.toInt = (x.toInt + y.toInt).bmod (2 ^ 32) := by rw [e]; exact Int32.toInt_add x y
  have a1 := zn_lo x
  have a2 := zn_hi x
  have b1 := zn_lo y
  have b2 := zn_hi y
  rw [h, Int.bmod_def]
  split <;> omega
theorem zy_A.ag {M : zc_ms} {σ τ : zc_S} (ha : zc_Ag M σ τ) (h1 : ∀ j, zc_im M 1 j = false) (c : Nat) (on : Int) : zy_A τ c on = zy_A σ c on := by
  unfold zy_A
  rw [(ha 1 _ (h1 _)).1]
theorem zy_R.ag {M : zc_ms} {σ0 σ τ : zc_S} {c0 : Nat} {cl : Nat → Int} {i : Nat} (h : zy_R σ0 σ c0 cl i) (ha : zc_Ag M σ τ) (h1 : ∀ j, zc_im M 1 j = false) (h2 : zc_im M 0 2 = false) : zy_R σ0 τ c0 cl i :=
  ⟨fun c on g1 g2 g3 => by rw [zy_A.ag ha h1]; exact h.1 c on g1 g2 g3, by rw [(ha 0 2 h2).1]; exact h.2⟩
/-! cells of sheets -/
def zv_Z (σ τ : zc_S) (c : Nat) (a n : Int) : Prop := ∀ q : Nat, (τ.1 c q).toInt = if a ≤ (q : Int) ∧ (q : Int) < a + n then 0 else (σ.1 c q).toInt
theorem zv_Z0 {σ τ : zc_S} {c : Nat} {a n : Int} (h : n ≤ 0) (e : τ.1 c = σ.1 c) : zv_Z σ τ c a n := by
  intro q
  rw [if_neg (by omega), e]
theorem zv_Zu {σ τ : zc_S} {c i : Nat} {a n m : Int} {x : Int32} (h : zv_Z σ τ c a n) (hm : m = n + 1) (hn : 0 ≤ n) (hi : (i : Int) = a + n) (hx : x.toInt = 0) : zv_Z σ (zc_u τ c i x) c a m := by
  subst hm
  intro q
  rw [zc_u_at]
  unfold upd
  by_cases e : q = i
  · rw [if_pos e, if_pos (by omega), hx]
  · rw [if_neg e, h q]
    by_cases g : a ≤ (q : Int) ∧ (q : Int) < a + n
    · rw [if_pos g, if_pos (by omega)]
    · rw [if_neg g, if_neg (by omega)]
def zv_nr (l v : Int) : Int := if l = 0 then v.bmod 256 else if l = 1 then v.bmod 65536 else v
theorem zv_b {x z : Int32} (e : z = x.toInt8.toInt32) : z.toInt = x.toInt.bmod 256 := by
  rw [e, Int8.toInt_toInt32, Int32.toInt_toInt8]
theorem zv_s {x z : Int32} (e : z = x.toInt16.toInt32) : z.toInt = x.toInt.bmod 65536 := by
  rw [e, Int16.toInt_toInt32, Int32.toInt_toInt16]
theorem zv_24 {x z w y y' : Int32} (hz : z = x <<< (y &&& 31)) (hw : w = z >>> (y' &&& 31)) (ey : y.toInt = 24) (ey' : y'.toInt = 24) : w.toInt = x.toInt.bmod 256 := by
  obtain rfl : y = 24 := by rw [zn_eq]; exact ey
  obtain rfl : y' = 24 := by rw [zn_eq]; exact ey'
  have h1 := pk_shl x ((24 : Int32) &&& 31) 24 (by decide)
  have h2 := pk_shr z ((24 : Int32) &&& 31) 24 (by decide)
  rw [← hz] at h1
  rw [← hw, Int.shiftRight_eq_div_pow] at h2
  have h3 : z.toInt = z.toBitVec.toInt := rfl
  have h4 : x.toInt = x.toBitVec.toInt := rfl
  rw [BitVec.toInt_eq_toNat_cond] at h3 h4
  have h5 := x.toBitVec.isLt
  have h6 := z.toBitVec.isLt
  rw [Int.bmod_def]
  split at h3 <;> split at h4 <;> split <;> omega
theorem zv_16 {x z w y y' : Int32} (hz : z = x <<< (y &&& 31)) (hw : w = z >>> (y' &&& 31)) (ey : y.toInt = 16) (ey' : y'.toInt = 16) : w.toInt = x.toInt.bmod 65536 := by
  obtain rfl : y = 16 := by rw [zn_eq]; exact ey
  obtain rfl : y' = 16 := by rw [zn_eq]; exact ey'
  have h1 := pk_shl x ((16 : Int32) &&& 31) 16 (by decide)
  have h2 := pk_shr z ((16 : Int32) &&& 31) 16 (by decide)
  rw [← hz] at h1
  rw [← hw, Int.shiftRight_eq_div_pow] at h2
  have h3 : z.toInt = z.toBitVec.toInt := rfl
  have h4 : x.toInt = x.toBitVec.toInt := rfl
  rw [BitVec.toInt_eq_toNat_cond] at h3 h4
  have h5 := x.toBitVec.isLt
  have h6 := z.toBitVec.isLt
  rw [Int.bmod_def]
  split at h3 <;> split at h4 <;> split <;> omega
