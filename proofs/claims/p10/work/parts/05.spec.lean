/-! the tape: signs, tokens -/
/-- the sign at a place, or -4 behind the end -/
def zw_b (c : Nat) (len : Int) (σ : zc_S) (i : Nat) : Int := if (i : Int) < len then (σ.1 c i).toInt else -4
def zw_sp (x : Int) : Bool := decide (x = 32)
def zw_le (x : Int) : Bool := decide (97 ≤ x ∧ x ≤ 122)
def zw_di (x : Int) : Bool := decide (48 ≤ x ∧ x ≤ 57)
def zw_run (p : Int → Bool) (b : Nat → Int) : Nat → Nat → Nat
  | 0, q => q
  | k + 1, q => if p (b q) then zw_run p b k (q + 1) else q
/-- where a run of such signs ends -/
def zw_to (p : Int → Bool) (b : Nat → Int) (q : Nat) : Nat := zw_run p b (120 - q) q
theorem zw_go {p : Int → Bool} {b : Nat → Int} {q n : Nat} (h : q < 120) (hp : p (b q) = true) (hn : n = q + 1) : zw_to p b q = zw_to p b n := by
  subst hn
  unfold zw_to
  rw [show 120 - q = (120 - (q + 1)) + 1 by omega]
  simp only [zw_run, hp, if_true]
theorem zw_no {p : Int → Bool} {b : Nat → Int} {q : Nat} (hp : p (b q) = false ∨ 120 ≤ q) : zw_to p b q = q := by
  unfold zw_to
  by_cases h : q < 120
  · rw [show 120 - q = (119 - q) + 1 by omega]
    simp only [zw_run]
    rw [if_neg]
    rcases hp with hp | hp
    · rw [hp]; decide
    · omega
  · rw [show 120 - q = 0 by omega]
    rfl
theorem zw_rge (p : Int → Bool) (b : Nat → Int) : ∀ k q : Nat, q ≤ zw_run p b k q ∧ zw_run p b k q ≤ q + k
  | 0, q => ⟨Nat.le_refl q, Nat.le_refl q⟩
  | k + 1, q => by
    have h := zw_rge p b k (q + 1)
    simp only [zw_run]
    split <;> omega
theorem zw_ge (p : Int → Bool) (b : Nat → Int) (q : Nat) : q ≤ zw_to p b q := (zw_rge p b _ q).1
theorem zw_le120 (p : Int → Bool) (b : Nat → Int) {q : Nat} (h : q ≤ 120) : zw_to p b q ≤ 120 := by
  have := (zw_rge p b (120 - q) q).2
  unfold zw_to
  omega
/-- the token behind a place: where it begins, its kind, where it ends, its fault -/
def zw_s (b : Nat → Int) (q : Nat) : Nat := zw_to zw_sp b q
def zw_kd (x : Int) : Int := if x = -4 then 0 else if 97 ≤ x ∧ x ≤ 122 then 1 else if 48 ≤ x ∧ x ≤ 57 then 2 else 3
def zw_k (b : Nat → Int) (q : Nat) : Int := zw_kd (b (zw_s b q))
def zw_e (b : Nat → Int) (q : Nat) : Nat := if zw_k b q = 0 then zw_s b q else if zw_k b q = 1 then zw_to zw_le b (zw_s b q) else if zw_k b q = 2 then zw_to zw_di b (zw_s b q) else zw_s b q + 1
def zw_f (b : Nat → Int) (q : Nat) : Int := if zw_k b q = 2 ∧ zw_s b q + 2 < zw_e b q then 1 else if zw_k b q = 3 ∧ ¬ b (zw_s b q) = 59 then 1 else 0
/-- a number of one or two digits -/
def zw_v (b : Nat → Int) (s e : Nat) : Int := if e ≤ s + 1 then b s - 48 else (b s - 48) * 10 + (b (s + 1) - 48)
/-- the name, by its number -/
def zw_is (b : Nat → Int) (s e i : Nat) : Prop := e = s + zc_len.getD i 0 ∧ ∀ j, j < zc_len.getD i 0 → b (s + j) = ((zc_byt.getD i []).getD j 0).toInt
noncomputable def zw_nm (b : Nat → Int) (s e : Nat) : Int := by
  classical
  exact if zw_is b s e 0 then 0 else if zw_is b s e 1 then 1 else if zw_is b s e 2 then 2 else if zw_is b s e 3 then 3 else if zw_is b s e 4 then 4 else -4
/-! a reader's state: fault, start, stop, token -/
abbrev zw_P : Type := Int × Nat × Nat × Int
def zw_tk (b : Nat → Int) (q : Nat) : zw_P := (zw_f b q, zw_s b q, zw_e b q, zw_k b q)
def zw_adv (b : Nat → Int) (P : zw_P) : zw_P := if P.1 = 0 then zw_tk b P.2.2.1 else P
def zw_chk (w : Int) (P : zw_P) : zw_P := if P.1 = 0 ∧ ¬ P.2.2.2 = w then (2, P.2) else P
def zw_rng (v lo hi : Int) (P : zw_P) : zw_P := if P.1 = 0 ∧ (v < lo ∨ hi < v) then (3, P.2) else P
def zw_val (b : Nat → Int) (P : zw_P) : Int := if P.1 = 0 then zw_v b P.2.1 P.2.2.1 else 0
def zw_lo (k : Int) : Int := if k = 2 then 0 else 1
def zw_hi (k : Int) : Int := if k = 0 then 14 else if k = 1 then 20 else if k = 2 then 10 else if k = 3 then 8 else 30
/-- the name's number, where the token is a name -/
noncomputable def zw_kn (b : Nat → Int) (P : zw_P) : Int := if P.2.2.2 = 1 then zw_nm b P.2.1 P.2.2.1 else -4
/-- the fault of a line's head -/
def zw_hd (k n : Int) : Int := if k < 0 then 2 else if n = 6 then 4 else if k = 4 ∧ n = 0 then 5 else 0
def zw_1 (b : Nat → Int) (k : Int) (P : zw_P) : zw_P := zw_rng (zw_val b (zw_chk 2 (zw_adv b P))) (zw_lo k) (zw_hi k) (zw_chk 2 (zw_adv b P))
def zw_v1 (b : Nat → Int) (P : zw_P) : Int := zw_val b (zw_chk 2 (zw_adv b P))
def zw_2 (b : Nat → Int) (k : Int) (P : zw_P) : zw_P := if k = 2 then zw_1 b k P else P
def zw_v2 (b : Nat → Int) (k : Int) (P : zw_P) : Int := if k = 2 then zw_v1 b P else 0
/-- a line of kind k behind its name: the state behind it -/
def zw_ln (b : Nat → Int) (k : Int) (P : zw_P) : zw_P := zw_chk 3 (zw_adv b (zw_2 b k (zw_1 b k P)))
/-- lines: how many, and what they say -/
abbrev zw_L : Type := Int × (Nat → Int) × (Nat → Int) × (Nat → Int)
def zw_put (L : zw_L) (k x y : Int) : zw_L := (L.1 + 1, fun i => if (i : Int) = L.1 then k else L.2.1 i, fun i => if (i : Int) = L.1 then x else L.2.2.1 i, fun i => if (i : Int) = L.1 then y else L.2.2.2 i)
/-- one line more -/
noncomputable def zw_one (b : Nat → Int) (S : zw_P × zw_L) : zw_P × zw_L :=
  if ¬ zw_hd (zw_kn b S.1) S.2.1 = 0 then ((zw_hd (zw_kn b S.1) S.2.1, S.1.2), S.2)
  else if (zw_ln b (zw_kn b S.1) S.1).1 = 0 then (zw_adv b (zw_ln b (zw_kn b S.1) S.1), zw_put S.2 (zw_kn b S.1) (zw_v1 b S.1) (zw_v2 b (zw_kn b S.1) (zw_1 b (zw_kn b S.1) S.1)))
  else (zw_ln b (zw_kn b S.1) S.1, S.2)
noncomputable def zw_it (b : Nat → Int) : Nat → zw_P × zw_L → zw_P × zw_L
  | 0, S => S
  | n + 1, S => if S.1.1 = 0 ∧ ¬ S.1.2.2.2 = 0 then zw_it b n (zw_one b S) else S
theorem zw_itn {b : Nat → Int} {S : zw_P × zw_L} (h : ¬ (S.1.1 = 0 ∧ ¬ S.1.2.2.2 = 0)) (n : Nat) : zw_it b n S = S := by
  cases n with
  | zero => rfl
  | succ n => simp only [zw_it]; rw [if_neg h]
theorem zw_its {b : Nat → Int} {S : zw_P × zw_L} {n m : Nat} (hn : n = m + 1) (h : S.1.1 = 0) (h2 : ¬ S.1.2.2.2 = 0) : zw_it b n S = zw_it b m (zw_one b S) := by
  subst hn; simp only [zw_it]; rw [if_pos ⟨h, h2⟩]
/-! the class's side: cell 2 is the tape, cell 8 its lines -/
def zw_bX (σ : zc_S) : Nat → Int := zw_b 17 (σ.1 2 1).toInt σ
def zw_X (σ : zc_S) : zw_P := ((σ.1 2 3).toInt, (σ.1 2 5).toInt.toNat, (σ.1 2 6).toInt.toNat, (σ.1 2 4).toInt)
def zw_LX (σ : zc_S) : zw_L := ((σ.1 8 0).toInt, fun i => (σ.1 40 i).toInt, fun i => (σ.1 41 i).toInt, fun i => (σ.1 42 i).toInt)
theorem zw_X_mk {σ : zc_S} {f k : Int} {s e : Nat} (h1 : (σ.1 2 3).toInt = f) (h2 : (σ.1 2 5).toInt = s) (h3 : (σ.1 2 6).toInt = e) (h4 : (σ.1 2 4).toInt = k) : zw_X σ = (f, s, e, k) := by
  unfold zw_X
  rw [h1, h2, h3, h4]
  rfl
theorem zw_bX.ag {M : zc_ms} {σ τ : zc_S} (ha : zc_Ag M σ τ) (h1 : zc_im M 2 1 = false) (h2 : ∀ j, zc_im M 17 j = false) : zw_bX τ = zw_bX σ := by
  funext i
  unfold zw_bX zw_b
  rw [(ha 2 1 h1).1, (ha 17 i (h2 i)).1]
/-! the reference's side -/
def zw_bM (σ : zc_S) : Nat → Int := zw_b 4 (σ.1 0 6).toInt σ
def zw_M (σ : zc_S) : zw_P := ((σ.1 0 8).toInt, (σ.1 0 11).toInt.toNat, (σ.1 0 10).toInt.toNat, (σ.1 0 12).toInt)
def zw_LM (σ : zc_S) : zw_L := ((σ.1 0 21).toInt, fun i => (σ.1 11 i).toInt, fun i => (σ.1 12 i).toInt, fun i => (σ.1 13 i).toInt)
theorem zw_M_mk {σ : zc_S} {f k : Int} {s e : Nat} (h1 : (σ.1 0 8).toInt = f) (h2 : (σ.1 0 11).toInt = s) (h3 : (σ.1 0 10).toInt = e) (h4 : (σ.1 0 12).toInt = k) : zw_M σ = (f, s, e, k) := by
  unfold zw_M
  rw [h1, h2, h3, h4]
  rfl
theorem zw_bM.ag {M : zc_ms} {σ τ : zc_S} (ha : zc_Ag M σ τ) (h1 : zc_im M 0 6 = false) (h2 : ∀ j, zc_im M 4 j = false) : zw_bM τ = zw_bM σ := by
  funext i
  unfold zw_bM zw_b
  rw [(ha 0 6 h1).1, (ha 4 i (h2 i)).1]
/-! facts of tokens -/
theorem zw_kd_r (x : Int) : 0 ≤ zw_kd x ∧ zw_kd x ≤ 3 := by
  unfold zw_kd
  split
  · omega
  · split
    · omega
    · split <;> omega
theorem zw_tk0 {b : Nat → Int} {q : Nat} (h : b (zw_s b q) = -4) : zw_tk b q = (0, zw_s b q, zw_s b q, 0) := by
  have hk : zw_k b q = 0 := by unfold zw_k zw_kd; rw [if_pos h]
  have he : zw_e b q = zw_s b q := by unfold zw_e; rw [if_pos hk]
  unfold zw_tk zw_f
  rw [hk, he, if_neg (by omega), if_neg (by omega)]
theorem zw_tk1 {b : Nat → Int} {q : Nat} (h : 97 ≤ b (zw_s b q)) (h2 : b (zw_s b q) ≤ 122) : zw_tk b q = (0, zw_s b q, zw_to zw_le b (zw_s b q), 1) := by
  have hk : zw_k b q = 1 := by unfold zw_k zw_kd; rw [if_neg (by omega), if_pos ⟨h, h2⟩]
  have he : zw_e b q = zw_to zw_le b (zw_s b q) := by unfold zw_e; rw [hk, if_neg (by decide), if_pos rfl]
  unfold zw_tk zw_f
  rw [hk, he, if_neg (by omega), if_neg (by omega)]
theorem zw_tk2 {b : Nat → Int} {q : Nat} (h : 48 ≤ b (zw_s b q)) (h2 : b (zw_s b q) ≤ 57) : zw_tk b q = ((if zw_s b q + 2 < zw_to zw_di b (zw_s b q) then 1 else 0), zw_s b q, zw_to zw_di b (zw_s b q), 2) := by
  have hk : zw_k b q = 2 := by unfold zw_k zw_kd; rw [if_neg (by omega), if_neg (by omega), if_pos ⟨h, h2⟩]
  have he : zw_e b q = zw_to zw_di b (zw_s b q) := by unfold zw_e; rw [hk, if_neg (by decide), if_neg (by decide), if_pos rfl]
  unfold zw_tk zw_f
  rw [hk, he]
  by_cases g : zw_s b q + 2 < zw_to zw_di b (zw_s b q)
  · rw [if_pos ⟨rfl, g⟩, if_pos g]
  · rw [if_neg (fun x => g x.2), if_neg (by omega), if_neg g]
theorem zw_tk3 {b : Nat → Int} {q : Nat} (h0 : ¬ b (zw_s b q) = -4) (h1 : ¬ (97 ≤ b (zw_s b q) ∧ b (zw_s b q) ≤ 122)) (h2 : ¬ (48 ≤ b (zw_s b q) ∧ b (zw_s b q) ≤ 57)) : zw_tk b q = ((if b (zw_s b q) = 59 then 0 else 1), zw_s b q, zw_s b q + 1, 3) := by
  have hk : zw_k b q = 3 := by unfold zw_k zw_kd; rw [if_neg h0, if_neg h1, if_neg h2]
  have he : zw_e b q = zw_s b q + 1 := by unfold zw_e; rw [hk, if_neg (by decide), if_neg (by decide), if_neg (by decide)]
  unfold zw_tk zw_f
  rw [hk, he, if_neg (by omega)]
  by_cases g : b (zw_s b q) = 59
  · rw [if_neg (fun x => x.2 g), if_pos g]
  · rw [if_pos ⟨rfl, g⟩, if_neg g]
theorem zw_bX_in {σ : zc_S} {i : Nat} (h : (i : Int) < (σ.1 2 1).toInt) : zw_bX σ i = (σ.1 17 i).toInt := by unfold zw_bX zw_b; rw [if_pos h]
theorem zw_bX_out {σ : zc_S} {i : Nat} (h : ¬ (i : Int) < (σ.1 2 1).toInt) : zw_bX σ i = -4 := by unfold zw_bX zw_b; rw [if_neg h]
theorem zw_bM_in {σ : zc_S} {i : Nat} (h : (i : Int) < (σ.1 0 6).toInt) : zw_bM σ i = (σ.1 4 i).toInt := by unfold zw_bM zw_b; rw [if_pos h]
theorem zw_bM_out {σ : zc_S} {i : Nat} (h : ¬ (i : Int) < (σ.1 0 6).toInt) : zw_bM σ i = -4 := by unfold zw_bM zw_b; rw [if_neg h]
theorem zw_adv_0 {b : Nat → Int} {P : zw_P} (h : P.1 = 0) : zw_adv b P = zw_tk b P.2.2.1 := by unfold zw_adv; rw [if_pos h]
theorem zw_adv_n {b : Nat → Int} {P : zw_P} (h : ¬ P.1 = 0) : zw_adv b P = P := by unfold zw_adv; rw [if_neg h]
theorem zw_chk_n {w : Int} {P : zw_P} (h : ¬ P.1 = 0 ∨ P.2.2.2 = w) : zw_chk w P = P := by unfold zw_chk; rw [if_neg (by rintro ⟨h1, h2⟩; rcases h with h | h; exact h h1; exact h2 h)]
theorem zw_chk_y {w : Int} {P : zw_P} (h : P.1 = 0) (h2 : ¬ P.2.2.2 = w) : zw_chk w P = (2, P.2) := by unfold zw_chk; rw [if_pos ⟨h, h2⟩]
theorem zw_rng_n {v lo hi : Int} {P : zw_P} (h : ¬ P.1 = 0 ∨ (lo ≤ v ∧ v ≤ hi)) : zw_rng v lo hi P = P := by unfold zw_rng; rw [if_neg (by rintro ⟨h1, h2⟩; rcases h with h | h; exact h h1; omega)]
theorem zw_rng_y {v lo hi : Int} {P : zw_P} (h : P.1 = 0) (h2 : v < lo ∨ hi < v) : zw_rng v lo hi P = (3, P.2) := by unfold zw_rng; rw [if_pos ⟨h, h2⟩]
theorem zw_X_f {σ : zc_S} {c : Int32} {f : Int} (h : c.toInt = f) : zw_X (zc_u σ 2 3 c) = (f, (zw_X σ).2) := by
  show (c.toInt, _) = (f, _)
  rw [h]
  rfl
theorem zw_M_f {σ : zc_S} {c : Int32} {f : Int} (h : c.toInt = f) : zw_M (zc_u σ 0 8 c) = (f, (zw_M σ).2) := by
  show (c.toInt, _) = (f, _)
  rw [h]
  rfl
/-- a number that was found: one digit or two -/
theorem zw_two {b : Nat → Int} {q : Nat} (hk : zw_k b q = 2) (hf : zw_f b q = 0) (h120 : zw_s b q < 120) : zw_s b q + 1 ≤ zw_e b q ∧ zw_e b q ≤ zw_s b q + 2 := by
  have hd : 48 ≤ b (zw_s b q) ∧ b (zw_s b q) ≤ 57 := by
    unfold zw_k zw_kd at hk
    by_cases g0 : b (zw_s b q) = -4
    · rw [if_pos g0] at hk; omega
    · rw [if_neg g0] at hk
      by_cases g1 : 97 ≤ b (zw_s b q) ∧ b (zw_s b q) ≤ 122
      · rw [if_pos g1] at hk; omega
      · rw [if_neg g1] at hk
        by_cases g2 : 48 ≤ b (zw_s b q) ∧ b (zw_s b q) ≤ 57
        · exact g2
        · rw [if_neg g2] at hk; omega
  have he : zw_e b q = zw_to zw_di b (zw_s b q) := by unfold zw_e; rw [hk, if_neg (by decide), if_neg (by decide), if_pos rfl]
  have h1 : zw_to zw_di b (zw_s b q) = zw_to zw_di b (zw_s b q + 1) := zw_go h120 (decide_eq_true hd) rfl
  have h2 := zw_ge zw_di b (zw_s b q + 1)
  refine ⟨by rw [he, h1]; exact h2, ?_⟩
  unfold zw_f at hf
  by_cases g : zw_s b q + 2 < zw_e b q
  · rw [if_pos ⟨hk, g⟩] at hf; omega
  · omega
theorem zw_got {b : Nat → Int} {w : Int} {P : zw_P} (h : (zw_chk w (zw_adv b P)).1 = 0) : P.1 = 0 ∧ zw_k b P.2.2.1 = w ∧ zw_f b P.2.2.1 = 0 ∧ zw_chk w (zw_adv b P) = zw_tk b P.2.2.1 := by
  by_cases h0 : P.1 = 0
  · rw [zw_adv_0 h0] at h ⊢
    by_cases hk : (zw_tk b P.2.2.1).1 = 0 ∧ ¬ (zw_tk b P.2.2.1).2.2.2 = w
    · rw [zw_chk_y hk.1 hk.2] at h
      have h9 : (2 : Int) = 0 := h
      omega
    · have e : zw_chk w (zw_tk b P.2.2.1) = zw_tk b P.2.2.1 := by unfold zw_chk; rw [if_neg hk]
      rw [e] at h ⊢
      refine ⟨h0, ?_, h, rfl⟩
      by_cases g : (zw_tk b P.2.2.1).2.2.2 = w
      · exact g
      · exact absurd ⟨h, g⟩ hk
  · rw [zw_adv_n h0, zw_chk_n (Or.inl h0)] at h
    exact absurd h h0
theorem zw_X_s {σ : zc_S} {P : zw_P} (h : zw_X σ = P) (h0 : 0 ≤ (σ.1 2 5).toInt) : (σ.1 2 5).toInt = (P.2.1 : Int) := by
  rw [← h]; show _ = (((σ.1 2 5).toInt.toNat : Nat) : Int); omega
theorem zw_X_e {σ : zc_S} {P : zw_P} (h : zw_X σ = P) (h0 : 0 ≤ (σ.1 2 6).toInt) : (σ.1 2 6).toInt = (P.2.2.1 : Int) := by
  rw [← h]; show _ = (((σ.1 2 6).toInt.toNat : Nat) : Int); omega
theorem zw_e2 {b : Nat → Int} {q : Nat} (hk : zw_k b q = 2) : zw_e b q = zw_to zw_di b (zw_s b q) := by unfold zw_e; rw [hk, if_neg (by decide), if_neg (by decide), if_pos rfl]
theorem zw_rin {p : Int → Bool} {b : Nat → Int} : ∀ k q i : Nat, q ≤ i → i < zw_run p b k q → p (b i) = true
  | 0, q, i, h1, h2 => by
    have : zw_run p b 0 q = q := rfl
    omega
  | k + 1, q, i, h1, h2 => by
    by_cases hp : p (b q) = true
    · by_cases e : i = q
      · subst e; exact hp
      · have h3 : zw_run p b (k + 1) q = zw_run p b k (q + 1) := by simp only [zw_run, hp, if_true]
        rw [h3] at h2
        exact zw_rin k (q + 1) i (by omega) h2
    · have h3 : zw_run p b (k + 1) q = q := by simp only [zw_run]; rw [if_neg hp]
      omega
theorem zw_in {p : Int → Bool} {b : Nat → Int} {q i : Nat} (h1 : q ≤ i) (h2 : i < zw_to p b q) : p (b i) = true := zw_rin _ _ _ h1 h2
theorem zw_di_in {σ : zc_S} {i : Nat} (h : zw_di (zw_bX σ i) = true) : (i : Int) < (σ.1 2 1).toInt ∧ 48 ≤ zw_bX σ i ∧ zw_bX σ i ≤ 57 := by
  have h1 := of_decide_eq_true h
  refine ⟨?_, h1⟩
  by_cases g : (i : Int) < (σ.1 2 1).toInt
  · exact g
  · rw [zw_bX_out g] at h1; omega
theorem zw_k2 {b : Nat → Int} {q : Nat} (hk : zw_k b q = 2) : 48 ≤ b (zw_s b q) ∧ b (zw_s b q) ≤ 57 := by
  unfold zw_k zw_kd at hk
  by_cases g0 : b (zw_s b q) = -4
  · rw [if_pos g0] at hk; omega
  · rw [if_neg g0] at hk
    by_cases g1 : 97 ≤ b (zw_s b q) ∧ b (zw_s b q) ≤ 122
    · rw [if_pos g1] at hk; omega
    · rw [if_neg g1] at hk
      by_cases g2 : 48 ≤ b (zw_s b q) ∧ b (zw_s b q) ≤ 57
      · exact g2
      · rw [if_neg g2] at hk; omega
theorem zw_to_len {p : Int → Bool} {σ : zc_S} {q : Nat} (hp : p (-4) = false) (h : (q : Int) ≤ (σ.1 2 1).toInt) : ((zw_to p (zw_bX σ) q : Nat) : Int) ≤ (σ.1 2 1).toInt := by
  by_cases g : ((zw_to p (zw_bX σ) q : Nat) : Int) ≤ (σ.1 2 1).toInt
  · exact g
  · have h1 := zw_in (p := p) (b := zw_bX σ) (q := q) (i := (σ.1 2 1).toInt.toNat) (by omega) (by omega)
    rw [zw_bX_out (by omega), hp] at h1
    exact absurd h1 (by decide)
theorem zw_e_len {σ : zc_S} {q : Nat} (h : (q : Int) ≤ (σ.1 2 1).toInt) : ((zw_e (zw_bX σ) q : Nat) : Int) ≤ (σ.1 2 1).toInt := by
  have hs : ((zw_s (zw_bX σ) q : Nat) : Int) ≤ (σ.1 2 1).toInt := zw_to_len rfl h
  have h0 : zw_kd (-4) = 0 := rfl
  unfold zw_e
  split
  · exact hs
  · rename_i g0
    split
    · exact zw_to_len rfl hs
    · split
      · exact zw_to_len rfl hs
      · by_cases g : ((zw_s (zw_bX σ) q : Nat) : Int) < (σ.1 2 1).toInt
        · omega
        · exfalso
          apply g0
          unfold zw_k
          rw [zw_bX_out g]
          rfl
theorem zw_nm0 {b : Nat → Int} {s e : Nat} (h : zw_is b s e 0) : zw_nm b s e = 0 := by unfold zw_nm; rw [if_pos h]
theorem zw_nm1 {b : Nat → Int} {s e : Nat} (h0 : ¬ zw_is b s e 0) (h : zw_is b s e 1) : zw_nm b s e = 1 := by unfold zw_nm; rw [if_neg h0, if_pos h]
theorem zw_nm2 {b : Nat → Int} {s e : Nat} (h0 : ¬ zw_is b s e 0) (h1 : ¬ zw_is b s e 1) (h : zw_is b s e 2) : zw_nm b s e = 2 := by unfold zw_nm; rw [if_neg h0, if_neg h1, if_pos h]
theorem zw_nm3 {b : Nat → Int} {s e : Nat} (h0 : ¬ zw_is b s e 0) (h1 : ¬ zw_is b s e 1) (h2 : ¬ zw_is b s e 2) (h : zw_is b s e 3) : zw_nm b s e = 3 := by unfold zw_nm; rw [if_neg h0, if_neg h1, if_neg h2, if_pos h]
theorem zw_nm4 {b : Nat → Int} {s e : Nat} (h0 : ¬ zw_is b s e 0) (h1 : ¬ zw_is b s e 1) (h2 : ¬ zw_is b s e 2) (h3 : ¬ zw_is b s e 3) (h : zw_is b s e 4) : zw_nm b s e = 4 := by unfold zw_nm; rw [if_neg h0, if_neg h1, if_neg h2, if_neg h3, if_pos h]
theorem zw_nm5 {b : Nat → Int} {s e : Nat} (h0 : ¬ zw_is b s e 0) (h1 : ¬ zw_is b s e 1) (h2 : ¬ zw_is b s e 2) (h3 : ¬ zw_is b s e 3) (h4 : ¬ zw_is b s e 4) : zw_nm b s e = -4 := by unfold zw_nm; rw [if_neg h0, if_neg h1, if_neg h2, if_neg h3, if_neg h4]
theorem zw_b1 {P Q : Prop} {r : Int} (h : (r = 1 ∧ P) ∨ (r = 0 ∧ Q)) (h1 : ¬ r = 0) : P := by
  rcases h with ⟨_, b⟩ | ⟨a, _⟩
  · exact b
  · exact absurd a h1
theorem zw_b0 {P Q : Prop} {r : Int} (h : (r = 1 ∧ P) ∨ (r = 0 ∧ Q)) (h1 : ¬ r = 1) : Q := by
  rcases h with ⟨a, _⟩ | ⟨_, b⟩
  · exact absurd a h1
  · exact b
theorem zw_LX_ag {M : zc_ms} {σ τ : zc_S} (ha : zc_Ag M σ τ) (h0 : zc_im M 8 0 = false) (h1 : ∀ j, zc_im M 40 j = false) (h2 : ∀ j, zc_im M 41 j = false) (h3 : ∀ j, zc_im M 42 j = false) : zw_LX τ = zw_LX σ := by
  unfold zw_LX
  rw [(ha 8 0 h0).1, show (fun i => (τ.1 40 i).toInt) = (fun i => (σ.1 40 i).toInt) from funext fun i => by rw [(ha 40 i (h1 i)).1], show (fun i => (τ.1 41 i).toInt) = (fun i => (σ.1 41 i).toInt) from funext fun i => by rw [(ha 41 i (h2 i)).1], show (fun i => (τ.1 42 i).toInt) = (fun i => (σ.1 42 i).toInt) from funext fun i => by rw [(ha 42 i (h3 i)).1]]
theorem zw_LX_put {σ : zc_S} {n : Nat} {k x y m : Int32} (hn : (n : Int) = (σ.1 8 0).toInt) (hm : m.toInt = (σ.1 8 0).toInt + 1) : zw_LX (zc_u (zc_u (zc_u (zc_u σ 40 n k) 41 n x) 42 n y) 8 0 m) = zw_put (zw_LX σ) k.toInt x.toInt y.toInt := by
  unfold zw_LX zw_put
  have e0 : ((zc_u (zc_u (zc_u (zc_u σ 40 n k) 41 n x) 42 n y) 8 0 m).1 8 0) = m := by simp [zc_u]
  have e1 : ∀ i, ((zc_u (zc_u (zc_u (zc_u σ 40 n k) 41 n x) 42 n y) 8 0 m).1 40 i) = if i = n then k else σ.1 40 i := by intro i; simp [zc_u]
  have e2 : ∀ i, ((zc_u (zc_u (zc_u (zc_u σ 40 n k) 41 n x) 42 n y) 8 0 m).1 41 i) = if i = n then x else σ.1 41 i := by intro i; simp [zc_u]
  have e3 : ∀ i, ((zc_u (zc_u (zc_u (zc_u σ 40 n k) 41 n x) 42 n y) 8 0 m).1 42 i) = if i = n then y else σ.1 42 i := by intro i; simp [zc_u]
  refine Prod.ext ?_ (Prod.ext ?_ (Prod.ext ?_ ?_))
  · show ((zc_u (zc_u (zc_u (zc_u σ 40 n k) 41 n x) 42 n y) 8 0 m).1 8 0).toInt = (σ.1 8 0).toInt + 1
    rw [e0]; exact hm
  · funext i
    show (_ : Int32).toInt = if (i : Int) = (σ.1 8 0).toInt then _ else _
    rw [e1]
    by_cases g : i = n
    · rw [if_pos g, if_pos (by omega)]
    · rw [if_neg g, if_neg (by omega)]
  · funext i
    show (_ : Int32).toInt = if (i : Int) = (σ.1 8 0).toInt then _ else _
    rw [e2]
    by_cases g : i = n
    · rw [if_pos g, if_pos (by omega)]
    · rw [if_neg g, if_neg (by omega)]
  · funext i
    show (_ : Int32).toInt = if (i : Int) = (σ.1 8 0).toInt then _ else _
    rw [e3]
    by_cases g : i = n
    · rw [if_pos g, if_pos (by omega)]
    · rw [if_neg g, if_neg (by omega)]
theorem zw_X_ag {M : zc_ms} {σ τ : zc_S} (ha : zc_Ag M σ τ) (h3 : zc_im M 2 3 = false) (h4 : zc_im M 2 4 = false) (h5 : zc_im M 2 5 = false) (h6 : zc_im M 2 6 = false) : zw_X τ = zw_X σ := by
  unfold zw_X
  rw [(ha 2 3 h3).1, (ha 2 4 h4).1, (ha 2 5 h5).1, (ha 2 6 h6).1]
theorem zw_one_h {b : Nat → Int} {P : zw_P} {L : zw_L} {f : Int} (hf : zw_hd (zw_kn b P) L.1 = f) (h : ¬ f = 0) : zw_one b (P, L) = ((f, P.2), L) := by
  unfold zw_one
  rw [if_pos (by show ¬ zw_hd (zw_kn b P) L.1 = 0; rw [hf]; exact h)]
  show ((zw_hd (zw_kn b P) L.1, P.2), L) = _
  rw [hf]
theorem zw_one_f {b : Nat → Int} {P : zw_P} {L : zw_L} {k : Int} (hk : zw_kn b P = k) (h0 : zw_hd k L.1 = 0) (h1 : ¬ (zw_ln b k P).1 = 0) : zw_one b (P, L) = (zw_ln b k P, L) := by
  subst hk
  unfold zw_one
  rw [if_neg (by intro h; exact h h0), if_neg h1]
theorem zw_one_y {b : Nat → Int} {P : zw_P} {L : zw_L} {k : Int} (hk : zw_kn b P = k) (h0 : zw_hd k L.1 = 0) (h1 : (zw_ln b k P).1 = 0) : zw_one b (P, L) = (zw_adv b (zw_ln b k P), zw_put L k (zw_v1 b P) (zw_v2 b k (zw_1 b k P))) := by
  subst hk
  unfold zw_one
  rw [if_neg (by intro h; exact h h0), if_pos h1]
theorem zw_ln2 {b : Nat → Int} {k : Int} {P : zw_P} (h : k = 2) : zw_ln b k P = zw_chk 3 (zw_adv b (zw_1 b k (zw_1 b k P))) := by unfold zw_ln zw_2; rw [if_pos h]
theorem zw_lnn {b : Nat → Int} {k : Int} {P : zw_P} (h : ¬ k = 2) : zw_ln b k P = zw_chk 3 (zw_adv b (zw_1 b k P)) := by unfold zw_ln zw_2; rw [if_neg h]
theorem zw_adv_len {σ : zc_S} {P : zw_P} (h : (P.2.2.1 : Int) ≤ (σ.1 2 1).toInt) : ((zw_adv (zw_bX σ) P).2.2.1 : Int) ≤ (σ.1 2 1).toInt := by
  unfold zw_adv
  split
  · exact zw_e_len h
  · exact h
theorem zw_chk_e {w : Int} {P : zw_P} : (zw_chk w P).2.2.1 = P.2.2.1 := by unfold zw_chk; split <;> rfl
theorem zw_rng_e {v lo hi : Int} {P : zw_P} : (zw_rng v lo hi P).2.2.1 = P.2.2.1 := by unfold zw_rng; split <;> rfl
theorem zw_1_len {σ : zc_S} {k : Int} {P : zw_P} (h : (P.2.2.1 : Int) ≤ (σ.1 2 1).toInt) : ((zw_1 (zw_bX σ) k P).2.2.1 : Int) ≤ (σ.1 2 1).toInt := by
  unfold zw_1
  rw [zw_rng_e, zw_chk_e]
  exact zw_adv_len h
theorem zw_ln_len {σ : zc_S} {k : Int} {P : zw_P} (h : (P.2.2.1 : Int) ≤ (σ.1 2 1).toInt) : ((zw_ln (zw_bX σ) k P).2.2.1 : Int) ≤ (σ.1 2 1).toInt := by
  unfold zw_ln
  rw [zw_chk_e]
  refine zw_adv_len ?_
  unfold zw_2
  split
  · exact zw_1_len (zw_1_len h)
  · exact zw_1_len h
theorem zw_one_len {σ : zc_S} {S : zw_P × zw_L} (h : (S.1.2.2.1 : Int) ≤ (σ.1 2 1).toInt) : ((zw_one (zw_bX σ) S).1.2.2.1 : Int) ≤ (σ.1 2 1).toInt := by
  unfold zw_one
  split
  · exact h
  · split
    · exact zw_adv_len (zw_ln_len h)
    · exact zw_ln_len h
theorem zw_or {P Q R S : Prop} (h : (P ∧ Q) ∨ (R ∧ S)) (hn : ¬ P) : S := by
  rcases h with ⟨a, _⟩ | ⟨_, b⟩
  · exact absurd a hn
  · exact b
/-- the lines at the start of a reading: none, over what lies in the rows -/
def zw_LX0 (σ : zc_S) : zw_L := (0, fun i => (σ.1 40 i).toInt, fun i => (σ.1 41 i).toInt, fun i => (σ.1 42 i).toInt)
noncomputable def zw_rX (σ : zc_S) : zw_P × zw_L := zw_it (zw_bX σ) 8 (zw_tk (zw_bX σ) 0, zw_LX0 σ)
theorem zw_LX0_ag {M : zc_ms} {σ τ : zc_S} (ha : zc_Ag M σ τ) (h0 : (τ.1 8 0).toInt = 0) (h1 : ∀ j, zc_im M 40 j = false) (h2 : ∀ j, zc_im M 41 j = false) (h3 : ∀ j, zc_im M 42 j = false) : zw_LX τ = zw_LX0 σ := by
  unfold zw_LX zw_LX0
  rw [h0, show (fun i => (τ.1 40 i).toInt) = (fun i => (σ.1 40 i).toInt) from funext fun i => by rw [(ha 40 i (h1 i)).1], show (fun i => (τ.1 41 i).toInt) = (fun i => (σ.1 41 i).toInt) from funext fun i => by rw [(ha 41 i (h2 i)).1], show (fun i => (τ.1 42 i).toInt) = (fun i => (σ.1 42 i).toInt) from funext fun i => by rw [(ha 42 i (h3 i)).1]]
theorem zw_step {b : Nat → Int} {S T R : zw_P × zw_L} {n m : Nat} (h : zw_it b n S = R) (hT : T = zw_one b S) (h1 : S.1.1 = 0) (h2 : ¬ S.1.2.2.2 = 0) (hn : 1 ≤ n) (hm : m = n - 1 ∨ ¬ T.1.1 = 0) : zw_it b m T = R := by
  rw [zw_its (m := n - 1) (by omega) h1 h2, ← hT] at h
  rcases hm with hm | hm
  · rw [hm]; exact h
  · rw [zw_itn (fun g => hm g.1)] at h ⊢
    exact h
/-! the tape, second half -/
def zw_TX (σ : zc_S) : zw_L := ((σ.1 3 0).toInt, fun i => (σ.1 18 i).toInt, fun i => (σ.1 19 i).toInt, fun i => (σ.1 20 i).toInt)
def zw_TM (σ : zc_S) : zw_L := ((σ.1 0 17).toInt, fun i => (σ.1 8 i).toInt, fun i => (σ.1 9 i).toInt, fun i => (σ.1 10 i).toInt)
theorem zw_TX_ag {M : zc_ms} {σ τ : zc_S} (ha : zc_Ag M σ τ) (h0 : zc_im M 3 0 = false) (h1 : ∀ j, zc_im M 18 j = false) (h2 : ∀ j, zc_im M 19 j = false) (h3 : ∀ j, zc_im M 20 j = false) : zw_TX τ = zw_TX σ := by
  unfold zw_TX
  rw [(ha 3 0 h0).1, show (fun i => (τ.1 18 i).toInt) = (fun i => (σ.1 18 i).toInt) from funext fun i => by rw [(ha 18 i (h1 i)).1], show (fun i => (τ.1 19 i).toInt) = (fun i => (σ.1 19 i).toInt) from funext fun i => by rw [(ha 19 i (h2 i)).1], show (fun i => (τ.1 20 i).toInt) = (fun i => (σ.1 20 i).toInt) from funext fun i => by rw [(ha 20 i (h3 i)).1]]

theorem zw_TM_ag {M : zc_ms} {σ τ : zc_S} (ha : zc_Ag M σ τ) (h0 : zc_im M 0 17 = false) (h1 : ∀ j, zc_im M 8 j = false) (h2 : ∀ j, zc_im M 9 j = false) (h3 : ∀ j, zc_im M 10 j = false) : zw_TM τ = zw_TM σ := by
  unfold zw_TM
  rw [(ha 0 17 h0).1, show (fun i => (τ.1 8 i).toInt) = (fun i => (σ.1 8 i).toInt) from funext fun i => by rw [(ha 8 i (h1 i)).1], show (fun i => (τ.1 9 i).toInt) = (fun i => (σ.1 9 i).toInt) from funext fun i => by rw [(ha 9 i (h2 i)).1], show (fun i => (τ.1 10 i).toInt) = (fun i => (σ.1 10 i).toInt) from funext fun i => by rw [(ha 10 i (h3 i)).1]]

theorem zw_LM_ag {M : zc_ms} {σ τ : zc_S} (ha : zc_Ag M σ τ) (h0 : zc_im M 0 21 = false) (h1 : ∀ j, zc_im M 11 j = false) (h2 : ∀ j, zc_im M 12 j = false) (h3 : ∀ j, zc_im M 13 j = false) : zw_LM τ = zw_LM σ := by
  unfold zw_LM
  rw [(ha 0 21 h0).1, show (fun i => (τ.1 11 i).toInt) = (fun i => (σ.1 11 i).toInt) from funext fun i => by rw [(ha 11 i (h1 i)).1], show (fun i => (τ.1 12 i).toInt) = (fun i => (σ.1 12 i).toInt) from funext fun i => by rw [(ha 12 i (h2 i)).1], show (fun i => (τ.1 13 i).toInt) = (fun i => (σ.1 13 i).toInt) from funext fun i => by rw [(ha 13 i (h3 i)).1]]

theorem zw_TX_put {σ : zc_S} {n : Nat} {k x y m : Int32} (hn : (n : Int) = (σ.1 3 0).toInt) (hm : m.toInt = (σ.1 3 0).toInt + 1) : zw_TX (zc_u (zc_u (zc_u (zc_u σ 18 n k) 19 n x) 20 n y) 3 0 m) = zw_put (zw_TX σ) k.toInt x.toInt y.toInt := by
  unfold zw_TX zw_put
  have e0 : ((zc_u (zc_u (zc_u (zc_u σ 18 n k) 19 n x) 20 n y) 3 0 m).1 3 0) = m := by simp [zc_u]
  have e1 : ∀ i, ((zc_u (zc_u (zc_u (zc_u σ 18 n k) 19 n x) 20 n y) 3 0 m).1 18 i) = if i = n then k else σ.1 18 i := by intro i; simp [zc_u]
  have e2 : ∀ i, ((zc_u (zc_u (zc_u (zc_u σ 18 n k) 19 n x) 20 n y) 3 0 m).1 19 i) = if i = n then x else σ.1 19 i := by intro i; simp [zc_u]
  have e3 : ∀ i, ((zc_u (zc_u (zc_u (zc_u σ 18 n k) 19 n x) 20 n y) 3 0 m).1 20 i) = if i = n then y else σ.1 20 i := by intro i; simp [zc_u]
  refine Prod.ext ?_ (Prod.ext ?_ (Prod.ext ?_ ?_))
  · show ((zc_u (zc_u (zc_u (zc_u σ 18 n k) 19 n x) 20 n y) 3 0 m).1 3 0).toInt = (σ.1 3 0).toInt + 1
    rw [e0]; exact hm
  · funext i
    show (_ : Int32).toInt = if (i : Int) = (σ.1 3 0).toInt then _ else _
    rw [e1]
    by_cases g : i = n
    · rw [if_pos g, if_pos (by omega)]
    · rw [if_neg g, if_neg (by omega)]
  · funext i
    show (_ : Int32).toInt = if (i : Int) = (σ.1 3 0).toInt then _ else _
    rw [e2]
    by_cases g : i = n
    · rw [if_pos g, if_pos (by omega)]
    · rw [if_neg g, if_neg (by omega)]
  · funext i
    show (_ : Int32).toInt = if (i : Int) = (σ.1 3 0).toInt then _ else _
    rw [e3]
    by_cases g : i = n
    · rw [if_pos g, if_pos (by omega)]
    · rw [if_neg g, if_neg (by omega)]

theorem zw_LM_put {σ : zc_S} {n : Nat} {k x y m : Int32} (hn : (n : Int) = (σ.1 0 21).toInt) (hm : m.toInt = (σ.1 0 21).toInt + 1) : zw_LM (zc_u (zc_u (zc_u (zc_u σ 11 n k) 12 n x) 13 n y) 0 21 m) = zw_put (zw_LM σ) k.toInt x.toInt y.toInt := by
  unfold zw_LM zw_put
  have e0 : ((zc_u (zc_u (zc_u (zc_u σ 11 n k) 12 n x) 13 n y) 0 21 m).1 0 21) = m := by simp [zc_u]
  have e1 : ∀ i, ((zc_u (zc_u (zc_u (zc_u σ 11 n k) 12 n x) 13 n y) 0 21 m).1 11 i) = if i = n then k else σ.1 11 i := by intro i; simp [zc_u]
  have e2 : ∀ i, ((zc_u (zc_u (zc_u (zc_u σ 11 n k) 12 n x) 13 n y) 0 21 m).1 12 i) = if i = n then x else σ.1 12 i := by intro i; simp [zc_u]
  have e3 : ∀ i, ((zc_u (zc_u (zc_u (zc_u σ 11 n k) 12 n x) 13 n y) 0 21 m).1 13 i) = if i = n then y else σ.1 13 i := by intro i; simp [zc_u]
  refine Prod.ext ?_ (Prod.ext ?_ (Prod.ext ?_ ?_))
  · show ((zc_u (zc_u (zc_u (zc_u σ 11 n k) 12 n x) 13 n y) 0 21 m).1 0 21).toInt = (σ.1 0 21).toInt + 1
    rw [e0]; exact hm
  · funext i
    show (_ : Int32).toInt = if (i : Int) = (σ.1 0 21).toInt then _ else _
    rw [e1]
    by_cases g : i = n
    · rw [if_pos g, if_pos (by omega)]
    · rw [if_neg g, if_neg (by omega)]
  · funext i
    show (_ : Int32).toInt = if (i : Int) = (σ.1 0 21).toInt then _ else _
    rw [e2]
    by_cases g : i = n
    · rw [if_pos g, if_pos (by omega)]
    · rw [if_neg g, if_neg (by omega)]
  · funext i
    show (_ : Int32).toInt = if (i : Int) = (σ.1 0 21).toInt then _ else _
    rw [e3]
    by_cases g : i = n
    · rw [if_pos g, if_pos (by omega)]
    · rw [if_neg g, if_neg (by omega)]

def zw_nb (b : Nat → Int) (lo hi : Int) (P : zw_P) : zw_P := zw_rng (zw_val b (zw_chk 2 P)) lo hi (zw_chk 2 P)
theorem zw_nb_a {b : Nat → Int} {lo hi : Int} {P : zw_P} (h : ¬ P.1 = 0) : zw_nb b lo hi P = P := by
  unfold zw_nb
  rw [zw_chk_n (Or.inl h), zw_rng_n (Or.inl h)]
theorem zw_nb_b {b : Nat → Int} {lo hi : Int} {P : zw_P} (h : P.1 = 0) (h2 : ¬ P.2.2.2 = 2) : zw_nb b lo hi P = (2, P.2) := by
  unfold zw_nb
  rw [zw_chk_y h h2, zw_rng_n (Or.inl (show ¬ (2 : Int) = 0 by decide))]
theorem zw_val_c {b : Nat → Int} {P : zw_P} (h : P.1 = 0) (h2 : P.2.2.2 = 2) : zw_val b (zw_chk 2 P) = zw_v b P.2.1 P.2.2.1 := by
  rw [zw_chk_n (Or.inr h2)]
  unfold zw_val
  rw [if_pos h]
theorem zw_nb_c {b : Nat → Int} {lo hi : Int} {P : zw_P} (h : P.1 = 0) (h2 : P.2.2.2 = 2) (h3 : lo ≤ zw_v b P.2.1 P.2.2.1 ∧ zw_v b P.2.1 P.2.2.1 ≤ hi) : zw_nb b lo hi P = P := by
  unfold zw_nb
  rw [zw_val_c h h2, zw_chk_n (Or.inr h2), zw_rng_n (Or.inr h3)]
theorem zw_nb_d {b : Nat → Int} {lo hi : Int} {P : zw_P} (h : P.1 = 0) (h2 : P.2.2.2 = 2) (h3 : zw_v b P.2.1 P.2.2.1 < lo ∨ hi < zw_v b P.2.1 P.2.2.1) : zw_nb b lo hi P = (3, P.2) := by
  unfold zw_nb
  rw [zw_val_c h h2, zw_chk_n (Or.inr h2), zw_rng_y h h3]
/-- the number that the reference keeps beside its token -/
def zw_V (σ : zc_S) : Prop := (σ.1 0 8).toInt = 0 → (σ.1 0 12).toInt = 2 → (σ.1 0 13).toInt = zw_v (zw_bM σ) (σ.1 0 11).toInt.toNat (σ.1 0 10).toInt.toNat
/-- the reference's constant rows: names and greatest numbers -/
def zw_K (σ : zc_S) : Prop := (∀ i : Nat, i < 5 → (σ.1 5 (i + 1)).toInt = (σ.1 5 i).toInt + ((zc_len.getD i 0 : Nat) : Int) ∧ ∀ j : Nat, j < zc_len.getD i 0 → (σ.1 6 ((σ.1 5 i).toInt.toNat + j)).toInt = ((zc_byt.getD i []).getD j 0).toInt) ∧ ∀ i : Nat, i < 5 → (σ.1 7 i).toInt = zw_hi (i : Int)
theorem zw_K.ag {M : zc_ms} {σ τ : zc_S} (h : zw_K σ) (ha : zc_Ag M σ τ) (_ : (0 : Nat) = 0) (h1 : ∀ j, zc_im M 5 j = false) (h2 : ∀ j, (zc_im M 6 j || zc_im M 7 j) = false) : zw_K τ := by
  have a6 : ∀ j, zc_im M 6 j = false := fun j => (Bool.or_eq_false_iff.mp (h2 j)).1
  have a7 : ∀ j, zc_im M 7 j = false := fun j => (Bool.or_eq_false_iff.mp (h2 j)).2
  refine ⟨fun i hi => ⟨?_, fun j hj => ?_⟩, fun i hi => ?_⟩
  · rw [(ha 5 _ (h1 _)).1, (ha 5 _ (h1 _)).1]; exact (h.1 i hi).1
  · rw [(ha 6 _ (a6 _)).1, (ha 5 _ (h1 _)).1]; exact (h.1 i hi).2 j hj
  · rw [(ha 7 _ (a7 _)).1]; exact h.2 i hi
theorem zw_M_ag {M : zc_ms} {σ τ : zc_S} (ha : zc_Ag M σ τ) (h3 : zc_im M 0 8 = false) (h4 : zc_im M 0 12 = false) (h5 : zc_im M 0 11 = false) (h6 : zc_im M 0 10 = false) : zw_M τ = zw_M σ := by
  unfold zw_M
  rw [(ha 0 8 h3).1, (ha 0 12 h4).1, (ha 0 11 h5).1, (ha 0 10 h6).1]
theorem zw_M_0 {σ : zc_S} (h : (σ.1 0 8).toInt = 0) : zw_M σ = (0, (zw_M σ).2) := by
  show ((σ.1 0 8).toInt, _) = _
  rw [h]
  rfl
theorem zw_M_s {σ : zc_S} {P : zw_P} (h : zw_M σ = P) (h0 : 0 ≤ (σ.1 0 11).toInt) : (σ.1 0 11).toInt = (P.2.1 : Int) := by
  rw [← h]; show _ = (((σ.1 0 11).toInt.toNat : Nat) : Int); omega
theorem zw_ge1 {p : Int → Bool} {b : Nat → Int} {q : Nat} (h : q < 120) (hp : p (b q) = true) : q + 1 ≤ zw_to p b q := by
  rw [zw_go h hp rfl]
  exact zw_ge p b (q + 1)
theorem zw_nm_of {b : Nat → Int} {s e i : Nat} (hi : i < 5) (hn : ∀ k, k < i → ¬ zw_is b s e k) (h : zw_is b s e i) : zw_nm b s e = (i : Int) := by
  match i, hi, hn, h with
  | 0, _, _, h => exact zw_nm0 h
  | 1, _, hn, h => exact zw_nm1 (hn 0 (by omega)) h
  | 2, _, hn, h => exact zw_nm2 (hn 0 (by omega)) (hn 1 (by omega)) h
  | 3, _, hn, h => exact zw_nm3 (hn 0 (by omega)) (hn 1 (by omega)) (hn 2 (by omega)) h
  | 4, _, hn, h => exact zw_nm4 (hn 0 (by omega)) (hn 1 (by omega)) (hn 2 (by omega)) (hn 3 (by omega)) h
  | n + 5, hi, _, _ => omega
theorem zw_nm_no {b : Nat → Int} {s e : Nat} (hn : ∀ k, k < 5 → ¬ zw_is b s e k) : zw_nm b s e = -4 := zw_nm5 (hn 0 (by omega)) (hn 1 (by omega)) (hn 2 (by omega)) (hn 3 (by omega)) (hn 4 (by omega))
/-- the same lines below their number -/
def zw_Lq (L L' : zw_L) : Prop := L.1 = L'.1 ∧ ∀ i : Nat, (i : Int) < L.1 → L.2.1 i = L'.2.1 i ∧ L.2.2.1 i = L'.2.2.1 i ∧ L.2.2.2 i = L'.2.2.2 i
theorem zw_Lq.sy {L L' : zw_L} (h : zw_Lq L L') : zw_Lq L' L := ⟨h.1.symm, fun i hi => by
  have q := h.2 i (by rw [h.1]; exact hi)
  exact ⟨q.1.symm, q.2.1.symm, q.2.2.symm⟩⟩
theorem zw_Lq.tr {L L' L'' : zw_L} (h : zw_Lq L L') (g : zw_Lq L' L'') : zw_Lq L L'' := ⟨h.1.trans g.1, fun i hi => by
  have q := h.2 i hi
  have p := g.2 i (by rw [← h.1]; exact hi)
  exact ⟨q.1.trans p.1, q.2.1.trans p.2.1, q.2.2.trans p.2.2⟩⟩
theorem zw_Lq.put {L L' : zw_L} (h : zw_Lq L L') (k x y : Int) : zw_Lq (zw_put L k x y) (zw_put L' k x y) := by
  refine ⟨?_, fun i hi => ?_⟩
  · show L.1 + 1 = L'.1 + 1
    rw [h.1]
  · have hi' : (i : Int) < L.1 + 1 := hi
    show (if (i : Int) = L.1 then k else L.2.1 i) = (if (i : Int) = L'.1 then k else L'.2.1 i) ∧ (if (i : Int) = L.1 then x else L.2.2.1 i) = (if (i : Int) = L'.1 then x else L'.2.2.1 i) ∧ (if (i : Int) = L.1 then y else L.2.2.2 i) = (if (i : Int) = L'.1 then y else L'.2.2.2 i)
    rw [← h.1]
    by_cases e : (i : Int) = L.1
    · rw [if_pos e, if_pos e, if_pos e, if_pos e, if_pos e, if_pos e]
      exact ⟨rfl, rfl, rfl⟩
    · rw [if_neg e, if_neg e, if_neg e, if_neg e, if_neg e, if_neg e]
      exact h.2 i (by omega)
theorem zw_one_cong {b : Nat → Int} {P : zw_P} {L L' : zw_L} (h : zw_Lq L L') : (zw_one b (P, L)).1 = (zw_one b (P, L')).1 ∧ zw_Lq (zw_one b (P, L)).2 (zw_one b (P, L')).2 := by
  have e := h.1
  by_cases g : zw_hd (zw_kn b P) L.1 = 0
  · have g' : zw_hd (zw_kn b P) L'.1 = 0 := by rw [← e]; exact g
    by_cases g2 : (zw_ln b (zw_kn b P) P).1 = 0
    · rw [zw_one_y rfl g g2, zw_one_y rfl g' g2]
      exact ⟨rfl, h.put _ _ _⟩
    · rw [zw_one_f rfl g g2, zw_one_f rfl g' g2]
      exact ⟨rfl, h⟩
  · have g' : ¬ zw_hd (zw_kn b P) L'.1 = 0 := by rw [← e]; exact g
    rw [zw_one_h rfl g, zw_one_h rfl g']
    exact ⟨by rw [e], h⟩
theorem zw_it_cong {b : Nat → Int} : ∀ (n : Nat) (P : zw_P) (L L' : zw_L), zw_Lq L L' → (zw_it b n (P, L)).1 = (zw_it b n (P, L')).1 ∧ zw_Lq (zw_it b n (P, L)).2 (zw_it b n (P, L')).2
  | 0, _, _, _, h => ⟨rfl, h⟩
  | n + 1, P, L, L', h => by
    by_cases g : P.1 = 0 ∧ ¬ P.2.2.2 = 0
    · rw [zw_its (S := (P, L)) rfl g.1 g.2, zw_its (S := (P, L')) rfl g.1 g.2]
      obtain ⟨a, c⟩ := zw_one_cong (b := b) (P := P) h
      have q := zw_it_cong (b := b) n (zw_one b (P, L)).1 (zw_one b (P, L)).2 (zw_one b (P, L')).2 c
      have e2 : ((zw_one b (P, L)).1, (zw_one b (P, L')).2) = zw_one b (P, L') := by rw [a]
      rw [e2] at q
      exact q
    · rw [zw_itn (S := (P, L)) g, zw_itn (S := (P, L')) g]
      exact ⟨rfl, h⟩
/-- the reference's reading -/
def zw_LM0 (σ : zc_S) : zw_L := (0, fun i => (σ.1 11 i).toInt, fun i => (σ.1 12 i).toInt, fun i => (σ.1 13 i).toInt)
noncomputable def zw_rM (σ : zc_S) : zw_P × zw_L := zw_it (zw_bM σ) 8 (zw_tk (zw_bM σ) 0, zw_LM0 σ)
theorem zw_LM0_ag {M : zc_ms} {σ τ : zc_S} (ha : zc_Ag M σ τ) (h0 : (τ.1 0 21).toInt = 0) (h1 : ∀ j, zc_im M 11 j = false) (h2 : ∀ j, zc_im M 12 j = false) (h3 : ∀ j, zc_im M 13 j = false) : zw_LM τ = zw_LM0 σ := by
  unfold zw_LM zw_LM0
  rw [h0, show (fun i => (τ.1 11 i).toInt) = (fun i => (σ.1 11 i).toInt) from funext fun i => by rw [(ha 11 i (h1 i)).1], show (fun i => (τ.1 12 i).toInt) = (fun i => (σ.1 12 i).toInt) from funext fun i => by rw [(ha 12 i (h2 i)).1], show (fun i => (τ.1 13 i).toInt) = (fun i => (σ.1 13 i).toInt) from funext fun i => by rw [(ha 13 i (h3 i)).1]]
theorem zw_same {σX σM : zc_S} (hb : zw_bX σX = zw_bM σM) : (zw_rX σX).1 = (zw_rM σM).1 ∧ zw_Lq (zw_rX σX).2 (zw_rM σM).2 := by
  unfold zw_rX zw_rM
  rw [hb]
  exact zw_it_cong 8 _ _ _ ⟨rfl, fun i hi => by
    have h9 : (i : Int) < 0 := hi
    omega⟩
def zl_B (σX σM : zc_S) : Prop := ∀ i : Nat, (i : Int) < (σX.1 2 1).toInt → (σX.1 17 i).toInt = (σM.1 4 i).toInt
theorem zw_bq {σX σM : zc_S} (hL : (σX.1 2 1).toInt = (σM.1 0 6).toInt) (hB : zl_B σX σM) : zw_bX σX = zw_bM σM := by
  funext i
  unfold zw_bX zw_bM zw_b
  rw [← hL]
  by_cases g : (i : Int) < (σX.1 2 1).toInt
  · rw [if_pos g, if_pos g]; exact hB i g
  · rw [if_neg g, if_neg g]
def zl_E (σX σM : zc_S) : Prop := zw_Lq (zw_TX σX) (zw_TM σM)
theorem zl_Et {σX σM τX τM : zc_S} {A A' C C' : Prop} (h : zl_E σX σM) (hb : zw_bX σX = zw_bM σM) (gx : (¬ (zw_rX σX).1.1 = 0 ∧ A ∧ zw_TX τX = zw_TX σX) ∨ ((zw_rX σX).1.1 = 0 ∧ A' ∧ zw_Lq (zw_TX τX) (zw_rX σX).2)) (gm : (¬ (zw_rM σM).1.1 = 0 ∧ C ∧ zw_TM τM = zw_TM σM) ∨ ((zw_rM σM).1.1 = 0 ∧ C' ∧ zw_Lq (zw_TM τM) (zw_rM σM).2)) : zl_E τX τM := by
  obtain ⟨e1, e2⟩ := zw_same hb
  rw [e1] at gx
  rcases gx with ⟨x1, _, x2⟩ | ⟨x1, _, x2⟩
  · rcases gm with ⟨y1, _, y2⟩ | ⟨y1, _, y2⟩
    · show zw_Lq (zw_TX τX) (zw_TM τM)
      rw [x2, y2]; exact h
    · exact absurd y1 x1
  · rcases gm with ⟨y1, _, y2⟩ | ⟨y1, _, y2⟩
    · exact absurd x1 y1
    · exact x2.tr (e2.tr y2.sy)
theorem zl_E.x {M : zc_ms} {σX τX σM : zc_S} (h : zl_E σX σM) (ha : zc_Ag M σX τX) (h0 : zc_im M 3 0 = false) (h1 : ∀ j, zc_im M 18 j = false) (h2 : ∀ j, zc_im M 19 j = false) (h3 : ∀ j, zc_im M 20 j = false) : zl_E τX σM := by
  show zw_Lq (zw_TX τX) _
  rw [zw_TX_ag ha h0 h1 h2 h3]; exact h
theorem zl_E.m {M : zc_ms} {σX σM τM : zc_S} (h : zl_E σX σM) (ha : zc_Ag M σM τM) (h0 : zc_im M 0 17 = false) (h1 : ∀ j, zc_im M 8 j = false) (h2 : ∀ j, zc_im M 9 j = false) (h3 : ∀ j, zc_im M 10 j = false) : zl_E σX τM := by
  show zw_Lq _ (zw_TM τM)
  rw [zw_TM_ag ha h0 h1 h2 h3]; exact h
theorem zl_B.x {M : zc_ms} {σX τX σM : zc_S} (h : zl_B σX σM) (ha : zc_Ag M σX τX) (h1 : zc_im M 2 1 = false) (h2 : ∀ j, zc_im M 17 j = false) : zl_B τX σM := by
  intro i hi
  rw [(ha 2 1 h1).1] at hi
  rw [(ha 17 i (h2 i)).1]; exact h i hi
theorem zl_B.m {M : zc_ms} {σX σM τM : zc_S} (h : zl_B σX σM) (ha : zc_Ag M σM τM) (h2 : ∀ j, zc_im M 4 j = false) : zl_B σX τM := by
  intro i hi
  rw [(ha 4 i (h2 i)).1]; exact h i hi
theorem zl_B.e {M M' : zc_ms} {σX τX σM τM : zc_S} (h : zl_B σX σM) (ha : zc_Ag M σX τX) (hm : zc_Ag M' σM τM) (hl : (τX.1 2 1).toInt ≤ (σX.1 2 1).toInt) (h1 : ∀ j, zc_im M 17 j = false) (h2 : ∀ j, zc_im M' 4 j = false) : zl_B τX τM := by
  intro i hi
  rw [(ha 17 i (h1 i)).1, (hm 4 i (h2 i)).1]; exact h i (by omega)
/-! bytes fed -/
def zw_by (v : Int64) (s : Int) : Int := ((v.toBitVec.toNat / 2 ^ s.toNat % 256 : Nat) : Int)
def zw_I (c : Nat) (σ τ : zc_S) (a n : Int) (v : Int64) : Prop := ∀ i : Nat, (τ.1 c i).toInt = if a ≤ (i : Int) ∧ (i : Int) < n then zw_by v (56 - 8 * ((i : Int) - a)) else (σ.1 c i).toInt
theorem zw_I0 {c : Nat} {σ : zc_S} {a n : Int} {v : Int64} (h : n ≤ a) : zw_I c σ σ a n v := by
  intro i
  rw [if_neg (by omega)]
theorem zw_Iu {c q : Nat} {σ τ : zc_S} {a n m s : Int} {v : Int64} {x : Int32} (h : zw_I c σ τ a n v) (h1 : a ≤ n) (hq : (q : Int) = n) (hx : x.toInt = zw_by v s) (hs : s = 56 - 8 * (n - a)) (hm : m = n + 1) : zw_I c σ (zc_u τ c q x) a m v := by
  intro i
  rw [zc_u_at]
  unfold upd
  by_cases e : i = q
  · rw [if_pos e, if_pos (by omega), hx, hs, show (i : Int) = n by omega]
  · rw [if_neg e, h i]
    by_cases g : a ≤ (i : Int) ∧ (i : Int) < n
    · rw [if_pos g, if_pos (by omega)]
    · rw [if_neg g, if_neg (by omega)]
theorem zw_In {c k j : Nat} {σ τ : zc_S} {a n : Int} {v : Int64} {x : Int32} (h : zw_I c σ τ a n v) (hk : c ≠ k) : zw_I c σ (zc_u τ k j x) a n v := by
  intro i
  rw [zc_u_ne _ _ _ _ hk]
  exact h i
theorem zl_Bf {σX σM τX τM : zc_S} {v : Int64} (h : zl_B σX σM) (hL : (σX.1 2 1).toInt = (σM.1 0 6).toInt) (gx : (112 < (σX.1 2 1).toInt ∧ τX = σX) ∨ ((σX.1 2 1).toInt ≤ 112 ∧ zw_I 17 σX τX (σX.1 2 1).toInt ((σX.1 2 1).toInt + 8) v)) (gm : (112 < (σM.1 0 6).toInt ∧ τM = σM) ∨ ((σM.1 0 6).toInt ≤ 112 ∧ zw_I 4 σM τM (σM.1 0 6).toInt ((σM.1 0 6).toInt + 8) v)) (hn : (τX.1 2 1).toInt ≤ (σX.1 2 1).toInt + 8) : zl_B τX τM := by
  rcases gx with ⟨x1, rfl⟩ | ⟨x1, x2⟩
  · rcases gm with ⟨y1, rfl⟩ | ⟨y1, y2⟩
    · exact h
    · omega
  · rcases gm with ⟨y1, rfl⟩ | ⟨y1, y2⟩
    · omega
    · intro i hi
      rw [x2 i, y2 i, ← hL]
      by_cases g : (σX.1 2 1).toInt ≤ (i : Int) ∧ (i : Int) < (σX.1 2 1).toInt + 8
      · rw [if_pos g, if_pos g]
      · rw [if_neg g, if_neg g]; exact h i (by omega)
theorem zw_lo8 {z : Int64} {w x c : Int32} (hw : w = z.toInt32) (hx : x = w &&& c) (hc : c.toInt = 255) : x.toInt = ((z.toBitVec.toNat % 256 : Nat) : Int) := by
  obtain rfl : c = 255 := by rw [zn_eq]; exact hc
  have h1 : w.toInt = z.toInt.bmod (2 ^ 32) := by rw [hw]; exact Int64.toInt_toInt32 z
  have h2 : x.toBitVec.toNat = w.toBitVec.toNat % 256 := by
    rw [hx]
    show (w.toBitVec &&& (255 : Int32).toBitVec).toNat = _
    rw [BitVec.toNat_and]
    exact Nat.and_two_pow_sub_one_eq_mod w.toBitVec.toNat 8
  have h3 : w.toInt = w.toBitVec.toInt := rfl
  have h4 : z.toInt = z.toBitVec.toInt := rfl
  have h5 : x.toInt = x.toBitVec.toInt := rfl
  rw [BitVec.toInt_eq_toNat_cond] at h3 h4 h5
  have l1 := w.toBitVec.isLt
  have l2 := z.toBitVec.isLt
  rw [h1, Int.bmod_def] at h3
  rw [h4] at h3
  rw [h5, if_pos (by omega)]
  split at h3 <;> split at h3 <;> split at h3 <;> omega
theorem zw_ush {v z : Int64} {y w c x : Int32} (hz : z = (v.toUInt64 >>> (y.toInt64.toUInt64 &&& Int64.toUInt64 63)).toInt64) (hw : w = z.toInt32) (hx : x = w &&& c) (hc : c.toInt = 255) (hy : y.toInt = 0 ∨ y.toInt = 8 ∨ y.toInt = 16 ∨ y.toInt = 24 ∨ y.toInt = 32 ∨ y.toInt = 40 ∨ y.toInt = 48 ∨ y.toInt = 56) : x.toInt = zw_by v y.toInt := by
  rw [zw_lo8 hw hx hc]
  have h1 : z.toBitVec.toNat = v.toBitVec.toNat >>> ((y.toInt64.toUInt64 &&& Int64.toUInt64 63).toNat % 64) := by
    rw [hz]
    exact UInt64.toNat_shiftRight v.toUInt64 _
  have h2 : (y.toInt64.toUInt64 &&& Int64.toUInt64 63).toNat % 64 = y.toInt.toNat := by
    rcases hy with h | h | h | h | h | h | h | h
    · obtain rfl : y = 0 := by rw [zn_eq]; exact h
      decide
    · obtain rfl : y = 8 := by rw [zn_eq]; exact h
      decide
    · obtain rfl : y = 16 := by rw [zn_eq]; exact h
      decide
    · obtain rfl : y = 24 := by rw [zn_eq]; exact h
      decide
    · obtain rfl : y = 32 := by rw [zn_eq]; exact h
      decide
    · obtain rfl : y = 40 := by rw [zn_eq]; exact h
      decide
    · obtain rfl : y = 48 := by rw [zn_eq]; exact h
      decide
    · obtain rfl : y = 56 := by rw [zn_eq]; exact h
      decide
  rw [h1, h2, Nat.shiftRight_eq_div_pow]
  rfl
theorem zw_sar {v z : Int64} {y w c x : Int32} (hz : z = v >>> (y.toInt64 &&& 63)) (hw : w = z.toInt32) (hx : x = w &&& c) (hc : c.toInt = 255) (hy : y.toInt = 0 ∨ y.toInt = 8 ∨ y.toInt = 16 ∨ y.toInt = 24 ∨ y.toInt = 32 ∨ y.toInt = 40 ∨ y.toInt = 48 ∨ y.toInt = 56) : x.toInt = zw_by v y.toInt := by
  rw [zw_lo8 hw hx hc]
  have h1 : z.toBitVec.toInt = v.toBitVec.toInt / 2 ^ ((y.toInt64 &&& 63).toBitVec.smod 64).toNat := by
    rw [hz]
    show (v.toBitVec.sshiftRight' ((y.toInt64 &&& 63).toBitVec.smod 64)).toInt = _
    rw [BitVec.toInt_sshiftRight', Int.shiftRight_eq_div_pow]
    rfl
  have l1 := v.toBitVec.isLt
  have l2 := z.toBitVec.isLt
  unfold zw_by
  rcases hy with h | h | h | h | h | h | h | h
  · obtain rfl : y = 0 := by rw [zn_eq]; exact h
    rw [show (((0 : Int32).toInt64 &&& 63).toBitVec.smod 64).toNat = 0 by decide, BitVec.toInt_eq_toNat_cond, BitVec.toInt_eq_toNat_cond] at h1
    rw [show (0 : Int32).toInt.toNat = 0 by decide]
    split at h1 <;> split at h1 <;> omega
  · obtain rfl : y = 8 := by rw [zn_eq]; exact h
    rw [show (((8 : Int32).toInt64 &&& 63).toBitVec.smod 64).toNat = 8 by decide, BitVec.toInt_eq_toNat_cond, BitVec.toInt_eq_toNat_cond] at h1
    rw [show (8 : Int32).toInt.toNat = 8 by decide]
    split at h1 <;> split at h1 <;> omega
  · obtain rfl : y = 16 := by rw [zn_eq]; exact h
    rw [show (((16 : Int32).toInt64 &&& 63).toBitVec.smod 64).toNat = 16 by decide, BitVec.toInt_eq_toNat_cond, BitVec.toInt_eq_toNat_cond] at h1
    rw [show (16 : Int32).toInt.toNat = 16 by decide]
    split at h1 <;> split at h1 <;> omega
  · obtain rfl : y = 24 := by rw [zn_eq]; exact h
    rw [show (((24 : Int32).toInt64 &&& 63).toBitVec.smod 64).toNat = 24 by decide, BitVec.toInt_eq_toNat_cond, BitVec.toInt_eq_toNat_cond] at h1
    rw [show (24 : Int32).toInt.toNat = 24 by decide]
    split at h1 <;> split at h1 <;> omega
  · obtain rfl : y = 32 := by rw [zn_eq]; exact h
    rw [show (((32 : Int32).toInt64 &&& 63).toBitVec.smod 64).toNat = 32 by decide, BitVec.toInt_eq_toNat_cond, BitVec.toInt_eq_toNat_cond] at h1
    rw [show (32 : Int32).toInt.toNat = 32 by decide]
    split at h1 <;> split at h1 <;> omega
  · obtain rfl : y = 40 := by rw [zn_eq]; exact h
    rw [show (((40 : Int32).toInt64 &&& 63).toBitVec.smod 64).toNat = 40 by decide, BitVec.toInt_eq_toNat_cond, BitVec.toInt_eq_toNat_cond] at h1
    rw [show (40 : Int32).toInt.toNat = 40 by decide]
    split at h1 <;> split at h1 <;> omega
  · obtain rfl : y = 48 := by rw [zn_eq]; exact h
    rw [show (((48 : Int32).toInt64 &&& 63).toBitVec.smod 64).toNat = 48 by decide, BitVec.toInt_eq_toNat_cond, BitVec.toInt_eq_toNat_cond] at h1
    rw [show (48 : Int32).toInt.toNat = 48 by decide]
    split at h1 <;> split at h1 <;> omega
  · obtain rfl : y = 56 := by rw [zn_eq]; exact h
    rw [show (((56 : Int32).toInt64 &&& 63).toBitVec.smod 64).toNat = 56 by decide, BitVec.toInt_eq_toNat_cond, BitVec.toInt_eq_toNat_cond] at h1
    rw [show (56 : Int32).toInt.toNat = 56 by decide]
    split at h1 <;> split at h1 <;> omega
/-! the class's copy of its lines -/
def zw_c (τ σ : zc_S) (n : Int) : Prop := ∀ i : Nat, (i : Int) < n → (τ.1 18 i).toInt = (σ.1 40 i).toInt ∧ (τ.1 19 i).toInt = (σ.1 41 i).toInt ∧ (τ.1 20 i).toInt = (σ.1 42 i).toInt
theorem zw_c0 {τ σ : zc_S} {n : Int} (h : n ≤ 0) : zw_c τ σ n := fun i hi => by omega
theorem zw_cu {τ b σ : zc_S} {n m x y z : Int} (hp : zw_TX τ = zw_put (zw_TX b) x y z) (h : zw_c b σ n) (hm : m = n + 1) (h0 : 0 ≤ n) (hn : (b.1 3 0).toInt = n) (hx : x = (σ.1 40 n.toNat).toInt) (hy : y = (σ.1 41 n.toNat).toInt) (hz : z = (σ.1 42 n.toNat).toInt) : zw_c τ σ m := by
  intro i hi
  have e1 : (τ.1 18 i).toInt = if (i : Int) = (b.1 3 0).toInt then x else (b.1 18 i).toInt := congrFun (congrArg (fun L : zw_L => L.2.1) hp) i
  have e2 : (τ.1 19 i).toInt = if (i : Int) = (b.1 3 0).toInt then y else (b.1 19 i).toInt := congrFun (congrArg (fun L : zw_L => L.2.2.1) hp) i
  have e3 : (τ.1 20 i).toInt = if (i : Int) = (b.1 3 0).toInt then z else (b.1 20 i).toInt := congrFun (congrArg (fun L : zw_L => L.2.2.2) hp) i
  rw [e1, e2, e3, hn]
  by_cases g : (i : Int) = n
  · obtain rfl : i = n.toNat := by omega
    rw [if_pos g, if_pos g, if_pos g]
    exact ⟨hx, hy, hz⟩
  · rw [if_neg g, if_neg g, if_neg g]
    exact h i (by omega)
theorem zw_cq {τ b : zc_S} {L : zw_L} (hL : zw_LX b = L) (h1 : (τ.1 3 0).toInt = (b.1 8 0).toInt) (hc : zw_c τ b (b.1 8 0).toInt) : zw_Lq (zw_TX τ) L := by
  subst hL
  exact ⟨h1, fun i hi => hc i (by
    have h9 : (i : Int) < (τ.1 3 0).toInt := hi
    omega)⟩
/-! the reference's copy -/
def zw_d (τ : zc_S) (n : Int) : Prop := ∀ i : Nat, (i : Int) < n → (τ.1 8 i).toInt = (τ.1 11 i).toInt ∧ (τ.1 9 i).toInt = (τ.1 12 i).toInt ∧ (τ.1 10 i).toInt = (τ.1 13 i).toInt
theorem zw_d0 {τ : zc_S} {n : Int} (h : n ≤ 0) : zw_d τ n := fun i hi => by omega
theorem zw_du {τ : zc_S} {n m : Int} {q : Nat} {x y z : Int32} (h : zw_d τ n) (hm : m = n + 1) (hq : (q : Int) = n) (hx : x = τ.1 11 q) (hy : y = τ.1 12 q) (hz : z = τ.1 13 q) : zw_d (zc_u (zc_u (zc_u τ 8 q x) 9 q y) 10 q z) m := by
  intro i hi
  have e1 : ((zc_u (zc_u (zc_u τ 8 q x) 9 q y) 10 q z).1 8 i) = if i = q then x else τ.1 8 i := by simp [zc_u]
  have e2 : ((zc_u (zc_u (zc_u τ 8 q x) 9 q y) 10 q z).1 9 i) = if i = q then y else τ.1 9 i := by simp [zc_u]
  have e3 : ((zc_u (zc_u (zc_u τ 8 q x) 9 q y) 10 q z).1 10 i) = if i = q then z else τ.1 10 i := by simp [zc_u]
  have e4 : ((zc_u (zc_u (zc_u τ 8 q x) 9 q y) 10 q z).1 11 i) = τ.1 11 i := by simp [zc_u]
  have e5 : ((zc_u (zc_u (zc_u τ 8 q x) 9 q y) 10 q z).1 12 i) = τ.1 12 i := by simp [zc_u]
  have e6 : ((zc_u (zc_u (zc_u τ 8 q x) 9 q y) 10 q z).1 13 i) = τ.1 13 i := by simp [zc_u]
  rw [e1, e2, e3, e4, e5, e6]
  by_cases g : i = q
  · rw [if_pos g, if_pos g, if_pos g, hx, hy, hz, g]
    exact ⟨rfl, rfl, rfl⟩
  · rw [if_neg g, if_neg g, if_neg g]
    exact h i (by omega)
theorem zw_dq {τ : zc_S} {L : zw_L} {n : Int} (hL : zw_LM τ = L) (h1 : (τ.1 0 17).toInt = (τ.1 0 21).toInt) (hc : zw_d τ n) (hn : (τ.1 0 21).toInt ≤ n) : zw_Lq (zw_TM τ) L := by
  subst hL
  exact ⟨h1, fun i hi => hc i (by
    have h9 : (i : Int) < (τ.1 0 17).toInt := hi
    omega)⟩
theorem zw_fl {P Q R S T : Prop} (h : (P ∧ Q ∧ R) ∨ (S ∧ T)) (hn : ¬ S) : Q := by
  rcases h with ⟨_, b, _⟩ | ⟨a, _⟩
  · exact b
  · exact absurd a hn
/-- the place of the fault is the token's -/
def zw_iw (a b c : Int) : Prop := a = 0 ∨ b = c
/-- a number, where there is no fault -/
def zw_wv (f r v : Int) : Prop := ¬ f = 0 ∨ r = v
theorem zw_wv.mono {f f' r v : Int} (h : zw_wv f r v) (hm : f = 0 ∨ 1 ≤ f') : zw_wv f' r v := by
  unfold zw_wv at h ⊢
  omega
theorem zw_wv.get {f r v : Int} (h : zw_wv f r v) (hf : f = 0) : r = v := by
  unfold zw_wv at h
  omega
