/-! the tape: signs, tokens -/
/-- the sign at a place, or -4 behind the end -/
def zw_b (c : Nat) (len : Int) (σ : zc_S) (i : Nat) : Int := if (i : Int) < len then (σ.1 c i).toInt else -4
def zw_sp (x : Int) : Bool := decide (x = 32)
def zw_le (x : Int) : Bool := decide (97 ≤ x ∧ x ≤ 122)
def zw_di (x : Int) : Bool := decide (48 ≤ x ∧ x ≤ 57)
def zw_run (p : Int → Bool) (b : Nat → Int) : Nat → Nat → Nat
  | 0, q => q
  | k + 1, q => if p (b q) then zw_run p b k (q + 1) else q
/-- where a run of such signs ends -/
def zw_to (p : Int → Bool) (b : Nat → Int) (q : Nat) : Nat := zw_run p b (120 - q) q
theorem zw_go {p : Int → Bool} {b : Nat → Int} {q n : Nat} (h : q < 120) (hp : p (b q) = true) (hn : n = q + 1) : zw_to p b q = zw_to p b n := by
  subst hn
  unfold zw_to
  rw [show 120 - q = (120 - (q + 1)) + 1 by omega]
  simp only [zw_run, hp, if_true]
theorem zw_no {p : Int → Bool} {b : Nat → Int} {q : Nat} (hp : p (b q) = false ∨ 120 ≤ q) : zw_to p b q = q := by
  unfold zw_to
  by_cases h : q < 120
  · rw [show 120 - q = (119 - q) + 1 by omega]
    simp only [zw_run]
    rw [if_neg]
    rcases hp with hp | hp
    · rw [hp]; decide
    · omega
  · rw [show 120 - q = 0 by omega]
    rfl
theorem zw_rge (p : Int → Bool) (b : Nat → Int) : ∀ k q : Nat, q ≤ zw_run p b k q ∧ zw_run p b k q ≤ q + k
  | 0, q => ⟨Nat.le_refl q, Nat.le_refl q⟩
  | k + 1, q => by
    have h := zw_rge p b k (q + 1)
    simp only [zw_run]
    split <;> omega
theorem zw_ge (p : Int → Bool) (b : Nat → Int) (q : Nat) : q ≤ zw_to p b q := (zw_rge p b _ q).1
theorem zw_le120 (p : Int → Bool) (b : Nat → Int) {q : Nat} (h : q ≤ 120) : zw_to p b q ≤ 120 := by
  have := (zw_rge p b (120 - q) q).2
  unfold zw_to
  omega
/-- the token behind a place: where it begins, its kind, where it ends, its fault -/
def zw_s (b : Nat → Int) (q : Nat) : Nat := zw_to zw_sp b q
def zw_kd (x : Int) : Int := if x = -4 then 0 else if 97 ≤ x ∧ x ≤ 122 then 1 else if 48 ≤ x ∧ x ≤ 57 then 2 else 3
def zw_k (b : Nat → Int) (q : Nat) : Int := zw_kd (b (zw_s b q))
def zw_e (b : Nat → Int) (q : Nat) : Nat := if zw_k b q = 0 then zw_s b q else if zw_k b q = 1 then zw_to zw_le b (zw_s b q) else if zw_k b q = 2 then zw_to zw_di b (zw_s b q) else zw_s b q + 1
def zw_f (b : Nat → Int) (q : Nat) : Int := if zw_k b q = 2 ∧ zw_s b q + 2 < zw_e b q then 1 else if zw_k b q = 3 ∧ ¬ b (zw_s b q) = 59 then 1 else 0
/-- a number of one or two digits -/
def zw_v (b : Nat → Int) (s e : Nat) : Int := if e ≤ s + 1 then b s - 48 else (b s - 48) * 10 + (b (s + 1) - 48)
/-- the name, by its number -/
def zw_is (b : Nat → Int) (s e i : Nat) : Prop := e = s + zc_len.getD i 0 ∧ ∀ j, j < zc_len.getD i 0 → b (s + j) = ((zc_byt.getD i []).getD j 0).toInt
noncomputable def zw_nm (b : Nat → Int) (s e : Nat) : Int := by
  classical
  exact if zw_is b s e 0 then 0 else if zw_is b s e 1 then 1 else if zw_is b s e 2 then 2 else if zw_is b s e 3 then 3 else if zw_is b s e 4 then 4 else -4
/-! a reader's state: fault, start, stop, token -/
abbrev zw_P : Type := Int × Nat × Nat × Int
def zw_tk (b : Nat → Int) (q : Nat) : zw_P := (zw_f b q, zw_s b q, zw_e b q, zw_k b q)
def zw_adv (b : Nat → Int) (P : zw_P) : zw_P := if P.1 = 0 then zw_tk b P.2.2.1 else P
def zw_chk (w : Int) (P : zw_P) : zw_P := if P.1 = 0 ∧ ¬ P.2.2.2 = w then (2, P.2) else P
def zw_rng (v lo hi : Int) (P : zw_P) : zw_P := if P.1 = 0 ∧ (v < lo ∨ hi < v) then (3, P.2) else P
def zw_val (b : Nat → Int) (P : zw_P) : Int := if P.1 = 0 then zw_v b P.2.1 P.2.2.1 else 0
def zw_lo (k : Int) : Int := if k = 2 then 0 else 1
def zw_hi (k : Int) : Int := if k = 0 then 14 else if k = 1 then 20 else if k = 2 then 10 else if k = 3 then 8 else 30
/-- the name's number, where the token is a name -/
noncomputable def zw_kn (b : Nat → Int) (P : zw_P) : Int := if P.2.2.2 = 1 then zw_nm b P.2.1 P.2.2.1 else -4
/-- the fault of a line's head -/
def zw_hd (k n : Int) : Int := if k < 0 then 2 else if n = 6 then 4 else if k = 4 ∧ n = 0 then 5 else 0
def zw_1 (b : Nat → Int) (k : Int) (P : zw_P) : zw_P := zw_rng (zw_val b (zw_chk 2 (zw_adv b P))) (zw_lo k) (zw_hi k) (zw_chk 2 (zw_adv b P))
def zw_v1 (b : Nat → Int) (P : zw_P) : Int := zw_val b (zw_chk 2 (zw_adv b P))
def zw_2 (b : Nat → Int) (k : Int) (P : zw_P) : zw_P := if k = 2 then zw_1 b k P else P
def zw_v2 (b : Nat → Int) (k : Int) (P : zw_P) : Int := if k = 2 then zw_v1 b P else 0
/-- a line of kind k behind its name: the state behind it -/
def zw_ln (b : Nat → Int) (k : Int) (P : zw_P) : zw_P := zw_chk 3 (zw_adv b (zw_2 b k (zw_1 b k P)))
/-- lines: how many, and what they say -/
abbrev zw_L : Type := Int × (Nat → Int) × (Nat → Int) × (Nat → Int)
def zw_put (L : zw_L) (k x y : Int) : zw_L := (L.1 + 1, fun i => if (i : Int) = L.1 then k else L.2.1 i, fun i => if (i : Int) = L.1 then x else L.2.2.1 i, fun i => if (i : Int) = L.1 then y else L.2.2.2 i)
/-- one line more -/
noncomputable def zw_one (b : Nat → Int) (S : zw_P × zw_L) : zw_P × zw_L :=
  if ¬ zw_hd (zw_kn b S.1) S.2.1 = 0 then ((zw_hd (zw_kn b S.1) S.2.1, S.1.2), S.2)
  else if (zw_ln b (zw_kn b S.1) S.1).1 = 0 then (zw_adv b (zw_ln b (zw_kn b S.1) S.1), zw_put S.2 (zw_kn b S.1) (zw_v1 b S.1) (zw_v2 b (zw_kn b S.1) (zw_1 b (zw_kn b S.1) S.1)))
  else (zw_ln b (zw_kn b S.1) S.1, S.2)
noncomputable def zw_it (b : Nat → Int) : Nat → zw_P × zw_L → zw_P × zw_L
  | 0, S => S
  | n + 1, S => if S.1.1 = 0 ∧ ¬ S.1.2.2.2 = 0 then zw_it b n (zw_one b S) else S
theorem zw_itn {b : Nat → Int} {S : zw_P × zw_L} (h : ¬ (S.1.1 = 0 ∧ ¬ S.1.2.2.2 = 0)) (n : Nat) : zw_it b n S = S := by
  cases n with
  | zero => rfl
  | succ n => simp only [zw_it]; rw [if_neg h]
theorem zw_its {b : Nat → Int} {S : zw_P × zw_L} {n m : Nat} (hn : n = m + 1) (h : S.1.1 = 0) (h2 : ¬ S.1.2.2.2 = 0) : zw_it b n S = zw_it b m (zw_one b S) := by
  subst hn; simp only [zw_it]; rw [if_pos ⟨h, h2⟩]
/-! the class's side: cell 2 is the tape, cell 8 its lines -/
def zw_bX (σ : zc_S) : Nat → Int := zw_b 17 (σ.1 2 1).toInt σ
def zw_X (σ : zc_S) : zw_P := ((σ.1 2 3).toInt, (σ.1 2 5).toInt.toNat, (σ.1 2 6).toInt.toNat, (σ.1 2 4).toInt)
def zw_LX (σ : zc_S) : zw_L := ((σ.1 8 0).toInt, fun i => (σ.1 40 i).toInt, fun i => (σ.1 41 i).toInt, fun i => (σ.1 42 i).toInt)
theorem zw_X_mk {σ : zc_S} {f k : Int} {s e : Nat} (h1 : (σ.1 2 3).toInt = f) (h2 : (σ.1 2 5).toInt = s) (h3 : (σ.1 2 6).toInt = e) (h4 : (σ.1 2 4).toInt = k) : zw_X σ = (f, s, e, k) := by
  unfold zw_X
  rw [h1, h2, h3, h4]
  rfl
theorem zw_bX.ag {M : zc_ms} {σ τ : zc_S} (ha : zc_Ag M σ τ) (h1 : zc_im M 2 1 = false) (h2 : ∀ j, zc_im M 17 j = false) : zw_bX τ = zw_bX σ := by
  funext i
  unfold zw_bX zw_b
  rw [(ha 2 1 h1).1, (ha 17 i (h2 i)).1]
/-! the reference's side -/
def zw_bM (σ : zc_S) : Nat → Int := zw_b 4 (σ.1 0 6).toInt σ
def zw_M (σ : zc_S) : zw_P := ((σ.1 0 8).toInt, (σ.1 0 11).toInt.toNat, (σ.1 0 10).toInt.toNat, (σ.1 0 12).toInt)
def zw_LM (σ : zc_S) : zw_L := ((σ.1 0 21).toInt, fun i => (σ.1 11 i).toInt, fun i => (σ.1 12 i).toInt, fun i => (σ.1 13 i).toInt)
theorem zw_M_mk {σ : zc_S} {f k : Int} {s e : Nat} (h1 : (σ.1 0 8).toInt = f) (h2 : (σ.1 0 11).toInt = s) (h3 : (σ.1 0 10).toInt = e) (h4 : (σ.1 0 12).toInt = k) : zw_M σ = (f, s, e, k) := by
  unfold zw_M
  rw [h1, h2, h3, h4]
  rfl
theorem zw_bM.ag {M : zc_ms} {σ τ : zc_S} (ha : zc_Ag M σ τ) (h1 : zc_im M 0 6 = false) (h2 : ∀ j, zc_im M 4 j = false) : zw_bM τ = zw_bM σ := by
  funext i
  unfold zw_bM zw_b
  rw [(ha 0 6 h1).1, (ha 4 i (h2 i)).1]
/-! facts of tokens -/
theorem zw_kd_r (x : Int) : 0 ≤ zw_kd x ∧ zw_kd x ≤ 3 := by
  unfold zw_kd
  split
  · omega
  · split
    · omega
    · split <;> omega
theorem zw_tk0 {b : Nat → Int} {q : Nat} (h : b (zw_s b q) = -4) : zw_tk b q = (0, zw_s b q, zw_s b q, 0) := by
  have hk : zw_k b q = 0 := by unfold zw_k zw_kd; rw [if_pos h]
  have he : zw_e b q = zw_s b q := by unfold zw_e; rw [if_pos hk]
  unfold zw_tk zw_f
  rw [hk, he, if_neg (by omega), if_neg (by omega)]
theorem zw_tk1 {b : Nat → Int} {q : Nat} (h : 97 ≤ b (zw_s b q)) (h2 : b (zw_s b q) ≤ 122) : zw_tk b q = (0, zw_s b q, zw_to zw_le b (zw_s b q), 1) := by
  have hk : zw_k b q = 1 := by unfold zw_k zw_kd; rw [if_neg (by omega), if_pos ⟨h, h2⟩]
  have he : zw_e b q = zw_to zw_le b (zw_s b q) := by unfold zw_e; rw [hk, if_neg (by decide), if_pos rfl]
  unfold zw_tk zw_f
  rw [hk, he, if_neg (by omega), if_neg (by omega)]
theorem zw_tk2 {b : Nat → Int} {q : Nat} (h : 48 ≤ b (zw_s b q)) (h2 : b (zw_s b q) ≤ 57) : zw_tk b q = ((if zw_s b q + 2 < zw_to zw_di b (zw_s b q) then 1 else 0), zw_s b q, zw_to zw_di b (zw_s b q), 2) := by
  have hk : zw_k b q = 2 := by unfold zw_k zw_kd; rw [if_neg (by omega), if_neg (by omega), if_pos ⟨h, h2⟩]
  have he : zw_e b q = zw_to zw_di b (zw_s b q) := by unfold zw_e; rw [hk, if_neg (by decide), if_neg (by decide), if_pos rfl]
  unfold zw_tk zw_f
  rw [hk, he]
  by_cases g : zw_s b q + 2 < zw_to zw_di b (zw_s b q)
  · rw [if_pos ⟨rfl, g⟩, if_pos g]
  · rw [if_neg (fun x => g x.2), if_neg (by omega), if_neg g]
theorem zw_tk3 {b : Nat → Int} {q : Nat} (h0 : ¬ b (zw_s b q) = -4) (h1 : ¬ (97 ≤ b (zw_s b q) ∧ b (zw_s b q) ≤ 122)) (h2 : ¬ (48 ≤ b (zw_s b q) ∧ b (zw_s b q) ≤ 57)) : zw_tk b q = ((if b (zw_s b q) = 59 then 0 else 1), zw_s b q, zw_s b q + 1, 3) := by
  have hk : zw_k b q = 3 := by unfold zw_k zw_kd; rw [if_neg h0, if_neg h1, if_neg h2]
  have he : zw_e b q = zw_s b q + 1 := by unfold zw_e; rw [hk, if_neg (by decide), if_neg (by decide), if_neg (by decide)]
  unfold zw_tk zw_f
  rw [hk, he, if_neg (by omega)]
  by_cases g : b (zw_s b q) = 59
  · rw [if_neg (fun x => x.2 g), if_pos g]
  · rw [if_pos ⟨rfl, g⟩, if_neg g]
theorem zw_bX_in {σ : zc_S} {i : Nat} (h : (i : Int) < (σ.1 2 1).toInt) : zw_bX σ i = (σ.1 17 i).toInt := by unfold zw_bX zw_b; rw [if_pos h]
theorem zw_bX_out {σ : zc_S} {i : Nat} (h : ¬ (i : Int) < (σ.1 2 1).toInt) : zw_bX σ i = -4 := by unfold zw_bX zw_b; rw [if_neg h]
theorem zw_bM_in {σ : zc_S} {i : Nat} (h : (i : Int) < (σ.1 0 6).toInt) : zw_bM σ i = (σ.1 4 i).toInt := by unfold zw_bM zw_b; rw [if_pos h]
theorem zw_bM_out {σ : zc_S} {i : Nat} (h : ¬ (i : Int) < (σ.1 0 6).toInt) : zw_bM σ i = -4 := by unfold zw_bM zw_b; rw [if_neg h]
theorem zw_adv_0 {b : Nat → Int} {P : zw_P} (h : P.1 = 0) : zw_adv b P = zw_tk b P.2.2.1 := by unfold zw_adv; rw [if_pos h]
theorem zw_adv_n {b : Nat → Int} {P : zw_P} (h : ¬ P.1 = 0) : zw_adv b P = P := by unfold zw_adv; rw [if_neg h]
theorem zw_chk_n {w : Int} {P : zw_P} (h : ¬ P.1 = 0 ∨ P.2.2.2 = w) : zw_chk w P = P := by unfold zw_chk; rw [if_neg (by rintro ⟨h1, h2⟩; rcases h with h | h; exact h h1; exact h2 h)]
theorem zw_chk_y {w : Int} {P : zw_P} (h : P.1 = 0) (h2 : ¬ P.2.2.2 = w) : zw_chk w P = (2, P.2) := by unfold zw_chk; rw [if_pos ⟨h, h2⟩]
theorem zw_rng_n {v lo hi : Int} {P : zw_P} (h : ¬ P.1 = 0 ∨ (lo ≤ v ∧ v ≤ hi)) : zw_rng v lo hi P = P := by unfold zw_rng; rw [if_neg (by rintro ⟨h1, h2⟩; rcases h with h | h; exact h h1; omega)]
theorem zw_rng_y {v lo hi : Int} {P : zw_P} (h : P.1 = 0) (h2 : v < lo ∨ hi < v) : zw_rng v lo hi P = (3, P.2) := by unfold zw_rng; rw [if_pos ⟨h, h2⟩]
theorem zw_X_f {σ : zc_S} {c : Int32} {f : Int} (h : c.toInt = f) : zw_X (zc_u σ 2 3 c) = (f, (zw_X σ).2) := by
  show (c.toInt, _) = (f, _)
  rw [h]
  rfl
theorem zw_M_f {σ : zc_S} {c : Int32} {f : Int} (h : c.toInt = f) : zw_M (zc_u σ 0 8 c) = (f, (zw_M σ).2) := by
  show (c.toInt, _) = (f, _)
  rw [h]
  rfl
/-- a number that was found: one digit or two -/
theorem zw_two {b : Nat → Int} {q : Nat} (hk : zw_k b q = 2) (hf : zw_f b q = 0) (h120 : zw_s b q < 120) : zw_s b q + 1 ≤ zw_e b q ∧ zw_e b q ≤ zw_s b q + 2 := by
  have hd : 48 ≤ b (zw_s b q) ∧ b (zw_s b q) ≤ 57 := by
    unfold zw_k zw_kd at hk
    by_cases g0 : b (zw_s b q) = -4
    · rw [if_pos g0] at hk; omega
    · rw [if_neg g0] at hk
      by_cases g1 : 97 ≤ b (zw_s b q) ∧ b (zw_s b q) ≤ 122
      · rw [if_pos g1] at hk; omega
      · rw [if_neg g1] at hk
        by_cases g2 : 48 ≤ b (zw_s b q) ∧ b (zw_s b q) ≤ 57
        · exact g2
        · rw [if_neg g2] at hk; omega
  have he : zw_e b q = zw_to zw_di b (zw_s b q) := by unfold zw_e; rw [hk, if_neg (by decide), if_neg (by decide), if_pos rfl]
  have h1 : zw_to zw_di b (zw_s b q) = zw_to zw_di b (zw_s b q + 1) := zw_go h120 (decide_eq_true hd) rfl
  have h2 := zw_ge zw_di b (zw_s b q + 1)
  refine ⟨by rw [he, h1]; exact h2, ?_⟩
  unfold zw_f at hf
  by_cases g : zw_s b q + 2 < zw_e b q
  · rw [if_pos ⟨hk, g⟩] at hf; omega
  · omega
theorem zw_got {b : Nat → Int} {w : Int} {P : zw_P} (h : (zw_chk w (zw_adv b P)).1 = 0) : P.1 = 0 ∧ zw_k b P.2.2.1 = w ∧ zw_f b P.2.2.1 = 0 ∧ zw_chk w (zw_adv b P) = zw_tk b P.2.2.1 := by
  by_cases h0 : P.1 = 0
  · rw [zw_adv_0 h0] at h ⊢
    by_cases hk : (zw_tk b P.2.2.1).1 = 0 ∧ ¬ (zw_tk b P.2.2.1).2.2.2 = w
    · rw [zw_chk_y hk.1 hk.2] at h
      have h9 : (2 : Int) = 0 := h
      omega
    · have e : zw_chk w (zw_tk b P.2.2.1) = zw_tk b P.2.2.1 := by unfold zw_chk; rw [if_neg hk]
      rw [e] at h ⊢
      refine ⟨h0, ?_, h, rfl⟩
      by_cases g : (zw_tk b P.2.2.1).2.2.2 = w
      · exact g
      · exact absurd ⟨h, g⟩ hk
  · rw [zw_adv_n h0, zw_chk_n (Or.inl h0)] at h
    exact absurd h h0
theorem zw_X_s {σ : zc_S} {P : zw_P} (h : zw_X σ = P) (h0 : 0 ≤ (σ.1 2 5).toInt) : (σ.1 2 5).toInt = (P.2.1 : Int) := by
  rw [← h]; show _ = (((σ.1 2 5).toInt.toNat : Nat) : Int); omega
theorem zw_X_e {σ : zc_S} {P : zw_P} (h : zw_X σ = P) (h0 : 0 ≤ (σ.1 2 6).toInt) : (σ.1 2 6).toInt = (P.2.2.1 : Int) := by
  rw [← h]; show _ = (((σ.1 2 6).toInt.toNat : Nat) : Int); omega
theorem zw_e2 {b : Nat → Int} {q : Nat} (hk : zw_k b q = 2) : zw_e b q = zw_to zw_di b (zw_s b q) := by unfold zw_e; rw [hk, if_neg (by decide), if_neg (by decide), if_pos rfl]
theorem zw_rin {p : Int → Bool} {b : Nat → Int} : ∀ k q i : Nat, q ≤ i → i < zw_run p b k q → p (b i) = true
  | 0, q, i, h1, h2 => by
    have : zw_run p b 0 q = q := rfl
    omega
  | k + 1, q, i, h1, h2 => by
    by_cases hp : p (b q) = true
    · by_cases e : i = q
      · subst e; exact hp
      · have h3 : zw_run p b (k + 1) q = zw_run p b k (q + 1) := by simp only [zw_run, hp, if_true]
        rw [h3] at h2
        exact zw_rin k (q + 1) i (by omega) h2
    · have h3 : zw_run p b (k + 1) q = q := by simp only [zw_run]; rw [if_neg hp]
      omega
theorem zw_in {p : Int → Bool} {b : Nat → Int} {q i : Nat} (h1 : q ≤ i) (h2 : i < zw_to p b q) : p (b i) = true := zw_rin _ _ _ h1 h2
theorem zw_di_in {σ : zc_S} {i : Nat} (h : zw_di (zw_bX σ i) = true) : (i : Int) < (σ.1 2 1).toInt ∧ 48 ≤ zw_bX σ i ∧ zw_bX σ i ≤ 57 := by
  have h1 := of_decide_eq_true h
  refine ⟨?_, h1⟩
  by_cases g : (i : Int) < (σ.1 2 1).toInt
  · exact g
  · rw [zw_bX_out g] at h1; omega
theorem zw_k2 {b : Nat → Int} {q : Nat} (hk : zw_k b q = 2) : 48 ≤ b (zw_s b q) ∧ b (zw_s b q) ≤ 57 := by
  unfold zw_k zw_kd at hk
  by_cases g0 : b (zw_s b q) = -4
  · rw [if_pos g0] at hk; omega
  · rw [if_neg g0] at hk
    by_cases g1 : 97 ≤ b (zw_s b q) ∧ b (zw_s b q) ≤ 122
    · rw [if_pos g1] at hk; omega
    · rw [if_neg g1] at hk
      by_cases g2 : 48 ≤ b (zw_s b q) ∧ b (zw_s b q) ≤ 57
      · exact g2
      · rw [if_neg g2] at hk; omega
theorem zw_to_len {p : Int → Bool} {σ : zc_S} {q : Nat} (hp : p (-4) = false) (h : (q : Int) ≤ (σ.1 2 1).toInt) : ((zw_to p (zw_bX σ) q : Nat) : Int) ≤ (σ.1 2 1).toInt := by
  by_cases g : ((zw_to p (zw_bX σ) q : Nat) : Int) ≤ (σ.1 2 1).toInt
  · exact g
  · have h1 := zw_in (p := p) (b := zw_bX σ) (q := q) (i := (σ.1 2 1).toInt.toNat) (by omega) (by omega)
    rw [zw_bX_out (by omega), hp] at h1
    exact absurd h1 (by decide)
theorem zw_e_len {σ : zc_S} {q : Nat} (h : (q : Int) ≤ (σ.1 2 1).toInt) : ((zw_e (zw_bX σ) q : Nat) : Int) ≤ (σ.1 2 1).toInt := by
  have hs : ((zw_s (zw_bX σ) q : Nat) : Int) ≤ (σ.1 2 1).toInt := zw_to_len rfl h
  have h0 : zw_kd (-4) = 0 := rfl
  unfold zw_e
  split
  · exact hs
  · rename_i g0
    split
    · exact zw_to_len rfl hs
    · split
      · exact zw_to_len rfl hs
      · by_cases g : ((zw_s (zw_bX σ) q : Nat) : Int) < (σ.1 2 1).toInt
        · omega
        · exfalso
          apply g0
          unfold zw_k
          rw [zw_bX_out g]
          rfl
theorem zw_nm0 {b : Nat → Int} {s e : Nat} (h : zw_is b s e 0) : zw_nm b s e = 0 := by unfold zw_nm; rw [if_pos h]
theorem zw_nm1 {b : Nat → Int} {s e : Nat} (h0 : ¬ zw_is b s e 0) (h : zw_is b s e 1) : zw_nm b s e = 1 := by unfold zw_nm; rw [if_neg h0, if_pos h]
theorem zw_nm2 {b : Nat → Int} {s e : Nat} (h0 : ¬ zw_is b s e 0) (h1 : ¬ zw_is b s e 1) (h : zw_is b s e 2) : zw_nm b s e = 2 := by unfold zw_nm; rw [if_neg h0, if_neg h1, if_pos h]
theorem zw_nm3 {b : Nat → Int} {s e : Nat} (h0 : ¬ zw_is b s e 0) (h1 : ¬ zw_is b s e 1) (h2 : ¬ zw_is b s e 2) (h : zw_is b s e 3) : zw_nm b s e = 3 := by unfold zw_nm; rw [if_neg h0, if_neg h1, if_neg h2, if_pos h]
theorem zw_nm4 {b : Nat → Int} {s e : Nat} (h0 : ¬ zw_is b s e 0) (h1 : ¬ zw_is b s e 1) (h2 : ¬ zw_is b s e 2) (h3 : ¬ zw_is b s e 3) (h : zw_is b s e 4) : zw_nm b s e = 4 := by unfold zw_nm; rw [if_neg h0, if_neg h1, if_neg h2, if_neg h3, if_pos h]
theorem zw_nm5 {b : Nat → Int} {s e : Nat} (h0 : ¬ zw_is b s e 0) (h1 : ¬ zw_is b s e 1) (h2 : ¬ zw_is b s e 2) (h3 : ¬ zw_is b s e 3) (h4 : ¬ zw_is b s e 4) : zw_nm b s e = -4 := by unfold zw_nm; rw [if_neg h0, if_neg h1, if_neg h2, if_neg h3, if_neg h4]
theorem zw_b1 {P Q : Prop} {r : Int} (h : (r = 1 ∧ P) ∨ (r = 0 ∧ Q)) (h1 : ¬ r = 0) : P := by
  rcases h with ⟨_, b⟩ | ⟨a, _⟩
  · exact b
  · exact absurd a h1
theorem zw_b0 {P Q : Prop} {r : Int} (h : (r = 1 ∧ P) ∨ (r = 0 ∧ Q)) (h1 : ¬ r = 1) : Q := by
  rcases h with ⟨a, _⟩ | ⟨_, b⟩
  · exact absurd a h1
  · exact b
theorem zw_LX_ag {M : zc_ms} {σ τ : zc_S} (ha : zc_Ag M σ τ) (h0 : zc_im M 8 0 = false) (h1 : ∀ j, zc_im M 40 j = false) (h2 : ∀ j, zc_im M 41 j = false) (h3 : ∀ j, zc_im M 42 j = false) : zw_LX τ = zw_LX σ := by
  unfold zw_LX
  rw [(ha 8 0 h0).1, show (fun i => (τ.1 40 i).toInt) = (fun i => (σ.1 40 i).toInt) from funext fun i => by rw [(ha 40 i (h1 i)).1], show (fun i => (τ.1 41 i).toInt) = (fun i => (σ.1 41 i).toInt) from funext fun i => by rw [(ha 41 i (h2 i)).1], show (fun i => (τ.1 42 i).toInt) = (fun i => (σ.1 42 i).toInt) from funext fun i => by rw [(ha 42 i (h3 i)).1]]
theorem zw_LX_put {σ : zc_S} {n : Nat} {k x y m : Int32} (hn : (n : Int) = (σ.1 8 0).toInt) (hm : m.toInt = (σ.1 8 0).toInt + 1) : zw_LX (zc_u (zc_u (zc_u (zc_u σ 40 n k) 41 n x) 42 n y) 8 0 m) = zw_put (zw_LX σ) k.toInt x.toInt y.toInt := by
  unfold zw_LX zw_put
  have e0 : ((zc_u (zc_u (zc_u (zc_u σ 40 n k) 41 n x) 42 n y) 8 0 m).1 8 0) = m := by simp [zc_u]
  have e1 : ∀ i, ((zc_u (zc_u (zc_u (zc_u σ 40 n k) 41 n x) 42 n y) 8 0 m).1 40 i) = if i = n then k else σ.1 40 i := by intro i; simp [zc_u]
  have e2 : ∀ i, ((zc_u (zc_u (zc_u (zc_u σ 40 n k) 41 n x) 42 n y) 8 0 m).1 41 i) = if i = n then x else σ.1 41 i := by intro i; simp [zc_u]
  have e3 : ∀ i, ((zc_u (zc_u (zc_u (zc_u σ 40 n k) 41 n x) 42 n y) 8 0 m).1 42 i) = if i = n then y else σ.1 42 i := by intro i; simp [zc_u]
  refine Prod.ext ?_ (Prod.ext ?_ (Prod.ext ?_ ?_))
  · show ((zc_u (zc_u (zc_u (zc_u σ 40 n k) 41 n x) 42 n y) 8 0 m).1 8 0).toInt = (σ.1 8 0).toInt + 1
    rw [e0]; exact hm
  · funext i
    show (_ : Int32).toInt = if (i : Int) = (σ.1 8 0).toInt then _ else _
    rw [e1]
    by_cases g : i = n
    · rw [if_pos g, if_pos (by omega)]
    · rw [if_neg g, if_neg (by omega)]
  · funext i
    show (_ : Int32).toInt = if (i : Int) = (σ.1 8 0).toInt then _ else _
    rw [e2]
    by_cases g : i = n
    · rw [if_pos g, if_pos (by omega)]
    · rw [if_neg g, if_neg (by omega)]
  · funext i
    show (_ : Int32).toInt = if (i : Int) = (σ.1 8 0).toInt then _ else _
    rw [e3]
    by_cases g : i = n
    · rw [if_pos g, if_pos (by omega)]
    · rw [if_neg g, if_neg (by omega)]
theorem zw_X_ag {M : zc_ms} {σ τ : zc_S} (ha : zc_Ag M σ τ) (h3 : zc_im M 2 3 = false) (h4 : zc_im M 2 4 = false) (h5 : zc_im M 2 5 = false) (h6 : zc_im M 2 6 = false) : zw_X τ = zw_X σ := by
  unfold zw_X
  rw [(ha 2 3 h3).1, (ha 2 4 h4).1, (ha 2 5 h5).1, (ha 2 6 h6).1]
theorem zw_one_h {b : Nat → Int} {P : zw_P} {L : zw_L} {f : Int} (hf : zw_hd (zw_kn b P) L.1 = f) (h : ¬ f = 0) : zw_one b (P, L) = ((f, P.2), L) := by
  unfold zw_one
  rw [if_pos (by show ¬ zw_hd (zw_kn b P) L.1 = 0; rw [hf]; exact h)]
  show ((zw_hd (zw_kn b P) L.1, P.2), L) = _
  rw [hf]
theorem zw_one_f {b : Nat → Int} {P : zw_P} {L : zw_L} {k : Int} (hk : zw_kn b P = k) (h0 : zw_hd k L.1 = 0) (h1 : ¬ (zw_ln b k P).1 = 0) : zw_one b (P, L) = (zw_ln b k P, L) := by
  subst hk
  unfold zw_one
  rw [if_neg (by intro h; exact h h0), if_neg h1]
theorem zw_one_y {b : Nat → Int} {P : zw_P} {L : zw_L} {k : Int} (hk : zw_kn b P = k) (h0 : zw_hd k L.1 = 0) (h1 : (zw_ln b k P).1 = 0) : zw_one b (P, L) = (zw_adv b (zw_ln b k P), zw_put L k (zw_v1 b P) (zw_v2 b k (zw_1 b k P))) := by
  subst hk
  unfold zw_one
  rw [if_neg (by intro h; exact h h0), if_pos h1]
theorem zw_ln2 {b : Nat → Int} {k : Int} {P : zw_P} (h : k = 2) : zw_ln b k P = zw_chk 3 (zw_adv b (zw_1 b k (zw_1 b k P))) := by unfold zw_ln zw_2; rw [if_pos h]
theorem zw_lnn {b : Nat → Int} {k : Int} {P : zw_P} (h : ¬ k = 2) : zw_ln b k P = zw_chk 3 (zw_adv b (zw_1 b k P)) := by unfold zw_ln zw_2; rw [if_neg h]
theorem zw_adv_len {σ : zc_S} {P : zw_P} (h : (P.2.2.1 : Int) ≤ (σ.1 2 1).toInt) : ((zw_adv (zw_bX σ) P).2.2.1 : Int) ≤ (σ.1 2 1).toInt := by
  unfold zw_adv
  split
  · exact zw_e_len h
  · exact h
theorem zw_chk_e {w : Int} {P : zw_P} : (zw_chk w P).2.2.1 = P.2.2.1 := by unfold zw_chk; split <;> rfl
theorem zw_rng_e {v lo hi : Int} {P : zw_P} : (zw_rng v lo hi P).2.2.1 = P.2.2.1 := by unfold zw_rng; split <;> rfl
theorem zw_1_len {σ : zc_S} {k : Int} {P : zw_P} (h : (P.2.2.1 : Int) ≤ (σ.1 2 1).toInt) : ((zw_1 (zw_bX σ) k P).2.2.1 : Int) ≤ (σ.1 2 1).toInt := by
  unfold zw_1
  rw [zw_rng_e, zw_chk_e]
  exact zw_adv_len h
theorem zw_ln_len {σ : zc_S} {k : Int} {P : zw_P} (h : (P.2.2.1 : Int) ≤ (σ.1 2 1).toInt) : ((zw_ln (zw_bX σ) k P).2.2.1 : Int) ≤ (σ.1 2 1).toInt := by
  unfold zw_ln
  rw [zw_chk_e]
  refine zw_adv_len ?_
  unfold zw_2
  split
  · exact zw_1_len (zw_1_len h)
  · exact zw_1_len h
theorem zw_one_len {σ : zc_S} {S : zw_P × zw_L} (h : (S.1.2.2.1 : Int) ≤ (σ.1 2 1).toInt) : ((zw_one (zw_bX σ) S).1.2.2.1 : Int) ≤ (σ.1 2 1).toInt := by
  unfold zw_one
  split
  · exact h
  · split
    · exact zw_adv_len (zw_ln_len h)
    · exact zw_ln_len h
theorem zw_or {P Q R S : Prop} (h : (P ∧ Q) ∨ (R ∧ S)) (hn : ¬ P) : S := by
  rcases h with ⟨a, _⟩ | ⟨_, b⟩
  · exact absurd a hn
  · exact b
/-- the lines at the start of a reading: none, over what lies in the rows -/
def zw_LX0 (σ : zc_S) : zw_L := (0, fun i => (σ.1 40 i).toInt, fun i => (σ.1 41 i).toInt, fun i => (σ.1 42 i).toInt)
noncomputable def zw_rX (σ : zc_S) : zw_P × zw_L := zw_it (zw_bX σ) 8 (zw_tk (zw_bX σ) 0, zw_LX0 σ)
theorem zw_LX0_ag {M : zc_ms} {σ τ : zc_S} (ha : zc_Ag M σ τ) (h0 : (τ.1 8 0).toInt = 0) (h1 : ∀ j, zc_im M 40 j = false) (h2 : ∀ j, zc_im M 41 j = false) (h3 : ∀ j, zc_im M 42 j = false) : zw_LX τ = zw_LX0 σ := by
  unfold zw_LX zw_LX0
  rw [h0, show (fun i => (τ.1 40 i).toInt) = (fun i => (σ.1 40 i).toInt) from funext fun i => by rw [(ha 40 i (h1 i)).1], show (fun i => (τ.1 41 i).toInt) = (fun i => (σ.1 41 i).toInt) from funext fun i => by rw [(ha 41 i (h2 i)).1], show (fun i => (τ.1 42 i).toInt) = (fun i => (σ.1 42 i).toInt) from funext fun i => by rw [(ha 42 i (h3 i)).1]]
theorem zw_step {b : Nat → Int} {S T R : zw_P × zw_L} {n m : Nat} (h : zw_it b n S = R) (hT : T = zw_one b S) (h1 : S.1.1 = 0) (h2 : ¬ S.1.2.2.2 = 0) (hn : 1 ≤ n) (hm : m = n - 1 ∨ ¬ T.1.1 = 0) : zw_it b m T = R := by
  rw [zw_its (m := n - 1) (by omega) h1 h2, ← hT] at h
  rcases hm with hm | hm
  · rw [hm]; exact h
  · rw [zw_itn (fun g => hm g.1)] at h ⊢
    exact h
/-! the tape, second half -/
def zw_TX (σ : zc_S) : zw_L := ((σ.1 3 0).toInt, fun i => (σ.1 18 i).toInt, fun i => (σ.1 19 i).toInt, fun i => (σ.1 20 i).toInt)
def zw_TM (σ : zc_S) : zw_L := ((σ.1 0 17).toInt, fun i => (σ.1 8 i).toInt, fun i => (σ.1 9 i).toInt, fun i => (σ.1 10 i).toInt)
theorem zw_TX_ag {M : zc_ms} {σ τ : zc_S} (ha : zc_Ag M σ τ) (h0 : zc_im M 3 0 = false) (h1 : ∀ j, zc_im M 18 j = false) (h2 : ∀ j, zc_im M 19 j = false) (h3 : ∀ j, zc_im M 20 j = false) : zw_TX τ = zw_TX σ := by
  unfold zw_TX
  rw [(ha 3 0 h0).1, show (fun i => (τ.1 18 i).toInt) = (fun i => (σ.1 18 i).toInt) from funext fun i => by rw [(ha 18 i (h1 i)).1], show (fun i => (τ.1 19 i).toInt) = (fun i => (σ.1 19 i).toInt) from funext fun i => by rw [(ha 19 i (h2 i)).1], show (fun i => (τ.1 20 i).toInt) = (fun i => (σ.1 20 i).toInt) from funext fun i => by rw [(ha 20 i (h3 i)).1]]

theorem zw_TM_ag {M : zc_ms} {σ τ : zc_S} (ha : zc_Ag M σ τ) (h0 : zc_im M 0 17 = false) (h1 : ∀ j, zc_im M 8 j = false) (h2 : ∀ j, zc_im M 9 j = false) (h3 : ∀ j, zc_im M 10 j = false) : zw_TM τ = zw_TM σ := by
  unfold zw_TM
  rw [(ha 0 17 h0).1, show (fun i => (τ.1 8 i).toInt) = (fun i => (σ.1 8 i).toInt) from funext fun i => by rw [(ha 8 i (h1 i)).1], show (fun i => (τ.1 9 i).toInt) = (fun i => (σ.1 9 i).toInt) from funext fun i => by rw [(ha 9 i (h2 i)).1], show (fun i => (τ.1 10 i).toInt) = (fun i => (σ.1 10 i).toInt) from funext fun i => by rw [(ha 10 i (h3 i)).1]]

theorem zw_LM_ag {M : zc_ms} {σ τ : zc_S} (ha : zc_Ag M σ τ) (h0 : zc_im M 0 21 = false) (h1 : ∀ j, zc_im M 11 j = false) (h2 : ∀ j, zc_im M 12 j = false) (h3 : ∀ j, zc_im M 13 j = false) : zw_LM τ = zw_LM σ := by
  unfold zw_LM
  rw [(ha 0 21 h0).1, show (fun i => (τ.1 11 i).toInt) = (fun i => (σ.1 11 i).toInt) from funext fun i => by rw [(ha 11 i (h1 i)).1], show (fun i => (τ.1 12 i).toInt) = (fun i => (σ.1 12 i).toInt) from funext fun i => by rw [(ha 12 i (h2 i)).1], show (fun i => (τ.1 13 i).toInt) = (fun i => (σ.1 13 i).toInt) from funext fun i => by rw [(ha 13 i (h3 i)).1]]

theorem zw_TX_put {σ : zc_S} {n : Nat} {k x y m : Int32} (hn : (n : Int) = (σ.1 3 0).toInt) (hm : m.toInt = (σ.1 3 0).toInt + 1) : zw_TX (zc_u (zc_u (zc_u (zc_u σ 18 n k) 19 n x) 20 n y) 3 0 m) = zw_put (zw_TX σ) k.toInt x.toInt y.toInt := by
  unfold zw_TX zw_put
  have e0 : ((zc_u (zc_u (zc_u (zc_u σ 18 n k) 19 n x) 20 n y) 3 0 m).1 3 0) = m := by simp [zc_u]
  have e1 : ∀ i, ((zc_u (zc_u (zc_u (zc_u σ 18 n k) 19 n x) 20 n y) 3 0 m).1 18 i) = if i = n then k else σ.1 18 i := by intro i; simp [zc_u]
  have e2 : ∀ i, ((zc_u (zc_u (zc_u (zc_u σ 18 n k) 19 n x) 20 n y) 3 0 m).1 19 i) = if i = n then x else σ.1 19 i := by intro i; simp [zc_u]
  have e3 : ∀ i, ((zc_u (zc_u (zc_u (zc_u σ 18 n k) 19 n x) 20 n y) 3 0 m).1 20 i) = if i = n then y else σ.1 20 i := by intro i; simp [zc_u]
  refine Prod.ext ?_ (Prod.ext ?_ (Prod.ext ?_ ?_))
  · show ((zc_u (zc_u (zc_u (zc_u σ 18 n k) 19 n x) 20 n y) 3 0 m).1 3 0).toInt = (σ.1 3 0).toInt + 1
    rw [e0]; exact hm
  · funext i
    show (_ : Int32).toInt = if (i : Int) = (σ.1 3 0).toInt then _ else _
    rw [e1]
    by_cases g : i = n
    · rw [if_pos g, if_pos (by omega)]
    · rw [if_neg g, if_neg (by omega)]
  · funext i
    show (_ : Int32).toInt = if (i : Int) = (σ.1 3 0).toInt then _ else _
    rw [e2]
    by_cases g : i = n
    · rw [if_pos g, if_pos (by omega)]
    · rw [if_neg g, if_neg (by omega)]
  · funext i
    show (_ : Int32).toInt = if (i : Int) = (σ.1 3 0).toInt then _ else _
    rw [e3]
    by_cases g : i = n
    · rw [if_pos g, if_pos (by omega)]
    · rw [if_neg g, if_neg (by omega)]

theorem zw_LM_put {σ : zc_S} {n : Nat} {k x y m : Int32} (hn : (n : Int) = (σ.1 0 21).toInt) (hm : m.toInt = (σ.1 0 21).toInt + 1) : zw_LM (zc_u (zc_u (zc_u (zc_u σ 11 n k) 12 n x) 13 n y) 0 21 m) = zw_put (zw_LM σ) k.toInt x.toInt y.toInt := by
  unfold zw_LM zw_put
  have e0 : ((zc_u (zc_u (zc_u (zc_u σ 11 n k) 12 n x) 13 n y) 0 21 m).1 0 21) = m := by simp [zc_u]
  have e1 : ∀ i, ((zc_u (zc_u (zc_u (zc_u σ 11 n k) 12 n x) 13 n y) 0 21 m).1 11 i) = if i = n then k else σ.1 11 i := by intro i; simp [zc_u]
  have e2 : ∀ i, ((zc_u (zc_u (zc_u (zc_u σ 11 n k) 12 n x) 13 n y) 0 21 m).1 12 i) = if i = n then x else σ.1 12 i := by intro i; simp [zc_u]
  have e3 : ∀ i, ((zc_u (zc_u (zc_u (zc_u σ 11 n k) 12 n x) 13 n y) 0 21 m).1 13 i) = if i = n then y else σ.1 13 i := by intro i; simp [zc_u]
  refine Prod.ext ?_ (Prod.ext ?_ (Prod.ext ?_ ?_))
  · show ((zc_u (zc_u (zc_u (zc_u σ 11 n k) 12 n x) 13 n y) 0 21 m).1 0 21).toInt = (σ.1 0 21).toInt + 1
    rw [e0]; exact hm
  · funext i
    show (_ : Int32).toInt = if (i : Int) = (σ.1 0 21).toInt then _ else _
    rw [e1]
    by_cases g : i = n
    · rw [if_pos g, if_pos (by omega)]
    · rw [if_neg g, if_neg (by omega)]
  · funext i
    show (_ : Int32).toInt = if (i : Int) = (σ.1 0 21).toInt then _ else _
    rw [e2]
    by_cases g : i = n
    · rw [if_pos g, if_pos (by omega)]
    · rw [if_neg g, if_neg (by omega)]
  · funext i
    show (_ : Int32).toInt = if (i : Int) = (σ.1 0 21).toInt then _ else _
    rw [e3]
    by_cases g : i = n
    · rw [if_pos g, if_pos (by omega)]
    · rw [if_neg g, if_neg (by omega)]

def zw_nb (b : Nat → Int) (lo hi : Int) (P : zw_P) : zw_P := zw_rng (zw_val b (zw_chk 2 P)) lo hi (zw_chk 2 P)
theorem zw_nb_a {b : Nat → Int} {lo hi : Int} {P : zw_P} (h : ¬ P.1 = 0) : zw_nb b lo hi P = P := by
  unfold zw_nb
  rw [zw_chk_n (Or.inl h), zw_rng_n (Or.inl h)]
theorem zw_nb_b {b : Nat → Int} {lo hi : Int} {P : zw_P} (h : P.1 = 0) (h2 : ¬ P.2.2.2 = 2) : zw_nb b lo hi P = (2, P.2) := by
  unfold zw_nb
  rw [zw_chk_y h h2, zw_rng_n (Or.inl (show ¬ (2 : Int) = 0 by decide))]
theorem zw_val_c {b : Nat → Int} {P : zw_P} (h : P.1 = 0) (h2 : P.2.2.2 = 2) : zw_val b (zw_chk 2 P) = zw_v b P.2.1 P.2.2.1 := by
  rw [zw_chk_n (Or.inr h2)]
  unfold zw_val
  rw [if_pos h]
theorem zw_nb_c {b : Nat → Int} {lo hi : Int} {P : zw_P} (h : P.1 = 0) (h2 : P.2.2.2 = 2) (h3 : lo ≤ zw_v b P.2.1 P.2.2.1 ∧ zw_v b P.2.1 P.2.2.1 ≤ hi) : zw_nb b lo hi P = P := by
  unfold zw_nb
  rw [zw_val_c h h2, zw_chk_n (Or.inr h2), zw_rng_n (Or.inr h3)]
theorem zw_nb_d {b : Nat → Int} {lo hi : Int} {P : zw_P} (h : P.1 = 0) (h2 : P.2.2.2 = 2) (h3 : zw_v b P.2.1 P.2.2.1 < lo ∨ hi < zw_v b P.2.1 P.2.2.1) : zw_nb b lo hi P = (3, P.2) := by
  unfold zw_nb
  rw [zw_val_c h h2, zw_chk_n (Or.inr h2), zw_rng_y h h3]
/-- the number that the reference keeps beside its token -/
def zw_V (σ : zc_S) : Prop := (σ.1 0 8).toInt = 0 → (σ.1 0 12).toInt = 2 → (σ.1 0 13).toInt = zw_v (zw_bM σ) (σ.1 0 11).toInt.toNat (σ.1 0 10).toInt.toNat
/-- the reference's constant rows: names and greatest numbers -/
def zw_K (σ : zc_S) : Prop := (∀ i : Nat, i < 5 → (σ.1 5 (i + 1)).toInt = (σ.1 5 i).toInt + ((zc_len.getD i 0 : Nat) : Int) ∧ ∀ j : Nat, j < zc_len.getD i 0 → (σ.1 6 ((σ.1 5 i).toInt.toNat + j)).toInt = ((zc_byt.getD i []).getD j 0).toInt) ∧ ∀ i : Nat, i < 5 → (σ.1 7 i).toInt = zw_hi (i : Int)
theorem zw_K.ag {M : zc_ms} {σ τ : zc_S} (h : zw_K σ) (ha : zc_Ag M σ τ) (_ : (0 : Nat) = 0) (h1 : ∀ j, zc_im M 5 j = false) (h2 : ∀ j, (zc_im M 6 j || zc_im M 7 j) = false) : zw_K τ := by
  have a6 : ∀ j, zc_im M 6 j = false := fun j => (Bool.or_eq_false_iff.mp (h2 j)).1
  have a7 : ∀ j, zc_im M 7 j = false := fun j => (Bool.or_eq_false_iff.mp (h2 j)).2
  refine ⟨fun i hi => ⟨?_, fun j hj => ?_⟩, fun i hi => ?_⟩
  · rw [(ha 5 _ (h1 _)).1, (ha 5 _ (h1 _)).1]; exact (h.1 i hi).1
  · rw [(ha 6 _ (a6 _)).1, (ha 5 _ (h1 _)).1]; exact (h.1 i hi).2 j hj
  · rw [(ha 7 _ (a7 _)).1]; exact h.2 i hi
theorem zw_M_ag {M : zc_ms} {σ τ : zc_S} (ha : zc_Ag M σ τ) (h3 : zc_im M 0 8 = false) (h4 : zc_im M 0 12 = false) (h5 : zc_im M 0 11 = false) (h6 : zc_im M 0 10 = false) : zw_M τ = zw_M σ := by
  unfold zw_M
  rw [(ha 0 8 h3).1, (ha 0 12 h4).1, (ha 0 11 h5).1, (ha 0 10 h6).1]
theorem zw_M_0 {σ : zc_S} (h : (σ.1 0 8).toInt = 0) : zw_M σ = (0, (zw_M σ).2) := by
  show ((σ.1 0 8).toInt, _) = _
  rw [h]
  rfl
theorem zw_M_s {σ : zc_S} {P : zw_P} (h : zw_M σ = P) (h0 : 0 ≤ (σ.1 0 11).toInt) : (σ.1 0 11).toInt = (P.2.1 : Int) := by
  rw [← h]; show _ = (((σ.1 0 11).toInt.toNat : Nat) : Int); omega
theorem zw_ge1 {p : Int → Bool} {b : Nat → Int} {q : Nat} (h : q < 120) (hp : p (b q) = true) : q + 1 ≤ zw_to p b q := by
  rw [zw_go h hp rfl]
  exact zw_ge p b (q + 1)
theorem zw_nm_of {b : Nat → Int} {s e i : Nat} (hi : i < 5) (hn : ∀ k, k < i → ¬ zw_is b s e k) (h : zw_is b s e i) : zw_nm b s e = (i : Int) := by
  match i, hi, hn, h with
  | 0, _, _, h => exact zw_nm0 h
  | 1, _, hn, h => exact zw_nm1 (hn 0 (by omega)) h
  | 2, _, hn, h => exact zw_nm2 (hn 0 (by omega)) (hn 1 (by omega)) h
  | 3, _, hn, h => exact zw_nm3 (hn 0 (by omega)) (hn 1 (by omega)) (hn 2 (by omega)) h
  | 4, _, hn, h => exact zw_nm4 (hn 0 (by omega)) (hn 1 (by omega)) (hn 2 (by omega)) (hn 3 (by omega)) h
  | n + 5, hi, _, _ => omega
theorem zw_nm_no {b : Nat → Int} {s e : Nat} (hn : ∀ k, k < 5 → ¬ zw_is b s e k) : zw_nm b s e = -4 := zw_nm5 (hn 0 (by omega)) (hn 1 (by omega)) (hn 2 (by omega)) (hn 3 (by omega)) (hn 4 (by omega))
/-- the same lines below their number -/
def zw_Lq (L L' : zw_L) : Prop := L.1 = L'.1 ∧ ∀ i : Nat, (i : Int) < L.1 → L.2.1 i = L'.2.1 i ∧ L.2.2.1 i = L'.2.2.1 i ∧ L.2.2.2 i = L'.2.2.2 i
theorem zw_Lq.sy {L L' : zw_L} (h : zw_Lq L L') : zw_Lq L' L := ⟨h.1.symm, fun i hi => by
  have q := h.2 i (by rw [h.1]; exact hi)
  exact ⟨q.1.symm, q.2.1.symm, q.2.2.symm⟩⟩
theorem zw_Lq.tr {L L' L'' : zw_L} (h : zw_Lq L L') (g : zw_Lq L' L'') : zw_Lq L L'' := ⟨h.1.trans g.1, fun i hi => by
  have q := h.2 i hi
  have p := g.2 i (by rw [← h.1]; exact hi)
  exact ⟨q.1.trans p.1, q.2.1.trans p.2.1, q.2.2.trans p.2.2⟩⟩
theorem zw_Lq.put {L L' : zw_L} (h : zw_Lq L L') (k x y : Int) : zw_Lq (zw_put L k x y) (zw_put L' k x y) := by
  refine ⟨?_, fun i hi => ?_⟩
  · show L.1 + 1 = L'.1 + 1
    rw [h.1]
  · have hi' : (i : Int) < L.1 + 1 := hi
    show (if (i : Int) = L.1 then k else L.2.1 i) = (if (i : Int) = L'.1 then k else L'.2.1 i) ∧ (if (i : Int) = L.1 then x else L.2.2.1 i) = (if (i : Int) = L'.1 then x else L'.2.2.1 i) ∧ (if (i : Int) = L.1 then y else L.2.2.2 i) = (if (i : Int) = L'.1 then y else L'.2.2.2 i)
    rw [← h.1]
    by_cases e : (i : Int) = L.1
    · rw [if_pos e, if_pos e, if_pos e, if_pos e, if_pos e, if_pos e]
      exact ⟨rfl, rfl, rfl⟩
    · rw [if_neg e, if_neg e, if_neg e, if_neg e, if_neg e, if_neg e]
      exact h.2 i (by omega)
theorem zw_one_cong {b : Nat → Int} {P : zw_P} {L L' : zw_L} (h : zw_Lq L L') : (zw_one b (P, L)).1 = (zw_one b (P, L')).1 ∧ zw_Lq (zw_one b (P, L)).2 (zw_one b (P, L')).2 := by
  have e := h.1
  by_cases g : zw_hd (zw_kn b P) L.1 = 0
  · have g' : zw_hd (zw_kn b P) L'.1 = 0 := by rw [← e]; exact g
    by_cases g2 : (zw_ln b (zw_kn b P) P).1 = 0
    · rw [zw_one_y rfl g g2, zw_one_y rfl g' g2]
      exact ⟨rfl, h.put _ _ _⟩
    · rw [zw_one_f rfl g g2, zw_one_f rfl g' g2]
      exact ⟨rfl, h⟩
  · have g' : ¬ zw_hd (zw_kn b P) L'.1 = 0 := by rw [← e]; exact g
    rw [zw_one_h rfl g, zw_one_h rfl g']
    exact ⟨by rw [e], h⟩
theorem zw_it_cong {b : Nat → Int} : ∀ (n : Nat) (P : zw_P) (L L' : zw_L), zw_Lq L L' → (zw_it b n (P, L)).1 = (zw_it b n (P, L')).1 ∧ zw_Lq (zw_it b n (P, L)).2 (zw_it b n (P, L')).2
  | 0, _, _, _, h => ⟨rfl, h⟩
  | n + 1, P, L, L', h => by
    by_cases g : P.1 = 0 ∧ ¬ P.2.2.2 = 0
    · rw [zw_its (S := (P, L)) rfl g.1 g.2, zw_its (S := (P, L')) rfl g.1 g.2]
      obtain ⟨a, c⟩ := zw_one_cong (b := b) (P := P) h
      have q := zw_it_cong (b := b) n (zw_one b (P, L)).1 (zw_one b (P, L)).2 (zw_one b (P, L')).2 c
      have e2 : ((zw_one b (P, L)).1, (zw_one b (P, L')).2) = zw_one b (P, L') := by rw [a]
      rw [e2] at q
      exact q
    · rw [zw_itn (S := (P, L)) g, zw_itn (S := (P, L')) g]
      exact ⟨rfl, h⟩
/-- the reference's reading -/
def zw_LM0 (σ : zc_S) : zw_L := (0, fun i => (σ.1 11 i).toInt, fun i => (σ.1 12 i).toInt, fun i => (σ.1 13 i).toInt)
noncomputable def zw_rM (σ : zc_S) : zw_P × zw_L := zw_it (zw_bM σ) 8 (zw_tk (zw_bM σ) 0, zw_LM0 σ)
theorem zw_LM0_ag {M : zc_ms} {σ τ : zc_S} (ha : zc_Ag M σ τ) (h0 : (τ.1 0 21).toInt = 0) (h1 : ∀ j, zc_im M 11 j = false) (h2 : ∀ j, zc_im M 12 j = false) (h3 : ∀ j, zc_im M 13 j = false) : zw_LM τ = zw_LM0 σ := by
  unfold zw_LM zw_LM0
  rw [h0, show (fun i => (τ.1 11 i).toInt) = (fun i => (σ.1 11 i).toInt) from funext fun i => by rw [(ha 11 i (h1 i)).1], show (fun i => (τ.1 12 i).toInt) = (fun i => (σ.1 12 i).toInt) from funext fun i => by rw [(ha 12 i (h2 i)).1], show (fun i => (τ.1 13 i).toInt) = (fun i => (σ.1 13 i).toInt) from funext fun i => by rw [(ha 13 i (h3 i)).1]]
theorem zw_same {σX σM : zc_S} (hb : zw_bX σX = zw_bM σM) : (zw_rX σX).1 = (zw_rM σM).1 ∧ zw_Lq (zw_rX σX).2 (zw_rM σM).2 := by
  unfold zw_rX zw_rM
  rw [hb]
  exact zw_it_cong 8 _ _ _ ⟨rfl, fun i hi => by
    have h9 : (i : Int) < 0 := hi
    omega⟩
def zl_B (σX σM : zc_S) : Prop := ∀ i : Nat, (i : Int) < (σX.1 2 1).toInt → (σX.1 17 i).toInt = (σM.1 4 i).toInt
theorem zw_bq {σX σM : zc_S} (hL : (σX.1 2 1).toInt = (σM.1 0 6).toInt) (hB : zl_B σX σM) : zw_bX σX = zw_bM σM := by
  funext i
  unfold zw_bX zw_bM zw_b
  rw [← hL]
  by_cases g : (i : Int) < (σX.1 2 1).toInt
  · rw [if_pos g, if_pos g]; exact hB i g
  · rw [if_neg g, if_neg g]
def zl_E (σX σM : zc_S) : Prop := zw_Lq (zw_TX σX) (zw_TM σM)
theorem zl_Et {σX σM τX τM : zc_S} {A A' C C' : Prop} (h : zl_E σX σM) (hb : zw_bX σX = zw_bM σM) (gx : (¬ (zw_rX σX).1.1 = 0 ∧ A ∧ zw_TX τX = zw_TX σX) ∨ ((zw_rX σX).1.1 = 0 ∧ A' ∧ zw_Lq (zw_TX τX) (zw_rX σX).2)) (gm : (¬ (zw_rM σM).1.1 = 0 ∧ C ∧ zw_TM τM = zw_TM σM) ∨ ((zw_rM σM).1.1 = 0 ∧ C' ∧ zw_Lq (zw_TM τM) (zw_rM σM).2)) : zl_E τX τM := by
  obtain ⟨e1, e2⟩ := zw_same hb
  rw [e1] at gx
  rcases gx with ⟨x1, _, x2⟩ | ⟨x1, _, x2⟩
  · rcases gm with ⟨y1, _, y2⟩ | ⟨y1, _, y2⟩
    · show zw_Lq (zw_TX τX) (zw_TM τM)
      rw [x2, y2]; exact h
    · exact absurd y1 x1
  · rcases gm with ⟨y1, _, y2⟩ | ⟨y1, _, y2⟩
    · exact absurd x1 y1
    · exact x2.tr (e2.tr y2.sy)
theorem zl_E.x {M : zc_ms} {σX τX σM : zc_S} (h : zl_E σX σM) (ha : zc_Ag M σX τX) (h0 : zc_im M 3 0 = false) (h1 : ∀ j, zc_im M 18 j = false) (h2 : ∀ j, zc_im M 19 j = false) (h3 : ∀ j, zc_im M 20 j = false) : zl_E τX σM := by
  show zw_Lq (zw_TX τX) _
  rw [zw_TX_ag ha h0 h1 h2 h3]; exact h
theorem zl_E.m {M : zc_ms} {σX σM τM : zc_S} (h : zl_E σX σM) (ha : zc_Ag M σM τM) (h0 : zc_im M 0 17 = false) (h1 : ∀ j, zc_im M 8 j = false) (h2 : ∀ j, zc_im M 9 j = false) (h3 : ∀ j, zc_im M 10 j = false) : zl_E σX τM := by
  show zw_Lq _ (zw_TM τM)
  rw [zw_TM_ag ha h0 h1 h2 h3]; exact h
theorem zl_B.x {M : zc_ms} {σX τX σM : zc_S} (h : zl_B σX σM) (ha : zc_Ag M σX τX) (h1 : zc_im M 2 1 = false) (h2 : ∀ j, zc_im M 17 j = false) : zl_B τX σM := by
  intro i hi
  rw [(ha 2 1 h1).1] at hi
  rw [(ha 17 i (h2 i)).1]; exact h i hi
theorem zl_B.m {M : zc_ms} {σX σM τM : zc_S} (h : zl_B σX σM) (ha : zc_Ag M σM τM) (h2 : ∀ j, zc_im M 4 j = false) : zl_B σX τM := by
  intro i hi
  rw [(ha 4 i (h2 i)).1]; exact h i hi
theorem zl_B.e {M M' : zc_ms} {σX τX σM τM : zc_S} (h : zl_B σX σM) (ha : zc_Ag M σX τX) (hm : zc_Ag M' σM τM) (hl : (τX.1 2 1).toInt ≤ (σX.1 2 1).toInt) (h1 : ∀ j, zc_im M 17 j = false) (h2 : ∀ j, zc_im M' 4 j = false) : zl_B τX τM := by
  intro i hi
  rw [(ha 17 i (h1 i)).1, (hm 4 i (h2 i)).1]; exact h i (by omega)
/-! bytes fed -/
def zw_by (v : Int64) (s : Int) : Int := ((v.toBitVec.toNat / 2 ^ s.toNat % 256 : Nat) : Int)
def zw_I (c : Nat) (σ τ : zc_S) (a n : Int) (v : Int64) : Prop := ∀ i : Nat, (τ.1 c i).toInt = if a ≤ (i : Int) ∧ (i : Int) < n then zw_by v (56 - 8 * ((i : Int) - a)) else (σ.1 c i).toInt
theorem zw_I0 {c : Nat} {σ : zc_S} {a n : Int} {v : Int64} (h : n ≤ a) : zw_I c σ σ a n v := by
  intro i
  rw [if_neg (by omega)]
theorem zw_Iu {c q : Nat} {σ τ : zc_S} {a n m s : Int} {v : Int64} {x : Int32} (h : zw_I c σ τ a n v) (h1 : a ≤ n) (hq : (q : Int) = n) (hx : x.toInt = zw_by v s) (hs : s = 56 - 8 * (n - a)) (hm : m = n + 1) : zw_I c σ (zc_u τ c q x) a m v := by
  intro i
  rw [zc_u_at]
  unfold upd
  by_cases e : i = q
  · rw [if_pos e, if_pos (by omega), hx, hs, show (i : Int) = n by omega]
  · rw [if_neg e, h i]
    by_cases g : a ≤ (i : Int) ∧ (i : Int) < n
    · rw [if_pos g, if_pos (by omega)]
    · rw [if_neg g, if_neg (by omega)]
theorem zw_In {c k j : Nat} {σ τ : zc_S} {a n : Int} {v : Int64} {x : Int32} (h : zw_I c σ τ a n v) (hk : c ≠ k) : zw_I c σ (zc_u τ k j x) a n v := by
  intro i
  rw [zc_u_ne _ _ _ _ hk]
  exact h i
theorem zl_Bf {σX σM τX τM : zc_S} {v : Int64} (h : zl_B σX σM) (hL : (σX.1 2 1).toInt = (σM.1 0 6).toInt) (gx : (112 < (σX.1 2 1).toInt ∧ τX = σX) ∨ ((σX.1 2 1).toInt ≤ 112 ∧ zw_I 17 σX τX (σX.1 2 1).toInt ((σX.1 2 1).toInt + 8) v)) (gm : (112 < (σM.1 0 6).toInt ∧ τM = σM) ∨ ((σM.1 0 6).toInt ≤ 112 ∧ zw_I 4 σM τM (σM.1 0 6).toInt ((σM.1 0 6).toInt + 8) v)) (hn : (τX.1 2 1).toInt ≤ (σX.1 2 1).toInt + 8) : zl_B τX τM := by
  rcases gx with ⟨x1, rfl⟩ | ⟨x1, x2⟩
  · rcases gm with ⟨y1, rfl⟩ | ⟨y1, y2⟩
    · exact h
    · omega
  · rcases gm with ⟨y1, rfl⟩ | ⟨y1, y2⟩
    · omega
    · intro i hi
      rw [x2 i, y2 i, ← hL]
      by_cases g : (σX.1 2 1).toInt ≤ (i : Int) ∧ (i : Int) < (σX.1 2 1).toInt + 8
      · rw [if_pos g, if_pos g]
      · rw [if_neg g, if_neg g]; exact h i (by omega)
theorem zw_lo8 {z : Int64} {w x c : Int32} (hw : w = z.toInt32) (hx : x = w &&& c) (hc : c.toInt = 255) : x.toInt = ((z.toBitVec.toNat % 256 : Nat) : Int) := by
  obtain rfl : c = 255 := by rw [zn_eq]; exact hc
  have h1 : w.toInt = z.toInt.bmod (2 ^ 32) := by rw [hw]; exact Int64.toInt_toInt32 z
  have h2 : x.toBitVec.toNat = w.toBitVec.toNat % 256 := by
    rw [hx]
    show (w.toBitVec &&& (255 : Int32).toBitVec).toNat = _
    rw [BitVec.toNat_and]
    exact Nat.and_two_pow_sub_one_eq_mod w.toBitVec.toNat 8
  have h3 : w.toInt = w.toBitVec.toInt := rfl
  have h4 : z.toInt = z.toBitVec.toInt := rfl
  have h5 : x.toInt = x.toBitVec.toInt := rfl
  rw [BitVec.toInt_eq_toNat_cond] at h3 h4 h5
  have l1 := w.toBitVec.isLt
  have l2 := z.toBitVec.isLt
  rw [h1, Int.bmod_def] at h3
  rw [h4] at h3
  rw [h5, if_pos (by omega)]
  split at h3 <;> split at h3 <;> split at h3 <;> omega
theorem zw_ush {v z : Int64} {y w c x : Int32} (hz : z = (v.toUInt64 >>> (y.toInt64.toUInt64 &&& Int64.toUInt64 63)).toInt64) (hw : w = z.toInt32) (hx : x = w &&& c) (hc : c.toInt = 255) (hy : y.toInt = 0 ∨ y.toInt = 8 ∨ y.toInt = 16 ∨ y.toInt = 24 ∨ y.toInt = 32 ∨ y.toInt = 40 ∨ y.toInt = 48 ∨ y.toInt = 56) : x.toInt = zw_by v y.toInt := by
  rw [zw_lo8 hw hx hc]
  have h1 : z.toBitVec.toNat = v.toBitVec.toNat >>> ((y.toInt64.toUInt64 &&& Int64.toUInt64 63).toNat % 64) := by
    rw [hz]
    exact UInt64.toNat_shiftRight v.toUInt64 _
  have h2 : (y.toInt64.toUInt64 &&& Int64.toUInt64 63).toNat % 64 = y.toInt.toNat := by
    rcases hy with h | h | h | h | h | h | h | h
    · obtain rfl : y = 0 := by rw [zn_eq]; exact h
      decide
    · obtain rfl : y = 8 := by rw [zn_eq]; exact h
      decide
    · obtain rfl : y = 16 := by rw [zn_eq]; exact h
      decide
    · obtain rfl : y = 24 := by rw [zn_eq]; exact h
      decide
    · obtain rfl : y = 32 := by rw [zn_eq]; exact h
      decide
    · obtain rfl : y = 40 := by rw [zn_eq]; exact h
      decide
    · obtain rfl : y = 48 := by rw [zn_eq]; exact h
      decide
    · obtain rfl : y = 56 := by rw [zn_eq]; exact h
      decide
  rw [h1, h2, Nat.shiftRight_eq_div_pow]
  rfl
theorem zw_sar {v z : Int64} {y w c x : Int32} (hz : z = v >>> (y.toInt64 &&& 63)) (hw : w = z.toInt32) (hx : x = w &&& c) (hc : c.toInt = 255) (hy : y.toInt = 0 ∨ y.toInt = 8 ∨ y.toInt = 16 ∨ y.toInt = 24 ∨ y.toInt = 32 ∨ y.toInt = 40 ∨ y.toInt = 48 ∨ y.toInt = 56) : x.toInt = zw_by v y.toInt := by
  rw [zw_lo8 hw hx hc]
  have h1 : z.toBitVec.toInt = v.toBitVec.toInt / 2 ^ ((y.toInt64 &&& 63).toBitVec.smod 64).toNat := by
    rw [hz]
    show (v.toBitVec.sshiftRight' ((y.toInt64 &&& 63).toBitVec.smod 64)).toInt = _
    rw [BitVec.toInt_sshiftRight', Int.shiftRight_eq_div_pow]
    rfl
  have l1 := v.toBitVec.isLt
  have l2 := z.toBitVec.isLt
  unfold zw_by
  rcases hy with h | h | h | h | h | h | h | h
  · obtain rfl : y = 0 := by rw [zn_eq]; exact h
    rw [show (((0 : Int32).toInt64 &&& 63).toBitVec.smod 64).toNat = 0 by decide, BitVec.toInt_eq_toNat_cond, BitVec.toInt_eq_toNat_cond] at h1
    rw [show (0 : Int32).toInt.toNat = 0 by decide]
    split at h1 <;> split at h1 <;> omega
  · obtain rfl : y = 8 := by rw [zn_eq]; exact h
    rw [show (((8 : Int32).toInt64 &&& 63).toBitVec.smod 64).toNat = 8 by decide, BitVec.toInt_eq_toNat_cond, BitVec.toInt_eq_toNat_cond] at h1
    rw [show (8 : Int32).toInt.toNat = 8 by decide]
    split at h1 <;> split at h1 <;> omega
  · obtain rfl : y = 16 := by rw [zn_eq]; exact h
    rw [show (((16 : Int32).toInt64 &&& 63).toBitVec.smod 64).toNat = 16 by decide, BitVec.toInt_eq_toNat_cond, BitVec.toInt_eq_toNat_cond] at h1
    rw [show (16 : Int32).toInt.toNat = 16 by decide]
    split at h1 <;> split at h1 <;> omega
  · obtain rfl : y = 24 := by rw [zn_eq]; exact h
    rw [show (((24 : Int32).toInt64 &&& 63).toBitVec.smod 64).toNat = 24 by decide, BitVec.toInt_eq_toNat_cond, BitVec.toInt_eq_toNat_cond] at h1
    rw [show (24 : Int32).toInt.toNat = 24 by decide]
    split at h1 <;> split at h1 <;> omega
  · obtain rfl : y = 32 := by rw [zn_eq]; exact h
    rw [show (((32 : Int32).toInt64 &&& 63).toBitVec.smod 64).toNat = 32 by decide, BitVec.toInt_eq_toNat_cond, BitVec.toInt_eq_toNat_cond] at h1
    rw [show (32 : Int32).toInt.toNat = 32 by decide]
    split at h1 <;> split at h1 <;> omega
  · obtain rfl : y = 40 := by rw [zn_eq]; exact h
    rw [show (((40 : Int32).toInt64 &&& 63).toBitVec.smod 64).toNat = 40 by decide, BitVec.toInt_eq_toNat_cond, BitVec.toInt_eq_toNat_cond] at h1
    rw [show (40 : Int32).toInt.toNat = 40 by decide]
    split at h1 <;> split at h1 <;> omega
  · obtain rfl : y = 48 := by rw [zn_eq]; exact h
    rw [show (((48 : Int32).toInt64 &&& 63).toBitVec.smod 64).toNat = 48 by decide, BitVec.toInt_eq_toNat_cond, BitVec.toInt_eq_toNat_cond] at h1
    rw [show (48 : Int32).toInt.toNat = 48 by decide]
    split at h1 <;> split at h1 <;> omega
  · obtain rfl : y = 56 := by rw [zn_eq]; exact h
    rw [show (((56 : Int32).toInt64 &&& 63).toBitVec.smod 64).toNat = 56 by decide, BitVec.toInt_eq_toNat_cond, BitVec.toInt_eq_toNat_cond] at h1
    rw [show (56 : Int32).toInt.toNat = 56 by decide]
    split at h1 <;> split at h1 <;> omega
/-! the class's copy of its lines -/
def zw_c (τ σ : zc_S) (n : Int) : Prop := ∀ i : Nat, (i : Int) < n → (τ.1 18 i).toInt = (σ.1 40 i).toInt ∧ (τ.1 19 i).toInt = (σ.1 41 i).toInt ∧ (τ.1 20 i).toInt = (σ.1 42 i).toInt
theorem zw_c0 {τ σ : zc_S} {n : Int} (h : n ≤ 0) : zw_c τ σ n := fun i hi => by omega
theorem zw_cu {τ b σ : zc_S} {n m x y z : Int} (hp : zw_TX τ = zw_put (zw_TX b) x y z) (h : zw_c b σ n) (hm : m = n + 1) (h0 : 0 ≤ n) (hn : (b.1 3 0).toInt = n) (hx : x = (σ.1 40 n.toNat).toInt) (hy : y = (σ.1 41 n.toNat).toInt) (hz : z = (σ.1 42 n.toNat).toInt) : zw_c τ σ m := by
  intro i hi
  have e1 : (τ.1 18 i).toInt = if (i : Int) = (b.1 3 0).toInt then x else (b.1 18 i).toInt := congrFun (congrArg (fun L : zw_L => L.2.1) hp) i
  have e2 : (τ.1 19 i).toInt = if (i : Int) = (b.1 3 0).toInt then y else (b.1 19 i).toInt := congrFun (congrArg (fun L : zw_L => L.2.2.1) hp) i
  have e3 : (τ.1 20 i).toInt = if (i : Int) = (b.1 3 0).toInt then z else (b.1 20 i).toInt := congrFun (congrArg (fun L : zw_L => L.2.2.2) hp) i
  rw [e1, e2, e3, hn]
  by_cases g : (i : Int) = n
  · obtain rfl : i = n.toNat := by omega
    rw [if_pos g, if_pos g, if_pos g]
    exact ⟨hx, hy, hz⟩
  · rw [if_neg g, if_neg g, if_neg g]
    exact h i (by omega)
theorem zw_cq {τ b : zc_S} {L : zw_L} (hL : zw_LX b = L) (h1 : (τ.1 3 0).toInt = (b.1 8 0).toInt) (hc : zw_c τ b (b.1 8 0).toInt) : zw_Lq (zw_TX τ) L := by
  subst hL
  exact ⟨h1, fun i hi => hc i (by
    have h9 : (i : Int) < (τ.1 3 0).toInt := hi
    omega)⟩
/-! the reference's copy -/
def zw_d (τ : zc_S) (n : Int) : Prop := ∀ i : Nat, (i : Int) < n → (τ.1 8 i).toInt = (τ.1 11 i).toInt ∧ (τ.1 9 i).toInt = (τ.1 12 i).toInt ∧ (τ.1 10 i).toInt = (τ.1 13 i).toInt
theorem zw_d0 {τ : zc_S} {n : Int} (h : n ≤ 0) : zw_d τ n := fun i hi => by omega
theorem zw_du {τ : zc_S} {n m : Int} {q : Nat} {x y z : Int32} (h : zw_d τ n) (hm : m = n + 1) (hq : (q : Int) = n) (hx : x = τ.1 11 q) (hy : y = τ.1 12 q) (hz : z = τ.1 13 q) : zw_d (zc_u (zc_u (zc_u τ 8 q x) 9 q y) 10 q z) m := by
  intro i hi
  have e1 : ((zc_u (zc_u (zc_u τ 8 q x) 9 q y) 10 q z).1 8 i) = if i = q then x else τ.1 8 i := by simp [zc_u]
  have e2 : ((zc_u (zc_u (zc_u τ 8 q x) 9 q y) 10 q z).1 9 i) = if i = q then y else τ.1 9 i := by simp [zc_u]
  have e3 : ((zc_u (zc_u (zc_u τ 8 q x) 9 q y) 10 q z).1 10 i) = if i = q then z else τ.1 10 i := by simp [zc_u]
  have e4 : ((zc_u (zc_u (zc_u τ 8 q x) 9 q y) 10 q z).1 11 i) = τ.1 11 i := by simp [zc_u]
  have e5 : ((zc_u (zc_u (zc_u τ 8 q x) 9 q y) 10 q z).1 12 i) = τ.1 12 i := by simp [zc_u]
  have e6 : ((zc_u (zc_u (zc_u τ 8 q x) 9 q y) 10 q z).1 13 i) = τ.1 13 i := by simp [zc_u]
  rw [e1, e2, e3, e4, e5, e6]
  by_cases g : i = q
  · rw [if_pos g, if_pos g, if_pos g, hx, hy, hz, g]
    exact ⟨rfl, rfl, rfl⟩
  · rw [if_neg g, if_neg g, if_neg g]
    exact h i (by omega)
theorem zw_dq {τ : zc_S} {L : zw_L} {n : Int} (hL : zw_LM τ = L) (h1 : (τ.1 0 17).toInt = (τ.1 0 21).toInt) (hc : zw_d τ n) (hn : (τ.1 0 21).toInt ≤ n) : zw_Lq (zw_TM τ) L := by
  subst hL
  exact ⟨h1, fun i hi => hc i (by
    have h9 : (i : Int) < (τ.1 0 17).toInt := hi
    omega)⟩
theorem zw_fl {P Q R S T : Prop} (h : (P ∧ Q ∧ R) ∨ (S ∧ T)) (hn : ¬ S) : Q := by
  rcases h with ⟨_, b, _⟩ | ⟨a, _⟩
  · exact b
  · exact absurd a hn
/-- the place of the fault is the token's -/
def zw_iw (a b c : Int) : Prop := a = 0 ∨ b = c
/-- a number, where there is no fault -/
def zw_wv (f r v : Int) : Prop := ¬ f = 0 ∨ r = v
theorem zw_wv.mono {f f' r v : Int} (h : zw_wv f r v) (hm : f = 0 ∨ 1 ≤ f') : zw_wv f' r v := by
  unfold zw_wv at h ⊢
  omega
theorem zw_wv.get {f r v : Int} (h : zw_wv f r v) (hf : f = 0) : r = v := by
  unfold zw_wv at h
  omega
/-! the class's rows: a chain of tellings, and what it says -/
def zx_lk (σ : zc_S) (on : Int) : Nat → Nat → Int
  | 0, _ => -4
  | _ + 1, 0 => -4
  | n + 1, i + 1 => if (σ.1 13 i).toInt ≤ on then (σ.1 14 i).toInt else zx_lk σ on n (σ.1 12 i).toInt.toNat
/-- the chains go back: nothing is told behind the last telling -/
def zx_C (σ : zc_S) : Prop := (∀ c : Nat, (σ.1 11 c).toInt ≤ (σ.1 1 1).toInt) ∧ ∀ i : Nat, (i : Int) < (σ.1 1 1).toInt → (σ.1 12 i).toInt ≤ i
/-- what is known of a place on a day -/
def zx_A (σ : zc_S) (c : Nat) (on : Int) : Int := zx_lk σ on (σ.1 1 1).toInt.toNat (σ.1 11 c).toInt.toNat
theorem zx_fuel {σ : zc_S} {on : Int} (h : zx_C σ) : ∀ (b at' n m : Nat), at' ≤ b → at' ≤ n → at' ≤ m → (at' : Int) ≤ (σ.1 1 1).toInt → zx_lk σ on n at' = zx_lk σ on m at' := by
  intro b
  induction b with
  | zero =>
    intro a n m h1 _ _ _
    obtain rfl : a = 0 := by omega
    cases n <;> cases m <;> rfl
  | succ b ih =>
    intro a n m h1 h2 h3 h4
    cases a with
    | zero => cases n <;> cases m <;> rfl
    | succ i =>
      cases n with
      | zero => omega
      | succ n =>
        cases m with
        | zero => omega
        | succ m =>
          have q := h.2 i (by omega)
          simp only [zx_lk]
          split
          · rfl
          · exact ih _ n m (by omega) (by omega) (by omega) (by omega)
theorem zx_same {σ τ : zc_S} {on : Int} (h : zx_C σ) : ∀ (n at' : Nat), (at' : Int) ≤ (σ.1 1 1).toInt → (∀ i : Nat, i < at' → τ.1 12 i = σ.1 12 i ∧ τ.1 13 i = σ.1 13 i ∧ τ.1 14 i = σ.1 14 i) → zx_lk τ on n at' = zx_lk σ on n at' := by
  intro n
  induction n with
  | zero => intro a _ _; rfl
  | succ n ih =>
    intro a h4 hs
    cases a with
    | zero => rfl
    | succ i =>
      have q := h.2 i (by omega)
      obtain ⟨e1, e2, e3⟩ := hs i (Nat.lt_succ_self i)
      simp only [zx_lk, e1, e2, e3]
      split
      · rfl
      · exact ih _ (by omega) (fun j hj => hs j (by omega))
/-- one telling more, of place c -/
def zx_T (σ τ : zc_S) (c : Nat) (v : Int) : Prop := (τ.1 1 1).toInt = (σ.1 1 1).toInt + 1 ∧ zx_C τ ∧ ∀ (c' : Nat) (on : Int), zx_A τ c' on = if c' = c ∧ (σ.1 1 0).toInt ≤ on then v else zx_A σ c' on
def zx_tl (σ : zc_S) (c : Nat) (lt nw v n1 : Int32) : zc_S := zc_u (zc_u (zc_u (zc_u (zc_u σ 12 (σ.1 1 1).toInt.toNat lt) 13 (σ.1 1 1).toInt.toNat nw) 14 (σ.1 1 1).toInt.toNat v) 1 1 n1) 11 c n1
theorem zx_tell {σ : zc_S} {c : Nat} {v n1 : Int32} (hC : zx_C σ) (h0 : 0 ≤ (σ.1 1 1).toInt) (hl : ∀ c, 0 ≤ (σ.1 11 c).toInt) (hn : n1.toInt = (σ.1 1 1).toInt + 1) : zx_T σ (zx_tl σ c (σ.1 11 c) (σ.1 1 0) v n1) c v.toInt := by
  have hk : ∀ k j, (zx_tl σ c (σ.1 11 c) (σ.1 1 0) v n1).1 k j = if k = 11 ∧ j = c then n1 else if k = 1 ∧ j = 1 then n1 else if k = 14 ∧ j = (σ.1 1 1).toInt.toNat then v else if k = 13 ∧ j = (σ.1 1 1).toInt.toNat then σ.1 1 0 else if k = 12 ∧ j = (σ.1 1 1).toInt.toNat then σ.1 11 c else σ.1 k j := fun k j => rfl
  generalize zx_tl σ c (σ.1 11 c) (σ.1 1 0) v n1 = τ at hk ⊢
  have e1 : τ.1 1 1 = n1 := by rw [hk]; simp
  have e11 : ∀ j, τ.1 11 j = if j = c then n1 else σ.1 11 j := by intro j; rw [hk]; simp
  have e12 : ∀ j, τ.1 12 j = if j = (σ.1 1 1).toInt.toNat then σ.1 11 c else σ.1 12 j := by intro j; rw [hk]; simp
  have e13 : ∀ j, τ.1 13 j = if j = (σ.1 1 1).toInt.toNat then σ.1 1 0 else σ.1 13 j := by intro j; rw [hk]; simp
  have e14 : ∀ j, τ.1 14 j = if j = (σ.1 1 1).toInt.toNat then v else σ.1 14 j := by intro j; rw [hk]; simp
  have hT : zx_C τ := by
    refine ⟨fun j => ?_, fun i hi => ?_⟩
    · rw [e1, e11]
      have := hC.1 j
      split <;> omega
    · rw [e1] at hi
      rw [e12]
      split
      · have := hC.1 c
        omega
      · exact hC.2 i (by omega)
  refine ⟨by rw [e1]; exact hn, hT, fun c' on => ?_⟩
  have lo : ∀ i : Nat, i < (σ.1 1 1).toInt.toNat → τ.1 12 i = σ.1 12 i ∧ τ.1 13 i = σ.1 13 i ∧ τ.1 14 i = σ.1 14 i := by
    intro i hi
    rw [e12, e13, e14, if_neg (by omega), if_neg (by omega), if_neg (by omega)]
    exact ⟨rfl, rfl, rfl⟩
  have hb := hC.1 c'
  have hb0 := hl c'
  have low : ∀ n, zx_lk τ on n (σ.1 11 c').toInt.toNat = zx_lk σ on n (σ.1 11 c').toInt.toNat := fun n => zx_same hC n _ (by omega) (fun i hi => lo i (by omega))
  unfold zx_A
  rw [e1, e11]
  by_cases hc : c' = c
  · subst hc
    rw [if_pos rfl, hn, show ((σ.1 1 1).toInt + 1).toNat = (σ.1 1 1).toInt.toNat + 1 by omega]
    simp only [zx_lk, e12, e13, e14, eq_self_iff_true, if_true, true_and]
    split
    · rfl
    · exact low _
  · rw [if_neg hc, if_neg (fun h => hc h.1), low, hn]
    exact zx_fuel hC _ _ _ _ (Nat.le_refl _) (by omega) (by omega) (by omega)
theorem zx_C.ag {M : zc_ms} {σ τ : zc_S} (h : zx_C σ) (ha : zc_Ag M σ τ) (h1 : zc_im M 1 1 = false) (h2 : ∀ j, zc_im M 11 j = false) (h3 : ∀ j, zc_im M 12 j = false) : zx_C τ := by
  refine ⟨fun c => ?_, fun i hi => ?_⟩
  · rw [(ha 11 c (h2 c)).1, (ha 1 1 h1).1]; exact h.1 c
  · rw [(ha 1 1 h1).1] at hi
    rw [(ha 12 i (h3 i)).1]; exact h.2 i hi
theorem zx_A.ag {M : zc_ms} {σ τ : zc_S} (ha : zc_Ag M σ τ) (h1 : zc_im M 1 1 = false) (h2 : ∀ j, zc_im M 11 j = false) (h3 : ∀ j, zc_im M 12 j = false) (h4 : ∀ j, zc_im M 13 j = false) (h5 : ∀ j, zc_im M 14 j = false) (c : Nat) (on : Int) : zx_A τ c on = zx_A σ c on := by
  unfold zx_A
  rw [(ha 1 1 h1).1, (ha 11 c (h2 c)).1]
  generalize (σ.1 1 1).toInt.toNat = n
  generalize (σ.1 11 c).toInt.toNat = k
  induction n generalizing k with
  | zero => rfl
  | succ n ih =>
    cases k with
    | zero => rfl
    | succ i =>
      simp only [zx_lk]
      rw [(ha 12 i (h3 i)).1, (ha 13 i (h4 i)).1, (ha 14 i (h5 i)).1]
      split
      · rfl
      · exact ih _
theorem zx_none {σ : zc_S} {on : Int} {n a : Nat} (h : n = 0 ∨ a = 0) : zx_lk σ on n a = -4 := by
  rcases h with rfl | rfl
  · rfl
  · cases n <;> rfl
theorem zx_no {σ : zc_S} {on a n : Int} (hn : 0 < n) (ha : 0 < a) (h : on < (σ.1 13 (a - 1).toNat).toInt) : zx_lk σ on n.toNat a.toNat = zx_lk σ on (n - 1).toNat (σ.1 12 (a - 1).toNat).toInt.toNat := by
  rw [show n.toNat = (n - 1).toNat + 1 by omega, show a.toNat = (a - 1).toNat + 1 by omega]
  simp only [zx_lk]
  rw [if_neg (by omega)]
theorem zx_yes {σ : zc_S} {on a n : Int} (hn : 0 < n) (ha : 0 < a) (h : (σ.1 13 (a - 1).toNat).toInt ≤ on) : zx_lk σ on n.toNat a.toNat = (σ.1 14 (a - 1).toNat).toInt := by
  rw [show n.toNat = (n - 1).toNat + 1 by omega, show a.toNat = (a - 1).toNat + 1 by omega]
  simp only [zx_lk]
  rw [if_pos h]
/-! the reference's table -/
def zy_I (σ τ : zc_S) (c : Nat) (v t L : Int) : Prop := ∀ c' on : Nat, c' < 256 → on < 64 → (τ.1 1 (256 * on + c')).toInt = if c' = c ∧ t ≤ (on : Int) ∧ (on : Int) < L then v else (σ.1 1 (256 * on + c')).toInt
theorem zy_I0 {σ : zc_S} {c : Nat} {v t L : Int} (h : L ≤ t) : zy_I σ σ c v t L := by
  intro c' on _ _
  rw [if_neg (by omega)]
theorem zy_Iu {σ τ : zc_S} {c : Nat} {v t L : Int} {q : Nat} {x : Int32} (h : zy_I σ τ c v t L) (h1 : t ≤ L) (h0 : 0 ≤ t) (hc : c < 256) (hq : (q : Int) = 256 * L + c) (hx : x.toInt = v) : zy_I σ (zc_u τ 1 q x) c v t (L + 1) := by
  intro c' on h2 h3
  rw [zc_u_at]
  unfold upd
  by_cases e : 256 * on + c' = q
  · rw [if_pos e, if_pos (by omega), hx]
  · rw [if_neg e, h c' on h2 h3]
    by_cases g : c' = c ∧ t ≤ (on : Int) ∧ (on : Int) < L
    · rw [if_pos g, if_pos (by omega)]
    · rw [if_neg g, if_neg (by omega)]
theorem zy_In {σ τ : zc_S} {c : Nat} {v t L : Int} {k j : Nat} {x : Int32} (h : zy_I σ τ c v t L) (hk : 1 ≠ k) : zy_I σ (zc_u τ k j x) c v t L := by
  intro c' on h2 h3
  rw [zc_u_ne _ _ _ _ hk]
  exact h c' on h2 h3
/-- one telling more in the table -/
def zy_T (σ τ : zc_S) (c : Nat) (v : Int) : Prop := (τ.1 0 2).toInt = (σ.1 0 2).toInt + 1 ∧ zy_I σ τ c (v + 1) (σ.1 0 1).toInt 64
def zl_Q (a t : Int) : Prop := (a = -4 ∧ t = 0) ∨ (0 ≤ a ∧ t = a + 1)
def zl_rows (σX σM : zc_S) : Prop := ∀ c on : Nat, c < 256 → on < 64 → zl_Q (zx_A σX c on) (σM.1 1 (256 * on + c)).toInt
theorem zl_tell {σX σM τX τM : zc_S} {c : Nat} {v w : Int} (h : zl_rows σX σM) (hn : (σX.1 1 0).toInt = (σM.1 0 1).toInt) (hX : zx_T σX τX c v) (hM : zy_T σM τM c w) (hv : zl_Q v (w + 1)) : zl_rows τX τM := by
  intro c' on h1 h2
  rw [hX.2.2 c' on, hM.2 c' on h1 h2, hn]
  by_cases e : c' = c ∧ (σM.1 0 1).toInt ≤ (on : Int)
  · rw [if_pos e, if_pos (by omega)]; exact hv
  · rw [if_neg e, if_neg (by omega)]; exact h c' on h1 h2
/-! reading from sheets: the pure picture -/
def zq_nm (v : Int) : Int := if v < 0 then -4 else v
def zq_rd (t : Int) (c0 : Nat) (cl : Nat → Int) (A : Nat → Int → Int) : Nat → Nat → Int → Int
  | 0 => A
  | i + 1 => fun c on => if zq_rd t c0 cl A i (c0 + i) t = zq_nm (cl i) then zq_rd t c0 cl A i c on else if c = c0 + i ∧ t ≤ on then zq_nm (cl i) else zq_rd t c0 cl A i c on
def zq_rn (t : Int) (c0 : Nat) (cl : Nat → Int) (A : Nat → Int → Int) : Nat → Int
  | 0 => 0
  | i + 1 => zq_rn t c0 cl A i + if zq_rd t c0 cl A i (c0 + i) t = zq_nm (cl i) then 0 else 1
def zq_cn (t : Int) (c0 : Nat) (cl : Nat → Int) (A : Nat → Int → Int) : Nat → Int
  | 0 => 0
  | i + 1 => zq_cn t c0 cl A i + if A (c0 + i) t = zq_nm (cl i) then 0 else 1
section ZQ
variable {t : Int} {c0 : Nat} {cl cl' : Nat → Int} {A B : Nat → Int → Int}
theorem zq_hi {on : Int} : ∀ (i k : Nat), i ≤ k → zq_rd t c0 cl A i (c0 + k) on = A (c0 + k) on
  | 0, _, _ => rfl
  | i + 1, k, h => by
    have e := zq_hi (on := on) i k (by omega)
    simp only [zq_rd]
    split
    · exact e
    · rw [if_neg (by omega)]; exact e
theorem zq_rn_cn : ∀ i : Nat, zq_rn t c0 cl A i = zq_cn t c0 cl A i
  | 0 => rfl
  | i + 1 => by simp only [zq_rn, zq_cn]; rw [zq_rn_cn i, zq_hi i i (Nat.le_refl i)]
theorem zq_cn_mono : ∀ (n i : Nat), i ≤ n → zq_cn t c0 cl A i ≤ zq_cn t c0 cl A n
  | 0, i, h => by obtain rfl : i = 0 := by omega
                  exact Int.le_refl _
  | n + 1, i, h => by
    by_cases e : i = n + 1
    · subst e; exact Int.le_refl _
    · have q := zq_cn_mono n i (by omega)
      simp only [zq_cn]
      split <;> omega
theorem zq_cong {n : Nat} (hA : ∀ (c : Nat) (on : Int), c < 256 → 0 ≤ on → on < 64 → A c on = B c on) (hcl : ∀ i, i < n → cl i = cl' i) (h0 : 0 ≤ t) (h1 : t < 64) (hc : c0 + n ≤ 256) : ∀ i, i ≤ n → (∀ (c : Nat) (on : Int), c < 256 → 0 ≤ on → on < 64 → zq_rd t c0 cl A i c on = zq_rd t c0 cl' B i c on) ∧ zq_rn t c0 cl A i = zq_rn t c0 cl' B i
  | 0, _ => ⟨hA, rfl⟩
  | i + 1, hi => by
    obtain ⟨e1, e2⟩ := zq_cong hA hcl h0 h1 hc i (by omega)
    have e3 := hcl i (by omega)
    have e4 := e1 (c0 + i) t (by omega) h0 h1
    refine ⟨fun c on g1 g2 g3 => ?_, ?_⟩
    · simp only [zq_rd]
      rw [e3, e4, e1 c on g1 g2 g3]
    · simp only [zq_rn]
      rw [e2, e3, e4]
theorem zq_cn_cong {n : Nat} (hA : ∀ (c : Nat) (on : Int), c < 256 → 0 ≤ on → on < 64 → A c on = B c on) (hcl : ∀ i, i < n → cl i = cl' i) (h0 : 0 ≤ t) (h1 : t < 64) (hc : c0 + n ≤ 256) (i : Nat) (hi : i ≤ n) : zq_cn t c0 cl A i = zq_cn t c0 cl' B i := by
  rw [← zq_rn_cn, ← zq_rn_cn]
  exact (zq_cong hA hcl h0 h1 hc i hi).2
end ZQ
/-- so many days can be read -/
def zq_G (fl : Nat → Prop) (cl cn : Nat → Int) (tl : Int) (R : Nat) : Prop := ∀ i, i < R → ¬ fl i ∧ cl i ≤ 999 ∧ tl + cn (i + 1) ≤ 200
def zq_E (fl : Nat → Prop) (cl cn : Nat → Int) (tl : Int) (n : Nat) (same : Prop) (told : Nat → Prop) : Prop := ∃ R : Nat, R ≤ n ∧ zq_G fl cl cn tl R ∧ (((R = n ∨ fl R) ∧ told R) ∨ (R < n ∧ ¬ fl R ∧ (999 < cl R ∨ 200 < tl + cn (R + 1)) ∧ same))
theorem zq_both {fl fl' : Nat → Prop} {cl cl' cn cn' : Nat → Int} {tl tl' : Int} {n : Nat} {same same' : Prop} {told told' : Nat → Prop} (hf : ∀ i, fl i ↔ fl' i) (hc : ∀ i, ¬ fl i → cl i = cl' i) (hn : ∀ R, (∀ i, i < R → cl i = cl' i) → R ≤ n → cn R = cn' R) (ht : tl = tl') (h : zq_E fl cl cn tl n same told) (h' : zq_E fl' cl' cn' tl' n same' told') : (∃ R, R ≤ n ∧ (∀ i, i < R → cl i = cl' i) ∧ told R ∧ told' R) ∨ (same ∧ same') := by
  subst ht
  obtain ⟨R, r1, r2, r3⟩ := h
  obtain ⟨Q, q1, q2, q3⟩ := h'
  have hcR : ∀ i, i < R → cl i = cl' i := fun i hi => hc i (r2 i hi).1
  have e : R = Q := by
    rcases Nat.lt_trichotomy R Q with l | l | l
    · exfalso
      have z := q2 R l
      have nf : ¬ fl R := fun x => z.1 ((hf R).mp x)
      have ec := hc R nf
      have en := hn (R + 1) (fun i hi => by
        by_cases g : i < R
        · exact hcR i g
        · obtain rfl : i = R := by omega
          exact ec) (by omega)
      rcases r3 with ⟨y, _⟩ | ⟨_, _, y, _⟩
      · rcases y with y | y
        · omega
        · exact nf y
      · rw [ec, en] at y
        omega
    · exact l
    · exfalso
      have z := r2 Q l
      have nf : ¬ fl' Q := fun x => z.1 ((hf Q).mpr x)
      have ec := hc Q z.1
      have en := hn (Q + 1) (fun i hi => hcR i (by omega)) (by omega)
      rcases q3 with ⟨y, _⟩ | ⟨_, _, y, _⟩
      · rcases y with y | y
        · omega
        · exact nf y
      · rw [← ec, ← en] at y
        omega
  subst e
  rcases r3 with ⟨y, ty⟩ | ⟨a1, a2, a3, a4⟩
  · rcases q3 with ⟨x, tx⟩ | ⟨b1, b2, b3, b4⟩
    · exact Or.inl ⟨R, r1, hcR, ty, tx⟩
    · exfalso
      rcases y with y | y
      · omega
      · exact b2 ((hf R).mp y)
  · rcases q3 with ⟨x, tx⟩ | ⟨b1, b2, b3, b4⟩
    · exfalso
      rcases x with x | x
      · omega
      · exact a2 ((hf R).mpr x)
    · exact Or.inr ⟨a4, b4⟩
/-! the class's side -/
def zx_cl (σ : zc_S) (k f : Int) (j : Nat) : Int := (σ.1 39 (k * 64 + f + j).toNat).toInt
def zx_R (σ0 σ : zc_S) (c0 : Nat) (cl : Nat → Int) (i : Nat) : Prop := zx_C σ ∧ (∀ (c : Nat) (on : Int), zx_A σ c on = zq_rd (σ0.1 1 0).toInt c0 cl (zx_A σ0) i c on) ∧ (σ.1 1 1).toInt = (σ0.1 1 1).toInt + zq_rn (σ0.1 1 0).toInt c0 cl (zx_A σ0) i
theorem zx_R0 {σ : zc_S} {c0 : Nat} {cl : Nat → Int} {i : Nat} (h : zx_C σ) (hi : i = 0) : zx_R σ σ c0 cl i := by
  subst hi
  exact ⟨h, fun _ _ => rfl, (Int.add_zero _).symm⟩
theorem zx_Rk {σ0 σ : zc_S} {c0 : Nat} {cl : Nat → Int} {i n : Nat} (h : zx_R σ0 σ c0 cl i) (hn : n = i + 1) (hk : zx_A σ (c0 + i) (σ0.1 1 0).toInt = zq_nm (cl i)) : zx_R σ0 σ c0 cl n := by
  subst hn
  rw [h.2.1] at hk
  refine ⟨h.1, fun c on => ?_, ?_⟩
  · rw [h.2.1]; simp only [zq_rd]; rw [if_pos hk]
  · rw [h.2.2]; simp only [zq_rn]; rw [if_pos hk]; omega
theorem zx_Rt {σ0 σ τ : zc_S} {c0 : Nat} {cl : Nat → Int} {i n : Nat} (h : zx_R σ0 σ c0 cl i) (hn : n = i + 1) (hk : ¬ zx_A σ (c0 + i) (σ0.1 1 0).toInt = zq_nm (cl i)) (h0 : (σ.1 1 0).toInt = (σ0.1 1 0).toInt) (hT : zx_T σ τ (c0 + i) (zq_nm (cl i))) : zx_R σ0 τ c0 cl n := by
  subst hn
  rw [h.2.1] at hk
  refine ⟨hT.2.1, fun c on => ?_, ?_⟩
  · rw [hT.2.2, h0, h.2.1]; simp only [zq_rd]; rw [if_neg hk]
  · rw [hT.1, h.2.2]; simp only [zq_rn]; rw [if_neg hk]; omega
theorem zx_R.ag {M : zc_ms} {σ0 σ τ : zc_S} {c0 : Nat} {cl : Nat → Int} {i : Nat} (h : zx_R σ0 σ c0 cl i) (ha : zc_Ag M σ τ) (h1 : zc_im M 1 1 = false) (h2 : ∀ j, zc_im M 11 j = false) (h3 : ∀ j, zc_im M 12 j = false) (h4 : ∀ j, zc_im M 13 j = false) (h5 : ∀ j, zc_im M 14 j = false) : zx_R σ0 τ c0 cl i :=
  ⟨h.1.ag ha h1 h2 h3, fun c on => by rw [zx_A.ag ha h1 h2 h3 h4 h5]; exact h.2.1 c on, by rw [(ha 1 1 h1).1]; exact h.2.2⟩
/-! the reference's side -/
def zy_A (σ : zc_S) (c : Nat) (on : Int) : Int := if (σ.1 1 (256 * on.toNat + c)).toInt ≤ 0 then -4 else (σ.1 1 (256 * on.toNat + c)).toInt - 1
def zy_cl (σ : zc_S) (k f : Int) (j : Nat) : Int := (σ.1 26 (64 * k + f + j).toNat).toInt
def zy_R (σ0 σ : zc_S) (c0 : Nat) (cl : Nat → Int) (i : Nat) : Prop := (∀ (c : Nat) (on : Int), c < 256 → 0 ≤ on → on < 64 → zy_A σ c on = zq_rd (σ0.1 0 1).toInt c0 cl (zy_A σ0) i c on) ∧ (σ.1 0 2).toInt = (σ0.1 0 2).toInt + zq_rn (σ0.1 0 1).toInt c0 cl (zy_A σ0) i
theorem zy_R0 {σ : zc_S} {c0 : Nat} {cl : Nat → Int} {i : Nat} (hi : i = 0) : zy_R σ σ c0 cl i := by
  subst hi
  exact ⟨fun _ _ _ _ _ => rfl, (Int.add_zero _).symm⟩
theorem zy_At {σ τ : zc_S} {c c' : Nat} {v on : Int} (hT : zy_T σ τ c' v) (hc : c < 256) (h0 : 0 ≤ on) (h1 : on < 64) : zy_A τ c on = if c = c' ∧ (σ.1 0 1).toInt ≤ on then (if v + 1 ≤ 0 then -4 else v) else zy_A σ c on := by
  have q := hT.2 c on.toNat hc (by omega)
  unfold zy_A
  by_cases e : c = c' ∧ (σ.1 0 1).toInt ≤ on
  · rw [if_pos (by omega)] at q
    rw [q, if_pos e]
    split
    · rfl
    · omega
  · rw [if_neg (by omega)] at q
    rw [q, if_neg e]
theorem zy_Rk {σ0 σ : zc_S} {c0 : Nat} {cl : Nat → Int} {i n : Nat} (h : zy_R σ0 σ c0 cl i) (hn : n = i + 1) (hc : c0 + i < 256) (h0 : 0 ≤ (σ0.1 0 1).toInt) (h1 : (σ0.1 0 1).toInt < 64) (hk : zy_A σ (c0 + i) (σ0.1 0 1).toInt = zq_nm (cl i)) : zy_R σ0 σ c0 cl n := by
  subst hn
  rw [h.1 _ _ hc h0 h1] at hk
  refine ⟨fun c on g1 g2 g3 => ?_, ?_⟩
  · rw [h.1 c on g1 g2 g3]; simp only [zq_rd]; rw [if_pos hk]
  · rw [h.2]; simp only [zq_rn]; rw [if_pos hk]; omega
theorem zy_Rt {σ0 σ τ : zc_S} {c0 : Nat} {cl : Nat → Int} {i n : Nat} {v : Int} (h : zy_R σ0 σ c0 cl i) (hn : n = i + 1) (hc : c0 + i < 256) (h0 : 0 ≤ (σ0.1 0 1).toInt) (h1 : (σ0.1 0 1).toInt < 64) (hs : (σ.1 0 1).toInt = (σ0.1 0 1).toInt) (hk : ¬ zy_A σ (c0 + i) (σ0.1 0 1).toInt = zq_nm (cl i)) (hT : zy_T σ τ (c0 + i) v) (hv : (if v + 1 ≤ 0 then -4 else v) = zq_nm (cl i)) : zy_R σ0 τ c0 cl n := by
  subst hn
  rw [h.1 _ _ hc h0 h1] at hk
  refine ⟨fun c on g1 g2 g3 => ?_, ?_⟩
  · rw [zy_At hT g1 g2 g3, hv, hs, h.1 c on g1 g2 g3]; simp only [zq_rd]; rw [if_neg hk]
  · rw [hT.1, h.2]; simp only [zq_rn]; rw [if_neg hk]; omega
theorem zx_or {P Q R S : Prop} (h : (P ∧ Q) ∨ (R ∧ S)) (hn : ¬ P) : S := by
  rcases h with ⟨a, _⟩ | ⟨_, b⟩
  · exact absurd a hn
  · exact b
theorem zq_cnk {t : Int} {c0 : Nat} {cl : Nat → Int} {A : Nat → Int → Int} {i : Nat} (h : A (c0 + i) t = zq_nm (cl i)) : zq_cn t c0 cl A (i + 1) = zq_cn t c0 cl A i := by
  simp only [zq_cn]; rw [if_pos h]; omega
theorem zq_cnt {t : Int} {c0 : Nat} {cl : Nat → Int} {A : Nat → Int → Int} {i : Nat} (h : ¬ A (c0 + i) t = zq_nm (cl i)) : zq_cn t c0 cl A (i + 1) = zq_cn t c0 cl A i + 1 := by
  simp only [zq_cn]; rw [if_neg h]
theorem zq_G1 {fl : Nat → Prop} {cl cn : Nat → Int} {tl : Int} {R n : Nat} (h : zq_G fl cl cn tl R) (hn : n = R + 1) (h1 : ¬ fl R) (h2 : cl R ≤ 999) (h3 : tl + cn (R + 1) ≤ 200) : zq_G fl cl cn tl n := by
  subst hn
  intro i hi
  by_cases e : i = R
  · subst e; exact ⟨h1, h2, h3⟩
  · exact h i (by omega)
theorem zq_G.le {fl : Nat → Prop} {cl cn : Nat → Int} {tl : Int} {R : Nat} (h : zq_G fl cl cn tl R) (h0 : cn 0 = 0) (ht : tl ≤ 200) : tl + cn R ≤ 200 := by
  match R, h with
  | 0, _ => rw [h0]; omega
  | R + 1, h => exact (h R (Nat.lt_succ_self R)).2.2
theorem zq_Gz {fl : Nat → Prop} {cl cn : Nat → Int} {tl : Int} {R : Nat} (h : R = 0) : zq_G fl cl cn tl R := by
  subst h
  exact fun i hi => absurd hi (Nat.not_lt_zero i)
theorem zx_room {σ0 σ : zc_S} {c0 : Nat} {cl : Nat → Int} {i n : Nat} (h : zx_R σ0 σ c0 cl i) (hN : (σ0.1 1 1).toInt + zq_cn (σ0.1 1 0).toInt c0 cl (zx_A σ0) n ≤ 200) (hi : i < n) (hk : ¬ zx_A σ (c0 + i) (σ0.1 1 0).toInt = zq_nm (cl i)) : (σ.1 1 1).toInt < 200 := by
  have q := zq_cn_mono (t := (σ0.1 1 0).toInt) (c0 := c0) (cl := cl) (A := zx_A σ0) n (i + 1) hi
  rw [h.2.1, zq_hi i i (Nat.le_refl i)] at hk
  rw [zq_cnt hk] at q
  have e := h.2.2
  rw [zq_rn_cn] at e
  omega
theorem zy_room {σ0 σ : zc_S} {c0 : Nat} {cl : Nat → Int} {i n : Nat} (h : zy_R σ0 σ c0 cl i) (hN : (σ0.1 0 2).toInt + zq_cn (σ0.1 0 1).toInt c0 cl (zy_A σ0) n ≤ 200) (hi : i < n) (hc : c0 + i < 256) (h0 : 0 ≤ (σ0.1 0 1).toInt) (h1 : (σ0.1 0 1).toInt < 64) (hk : ¬ zy_A σ (c0 + i) (σ0.1 0 1).toInt = zq_nm (cl i)) : (σ.1 0 2).toInt < 200 := by
  have q := zq_cn_mono (t := (σ0.1 0 1).toInt) (c0 := c0) (cl := cl) (A := zy_A σ0) n (i + 1) hi
  rw [h.1 _ _ hc h0 h1, zq_hi i i (Nat.le_refl i)] at hk
  rw [zq_cnt hk] at q
  have e := h.2
  rw [zq_rn_cn] at e
  omega
def zx_fl (σ : zc_S) (k l f : Int) (i : Nat) : Prop := ¬ ((σ.1 37 k.toNat).toInt = l ∧ 0 ≤ f + i ∧ f + i < (σ.1 38 k.toNat).toInt)
def zy_fl (σ : zc_S) (k l f : Int) (i : Nat) : Prop := ¬ ((σ.1 24 k.toNat).toInt = l ∧ 0 ≤ f + i ∧ f + i < (σ.1 25 k.toNat).toInt)
theorem zn_add3 {z x y : Int32} (e : z = x + y) : z.toInt = x.toInt + y.toInt ∨ z.toInt = x.toInt + y.toInt - 4294967296 ∨ z.toInt = x.toInt + y.toInt + 4294967296 := by
  have h : z.toInt = (x.toInt + y.toInt).bmod (2 ^ 32) := by rw [e]; exact Int32.toInt_add x y
  have a1 := zn_lo x
  have a2 := zn_hi x
  have b1 := zn_lo y
  have b2 := zn_hi y
  rw [h, Int.bmod_def]
  split <;> omega
theorem zy_A.ag {M : zc_ms} {σ τ : zc_S} (ha : zc_Ag M σ τ) (h1 : ∀ j, zc_im M 1 j = false) (c : Nat) (on : Int) : zy_A τ c on = zy_A σ c on := by
  unfold zy_A
  rw [(ha 1 _ (h1 _)).1]
theorem zy_R.ag {M : zc_ms} {σ0 σ τ : zc_S} {c0 : Nat} {cl : Nat → Int} {i : Nat} (h : zy_R σ0 σ c0 cl i) (ha : zc_Ag M σ τ) (h1 : ∀ j, zc_im M 1 j = false) (h2 : zc_im M 0 2 = false) : zy_R σ0 τ c0 cl i :=
  ⟨fun c on g1 g2 g3 => by rw [zy_A.ag ha h1]; exact h.1 c on g1 g2 g3, by rw [(ha 0 2 h2).1]; exact h.2⟩
/-! cells of sheets -/
def zv_Z (σ τ : zc_S) (c : Nat) (a n : Int) : Prop := ∀ q : Nat, (τ.1 c q).toInt = if a ≤ (q : Int) ∧ (q : Int) < a + n then 0 else (σ.1 c q).toInt
theorem zv_Z0 {σ τ : zc_S} {c : Nat} {a n : Int} (h : n ≤ 0) (e : τ.1 c = σ.1 c) : zv_Z σ τ c a n := by
  intro q
  rw [if_neg (by omega), e]
theorem zv_Zu {σ τ : zc_S} {c i : Nat} {a n m : Int} {x : Int32} (h : zv_Z σ τ c a n) (hm : m = n + 1) (hn : 0 ≤ n) (hi : (i : Int) = a + n) (hx : x.toInt = 0) : zv_Z σ (zc_u τ c i x) c a m := by
  subst hm
  intro q
  rw [zc_u_at]
  unfold upd
  by_cases e : q = i
  · rw [if_pos e, if_pos (by omega), hx]
  · rw [if_neg e, h q]
    by_cases g : a ≤ (q : Int) ∧ (q : Int) < a + n
    · rw [if_pos g, if_pos (by omega)]
    · rw [if_neg g, if_neg (by omega)]
def zv_nr (l v : Int) : Int := if l = 0 then v.bmod 256 else if l = 1 then v.bmod 65536 else v
theorem zv_b {x z : Int32} (e : z = x.toInt8.toInt32) : z.toInt = x.toInt.bmod 256 := by
  rw [e, Int8.toInt_toInt32, Int32.toInt_toInt8]
theorem zv_s {x z : Int32} (e : z = x.toInt16.toInt32) : z.toInt = x.toInt.bmod 65536 := by
  rw [e, Int16.toInt_toInt32, Int32.toInt_toInt16]
theorem zv_24 {x z w y y' : Int32} (hz : z = x <<< (y &&& 31)) (hw : w = z >>> (y' &&& 31)) (ey : y.toInt = 24) (ey' : y'.toInt = 24) : w.toInt = x.toInt.bmod 256 := by
  obtain rfl : y = 24 := by rw [zn_eq]; exact ey
  obtain rfl : y' = 24 := by rw [zn_eq]; exact ey'
  have h1 := pk_shl x ((24 : Int32) &&& 31) 24 (by decide)
  have h2 := pk_shr z ((24 : Int32) &&& 31) 24 (by decide)
  rw [← hz] at h1
  rw [← hw, Int.shiftRight_eq_div_pow] at h2
  have h3 : z.toInt = z.toBitVec.toInt := rfl
  have h4 : x.toInt = x.toBitVec.toInt := rfl
  rw [BitVec.toInt_eq_toNat_cond] at h3 h4
  have h5 := x.toBitVec.isLt
  have h6 := z.toBitVec.isLt
  rw [Int.bmod_def]
  split at h3 <;> split at h4 <;> split <;> omega
theorem zv_16 {x z w y y' : Int32} (hz : z = x <<< (y &&& 31)) (hw : w = z >>> (y' &&& 31)) (ey : y.toInt = 16) (ey' : y'.toInt = 16) : w.toInt = x.toInt.bmod 65536 := by
  obtain rfl : y = 16 := by rw [zn_eq]; exact ey
  obtain rfl : y' = 16 := by rw [zn_eq]; exact ey'
  have h1 := pk_shl x ((16 : Int32) &&& 31) 16 (by decide)
  have h2 := pk_shr z ((16 : Int32) &&& 31) 16 (by decide)
  rw [← hz] at h1
  rw [← hw, Int.shiftRight_eq_div_pow] at h2
  have h3 : z.toInt = z.toBitVec.toInt := rfl
  have h4 : x.toInt = x.toBitVec.toInt := rfl
  rw [BitVec.toInt_eq_toNat_cond] at h3 h4
  have h5 := x.toBitVec.isLt
  have h6 := z.toBitVec.isLt
  rw [Int.bmod_def]
  split at h3 <;> split at h4 <;> split <;> omega
def zc_hid (P : Prop) : Prop := P
/-! whether a teller tells: what is known alone decides it -/
noncomputable def zp_ct (k : Nat → Prop) : Nat → Int
  | 0 => 0
  | n + 1 => zp_ct k n + @ite Int (k n) (Classical.propDecidable (k n)) 1 0
theorem zp_cy {k : Nat → Prop} {n m : Nat} (hm : m = n + 1) (h : k n) : zp_ct k m = zp_ct k n + 1 := by
  subst hm
  simp only [zp_ct]
  rw [if_pos h]
theorem zp_cn {k : Nat → Prop} {n m : Nat} (hm : m = n + 1) (h : ¬ k n) : zp_ct k m = zp_ct k n := by
  subst hm
  simp only [zp_ct]
  rw [if_neg h]
  omega
theorem zp_c0 (k : Nat → Prop) : ∀ n : Nat, 0 ≤ zp_ct k n ∧ zp_ct k n ≤ n
  | 0 => ⟨Int.le_refl _, Int.le_refl _⟩
  | n + 1 => by
    have q := zp_c0 k n
    by_cases g : k n
    · rw [zp_cy rfl g]; omega
    · rw [zp_cn rfl g]; omega
theorem zp_ccong {k k' : Nat → Prop} : ∀ n : Nat, (∀ t, t < n → (k t ↔ k' t)) → zp_ct k n = zp_ct k' n
  | 0, _ => rfl
  | n + 1, h => by
    have q := zp_ccong n (fun t ht => h t (by omega))
    by_cases g : k n
    · rw [zp_cy rfl g, zp_cy rfl ((h n (by omega)).mp g), q]
    · rw [zp_cn rfl g, zp_cn rfl (fun x => g ((h n (by omega)).mpr x)), q]
/-- as many days ago, and again -/
def zp_S (k : Nat → Prop) (n d : Int) : Nat → Int → Prop
  | 0, _ => False
  | f + 1, t => 0 ≤ t ∧ ((t ≤ d ∧ k t.toNat) ∨ zp_S k n d f (t - n))
theorem zp_Sn {k : Nat → Prop} {n d t : Int} {f : Nat} (h : t < 0) : ¬ zp_S k n d f t := by
  cases f with
  | zero => exact fun x => x
  | succ f => exact fun x => absurd x.1 (by omega)
theorem zp_Sf {k : Nat → Prop} {n d : Int} (hn : 1 ≤ n) : ∀ (f f' : Nat) (t : Int), t < (f : Int) → t < (f' : Int) → (zp_S k n d f t ↔ zp_S k n d f' t)
  | 0, f', t, h, _ => ⟨fun x => False.elim x, fun x => absurd x (zp_Sn (by omega))⟩
  | f + 1, 0, t, _, h => ⟨fun x => absurd x (zp_Sn (by omega)), fun x => False.elim x⟩
  | f + 1, f' + 1, t, h, h' => by
    have q := zp_Sf (k := k) (d := d) hn f f' (t - n) (by omega) (by omega)
    simp only [zp_S]
    rw [q]
theorem zp_St {k : Nat → Prop} {n d t t' : Int} (hn : 1 ≤ n) (h0 : 0 ≤ t) (hh : ¬ (t ≤ d ∧ k t.toNat)) (ht : t' = t - n) : zp_S k n d (t + 1).toNat t ↔ zp_S k n d (t' + 1).toNat t' := by
  subst ht
  rw [show (t + 1).toNat = t.toNat + 1 by omega]
  simp only [zp_S]
  constructor
  · rintro ⟨_, h | h⟩
    · exact absurd h hh
    · by_cases g : t - n < 0
      · exact absurd h (zp_Sn g)
      · exact (zp_Sf hn _ _ _ (by omega) (by omega)).mp h
  · intro h
    by_cases g : t - n < 0
    · exact absurd h (zp_Sn g)
    · exact ⟨h0, Or.inr ((zp_Sf hn _ _ _ (by omega) (by omega)).mp h)⟩
theorem zp_Sy {k : Nat → Prop} {n d t : Int} (h0 : 0 ≤ t) (h1 : t ≤ d) (h2 : k t.toNat) : zp_S k n d (t + 1).toNat t := by
  rw [show (t + 1).toNat = t.toNat + 1 by omega]
  exact ⟨h0, Or.inl ⟨h1, h2⟩⟩
theorem zp_Scong {k k' : Nat → Prop} {n d : Int} (h : ∀ t : Nat, (t : Int) ≤ d → (k t ↔ k' t)) : ∀ (f : Nat) (t : Int), zp_S k n d f t ↔ zp_S k' n d f t
  | 0, _ => Iff.rfl
  | f + 1, t => by
    have q := zp_Scong (n := n) h f (t - n)
    simp only [zp_S]
    rw [q]
    constructor
    · rintro ⟨a, ⟨b, c⟩ | b⟩
      · exact ⟨a, Or.inl ⟨b, (h t.toNat (by omega)).mp c⟩⟩
      · exact ⟨a, Or.inr b⟩
    · rintro ⟨a, ⟨b, c⟩ | b⟩
      · exact ⟨a, Or.inl ⟨b, (h t.toNat (by omega)).mpr c⟩⟩
      · exact ⟨a, Or.inr b⟩
/-- a day like it -/
def zp_L (k : Nat → Prop) (f : Int → Int) (d h : Int) : Prop := ∃ t : Nat, (t : Int) ≤ d ∧ (d + h - (t : Int)) % 7 = 0 ∧ k t ∧ f (t : Int) = f (d + h)
def zp_T (k : Nat → Prop) (f : Int → Int) (kind a d h : Int) : Prop := (kind = 0 ∧ zp_S k a d 78 (d + h - a)) ∨ (kind = 1 ∧ a ≤ zp_ct k (d + 1).toNat) ∨ (kind = 2 ∧ 2 ≤ zp_ct k (d + 1).toNat) ∨ (kind = 3 ∧ zp_L k f d h)
theorem zp_T0 {k : Nat → Prop} {f : Int → Int} {kind a d h : Int} (e : kind = 0) : zp_T k f kind a d h ↔ zp_S k a d 78 (d + h - a) := ⟨by
  rintro (⟨_, b⟩ | ⟨x, _⟩ | ⟨x, _⟩ | ⟨x, _⟩)
  · exact b
  all_goals omega, fun b => Or.inl ⟨e, b⟩⟩
theorem zp_T1 {k : Nat → Prop} {f : Int → Int} {kind a d h : Int} (e : kind = 1) : zp_T k f kind a d h ↔ a ≤ zp_ct k (d + 1).toNat := ⟨by
  rintro (⟨x, _⟩ | ⟨_, b⟩ | ⟨x, _⟩ | ⟨x, _⟩)
  · omega
  · exact b
  all_goals omega, fun b => Or.inr (Or.inl ⟨e, b⟩)⟩
theorem zp_T2 {k : Nat → Prop} {f : Int → Int} {kind a d h : Int} (e : kind = 2) : zp_T k f kind a d h ↔ 2 ≤ zp_ct k (d + 1).toNat := ⟨by
  rintro (⟨x, _⟩ | ⟨x, _⟩ | ⟨_, b⟩ | ⟨x, _⟩)
  · omega
  · omega
  · exact b
  · omega, fun b => Or.inr (Or.inr (Or.inl ⟨e, b⟩))⟩
theorem zp_T3 {k : Nat → Prop} {f : Int → Int} {kind a d h : Int} (e : kind = 3) : zp_T k f kind a d h ↔ zp_L k f d h := ⟨by
  rintro (⟨x, _⟩ | ⟨x, _⟩ | ⟨x, _⟩ | ⟨_, b⟩)
  · omega
  · omega
  · omega
  · exact b, fun b => Or.inr (Or.inr (Or.inr ⟨e, b⟩))⟩
theorem zp_T4 {k : Nat → Prop} {f : Int → Int} {kind a d h : Int} (e : kind < 0 ∨ 3 < kind) : ¬ zp_T k f kind a d h := by
  rintro (⟨x, _⟩ | ⟨x, _⟩ | ⟨x, _⟩ | ⟨x, _⟩) <;> omega
theorem zp_Tcong {k k' : Nat → Prop} {f f' : Int → Int} {kind a d h : Int} (hd : 0 ≤ d) (hk : ∀ t : Nat, (t : Int) ≤ d → (k t ↔ k' t)) (hf : ∀ i, f i = f' i) : zp_T k f kind a d h ↔ zp_T k' f' kind a d h := by
  have e1 := zp_Scong (n := a) hk 78 (d + h - a)
  have e2 : zp_ct k (d + 1).toNat = zp_ct k' (d + 1).toNat := zp_ccong _ (fun t ht => hk t (by omega))
  have e3 : zp_L k f d h ↔ zp_L k' f' d h := by
    constructor
    · rintro ⟨t, a1, a2, a3, a4⟩
      exact ⟨t, a1, a2, (hk t a1).mp a3, by rw [← hf, ← hf]; exact a4⟩
    · rintro ⟨t, a1, a2, a3, a4⟩
      exact ⟨t, a1, a2, (hk t a1).mpr a3, by rw [hf, hf]; exact a4⟩
  unfold zp_T
  rw [e1, e2, e3]
/-! with rows, marks and lines -/
def zp_k (A : Nat → Int → Int) (s d : Int) (t : Nat) : Prop := ¬ A (s * 64 + (t : Int)).toNat d = -4
def zp_f (c : Nat) (σ : zc_S) (i : Int) : Int := if 0 ≤ i ∧ i ≤ 63 then (σ.1 c i.toNat).toInt else 0
def zp_P (A : Nat → Int → Int) (f : Int → Int) (s : Int) (L : zw_L) (h : Int) (i : Nat) (d : Int) : Prop := zp_T (zp_k A s d) f (L.2.1 i) (L.2.2.1 i) d h
/-- a day of teller i that has both a figure and what was told for it -/
def zp_W (A : Nat → Int → Int) (f : Int → Int) (s : Int) (L : zw_L) (h : Int) (i : Nat) (d : Int) : Prop := ∃ t : Nat, h ≤ (t : Int) ∧ (t : Int) ≤ d ∧ zp_k A s d t ∧ zp_P A f s L h i ((t : Int) - h)
def zp_J (A : Nat → Int → Int) (f : Int → Int) (s : Int) (L : zw_L) (h : Int) (k : Nat) (d : Int) : Prop := ∃ i : Nat, i < k ∧ ¬ L.2.1 i = 4 ∧ zp_P A f s L h i d ∧ zp_W A f s L h i d
def zp_B (A : Nat → Int → Int) (f : Int → Int) (s : Int) (L : zw_L) (h : Int) (k : Nat) (d : Int) : Prop := (L.2.1 k = 4 ∧ zp_J A f s L h k d) ∨ (¬ L.2.1 k = 4 ∧ zp_P A f s L h k d)
theorem zp_kcong {A A' : Nat → Int → Int} {s d : Int} (hA : ∀ (c : Nat) (on : Int), c < 256 → 0 ≤ on → on < 64 → A c on = A' c on) (h0 : 0 ≤ s) (h1 : s ≤ 3) (g0 : 0 ≤ d) (g1 : d ≤ 63) (t : Nat) (ht : (t : Int) ≤ d) : zp_k A s d t ↔ zp_k A' s d t := by
  unfold zp_k
  rw [hA _ d (by omega) g0 (by omega)]
theorem zp_Pcong {A A' : Nat → Int → Int} {f f' : Int → Int} {s h d : Int} {L L' : zw_L} {i : Nat} (hA : ∀ (c : Nat) (on : Int), c < 256 → 0 ≤ on → on < 64 → A c on = A' c on) (hf : ∀ i, f i = f' i) (hL : zw_Lq L L') (hi : (i : Int) < L.1) (h0 : 0 ≤ s) (h1 : s ≤ 3) (g0 : 0 ≤ d) (g1 : d ≤ 63) : zp_P A f s L h i d ↔ zp_P A' f' s L' h i d := by
  unfold zp_P
  rw [← (hL.2 i hi).1, ← (hL.2 i hi).2.1]
  exact zp_Tcong g0 (fun t ht => zp_kcong hA h0 h1 g0 g1 t ht) hf
theorem zp_Wcong {A A' : Nat → Int → Int} {f f' : Int → Int} {s h d : Int} {L L' : zw_L} {i : Nat} (hA : ∀ (c : Nat) (on : Int), c < 256 → 0 ≤ on → on < 64 → A c on = A' c on) (hf : ∀ i, f i = f' i) (hL : zw_Lq L L') (hi : (i : Int) < L.1) (h0 : 0 ≤ s) (h1 : s ≤ 3) (g0 : 0 ≤ d) (g1 : d ≤ 63) (hh : 0 ≤ h) : zp_W A f s L h i d ↔ zp_W A' f' s L' h i d := by
  constructor
  · rintro ⟨t, a1, a2, a3, a4⟩
    exact ⟨t, a1, a2, (zp_kcong hA h0 h1 g0 g1 t a2).mp a3, (zp_Pcong hA hf hL hi h0 h1 (by omega) (by omega)).mp a4⟩
  · rintro ⟨t, a1, a2, a3, a4⟩
    exact ⟨t, a1, a2, (zp_kcong hA h0 h1 g0 g1 t a2).mpr a3, (zp_Pcong hA hf hL hi h0 h1 (by omega) (by omega)).mpr a4⟩
theorem zp_Bcong {A A' : Nat → Int → Int} {f f' : Int → Int} {s h d : Int} {L L' : zw_L} {k : Nat} (hA : ∀ (c : Nat) (on : Int), c < 256 → 0 ≤ on → on < 64 → A c on = A' c on) (hf : ∀ i, f i = f' i) (hL : zw_Lq L L') (hi : (k : Int) < L.1) (h0 : 0 ≤ s) (h1 : s ≤ 3) (g0 : 0 ≤ d) (g1 : d ≤ 63) (hh : 0 ≤ h) : zp_B A f s L h k d ↔ zp_B A' f' s L' h k d := by
  have ek := (hL.2 k hi).1
  unfold zp_B
  rw [← ek]
  have e1 : zp_J A f s L h k d ↔ zp_J A' f' s L' h k d := by
    constructor
    · rintro ⟨i, a1, a2, a3, a4⟩
      exact ⟨i, a1, by rw [← (hL.2 i (by omega)).1]; exact a2, (zp_Pcong hA hf hL (by omega) h0 h1 g0 g1).mp a3, (zp_Wcong hA hf hL (by omega) h0 h1 g0 g1 hh).mp a4⟩
    · rintro ⟨i, a1, a2, a3, a4⟩
      exact ⟨i, a1, by rw [(hL.2 i (by omega)).1]; exact a2, (zp_Pcong hA hf hL (by omega) h0 h1 g0 g1).mpr a3, (zp_Wcong hA hf hL (by omega) h0 h1 g0 g1 hh).mpr a4⟩
  rw [e1, zp_Pcong hA hf hL hi h0 h1 g0 g1]
/-! numbers -/
theorem zn_sub3 {z x y : Int32} (e : z = x - y) : z.toInt = x.toInt - y.toInt ∨ z.toInt = x.toInt - y.toInt - 4294967296 ∨ z.toInt = x.toInt - y.toInt + 4294967296 := by
  have h : z.toInt = (x.toInt - y.toInt).bmod (2 ^ 32) := by rw [e]; exact Int32.toInt_sub x y
  have a1 := zn_lo x
  have a2 := zn_hi x
  have b1 := zn_lo y
  have b2 := zn_hi y
  rw [h, Int.bmod_def]
  split <;> omega
/-- either way: nothing is told, or something -/
def zp_o (r : Int) (P : Prop) : Prop := (r = -4 ∧ ¬ P) ∨ (¬ r = -4 ∧ P)
theorem zp_o.n {r : Int} {P : Prop} (h1 : r = -4) (h2 : ¬ P) : zp_o r P := Or.inl ⟨h1, h2⟩
theorem zp_o.y {r : Int} {P : Prop} (h1 : ¬ r = -4) (h2 : P) : zp_o r P := Or.inr ⟨h1, h2⟩
theorem zp_o.iff {r : Int} {P Q : Prop} (h : zp_o r P) (e : P ↔ Q) : zp_o r Q := by
  rcases h with ⟨a, b⟩ | ⟨a, b⟩
  · exact Or.inl ⟨a, fun x => b (e.mpr x)⟩
  · exact Or.inr ⟨a, e.mp b⟩
theorem zp_o.is {r : Int} {P : Prop} (h : zp_o r P) : ¬ r = -4 ↔ P := by
  rcases h with ⟨a, b⟩ | ⟨a, b⟩
  · exact ⟨fun x => absurd a x, fun x => absurd x b⟩
  · exact ⟨fun _ => b, fun _ => a⟩
/-! the class's side: its view (cell 9, figures 43), its play (cell 4, told 21) -/
def zp_v (σ : zc_S) (t : Nat) : Prop := ¬ (σ.1 43 t).toInt = -4
/-- the lines are such as a text makes them -/
def zp_Z (σ : zc_S) : Prop := ∀ i : Nat, (i : Int) < (σ.1 3 0).toInt → ((σ.1 18 i).toInt = 2 ∨ 1 ≤ (σ.1 19 i).toInt)
def zp_XP (σ : zc_S) (s h : Int) (i : Nat) (d : Int) : Prop := zp_P (zx_A σ) (zp_f 15 σ) s (zw_TX σ) h i d
theorem zp_Pv {σ τ : zc_S} {s h d kind a : Int} {i : Nat} (hd : 0 ≤ d) (hv : ∀ t : Nat, (t : Int) ≤ d → (τ.1 43 t).toInt = zx_A σ (s * 64 + (t : Int)).toNat d) (hf : ∀ j : Nat, τ.1 15 j = σ.1 15 j) (h1 : kind = (σ.1 18 i).toInt) (h2 : a = (σ.1 19 i).toInt) : zp_T (zp_v τ) (zp_f 15 τ) kind a d h ↔ zp_XP σ s h i d := by
  subst h1
  subst h2
  refine zp_Tcong hd (fun t ht => ?_) (fun j => ?_)
  · unfold zp_v zp_k
    rw [hv t ht]
  · unfold zp_f
    rw [hf]
/-- what has been played so far: days ahead of D, and of D the tellers ahead of I -/
def zp_Q (σ τ : zc_S) (s h a b c D I : Int) : Prop := ∀ i d : Nat, a ≤ (i : Int) → (i : Int) < b → c ≤ (d : Int) → ((d : Int) < D ∨ ((d : Int) = D ∧ (i : Int) < I)) → d ≤ 63 → ((σ.1 18 i).toInt = 2 ∨ 1 ≤ (σ.1 19 i).toInt) → zp_o (τ.1 21 (i * 64 + d)).toInt (zp_XP σ s h i (d : Int))
theorem zp_Q0 {σ τ : zc_S} {s h a b c D I : Int} (h1 : D ≤ c) (h2 : I ≤ a) : zp_Q σ τ s h a b c D I := fun i d g1 g2 g3 g4 => by omega
theorem zp_Qn {σ τ : zc_S} {s h a b c D D' I I' : Int} (q : zp_Q σ τ s h a b c D I) (h1 : D' = D + 1) (h2 : b ≤ I) (h3 : I' ≤ a) : zp_Q σ τ s h a b c D' I' := fun i d g1 g2 g3 g4 g5 g6 => q i d g1 g2 g3 (by omega) g5 g6
theorem zp_Qs {σ τ υ : zc_S} {s h a b c D I : Int} (q : zp_Q σ τ s h a b c D I) (e : ∀ j, υ.1 21 j = τ.1 21 j) : zp_Q σ υ s h a b c D I := fun i d g1 g2 g3 g4 g5 g6 => by rw [e]; exact q i d g1 g2 g3 g4 g5 g6
theorem zp_Qu {σ τ : zc_S} {s h a b c D I I' : Int} {q : Nat} {x : Int32} (g : zp_Q σ τ s h a b c D I) (hq : (q : Int) = I * 64 + D) (hI : I' = I + 1) (h0 : 0 ≤ I) (hD0 : 0 ≤ D) (hD : D ≤ 63) (hx : ((σ.1 18 I.toNat).toInt = 2 ∨ 1 ≤ (σ.1 19 I.toNat).toInt) → zp_o x.toInt (zp_XP σ s h I.toNat D)) : zp_Q σ (zc_u τ 21 q x) s h a b c D I' := by
  intro i d g1 g2 g3 g4 g5 g6
  rw [zc_u_at]
  unfold upd
  by_cases e : i * 64 + d = q
  · obtain rfl : i = I.toNat := by omega
    obtain rfl : d = D.toNat := by omega
    rw [if_pos e, show ((D.toNat : Nat) : Int) = D by omega]
    exact hx g6
  · rw [if_neg e]
    exact g i d g1 g2 g3 (by omega) g5 g6
/-! weights: 0 just where no day counts -/
theorem zp_w1 {r x y : Int} (e : r = x / y) (hx : x = 1000) (h0 : 1 ≤ y) (h1 : y ≤ 1000) : 1 ≤ r := by
  rw [e, hx]
  exact (Int.le_ediv_iff_mul_le (by omega)).mpr (by omega)
theorem zp_w0 {r x y : Int} (e : r = x / y) (hx : x = 1000) (h1 : 1000 < y) : r = 0 := by
  rw [e, hx]
  exact Int.ediv_eq_zero_of_lt (by decide) h1
theorem zp_Qm {σ τ : zc_S} {s h a b c D D' I I' : Int} (q : zp_Q σ τ s h a b c D I) (h1 : D' ≤ D) (h2 : I' ≤ a) : zp_Q σ τ s h a b c D' I' := fun i d g1 g2 g3 g4 g5 g6 => q i d g1 g2 g3 (by omega) g5 g6
/-- by the class's own table: a day of teller i that counts -/
def zp_wx (σ : zc_S) (s h i d : Int) : Prop := ∃ t : Nat, h ≤ (t : Int) ∧ (t : Int) ≤ d ∧ zp_k (zx_A σ) s d t ∧ ¬ (σ.1 21 (i * 64 + ((t : Int) - h)).toNat).toInt = -4
def zp_jx (σ : zc_S) (s h k d : Int) : Prop := ∃ i : Nat, (i : Int) < k ∧ ¬ (σ.1 18 i).toInt = 4 ∧ ¬ (σ.1 21 ((i : Int) * 64 + d).toNat).toInt = -4 ∧ zp_wx σ s h (i : Int) d
/-- the table's answer is the right one, where the table is right -/
theorem zp_jJ {σ τ : zc_S} {s h k d D : Int} (q : zp_Q σ τ s h 0 k 0 D 0) (hD : d < D) (h0 : 0 ≤ d) (h6 : d ≤ 63) (hh : 0 ≤ h) (hz : ∀ i : Nat, (i : Int) < k → ((σ.1 18 i).toInt = 2 ∨ 1 ≤ (σ.1 19 i).toInt)) (hk : ∀ i : Nat, τ.1 18 i = σ.1 18 i) (hA : ∀ (c : Nat) (on : Int), zx_A τ c on = zx_A σ c on) : zp_jx τ s h k d ↔ zp_J (zx_A σ) (zp_f 15 σ) s (zw_TX σ) h k.toNat d := by
  have tl : ∀ (i t : Nat), (i : Int) < k → (t : Int) < D → t ≤ 63 → (¬ (τ.1 21 (i * 64 + t)).toInt = -4 ↔ zp_XP σ s h i (t : Int)) := fun i t h1 h2 h3 => (q i t (by omega) h1 (by omega) (Or.inl h2) h3 (hz i h1)).is
  have wq : ∀ i : Nat, (i : Int) < k → (zp_wx τ s h (i : Int) d ↔ zp_W (zx_A σ) (zp_f 15 σ) s (zw_TX σ) h i d) := by
    intro i hi
    constructor
    · rintro ⟨t, a1, a2, a3, a4⟩
      refine ⟨t, a1, a2, ?_, ?_⟩
      · unfold zp_k at a3 ⊢
        rw [hA] at a3
        exact a3
      · rw [show ((i : Int) * 64 + ((t : Int) - h)).toNat = i * 64 + ((t : Int) - h).toNat by omega] at a4
        have r := (tl i ((t : Int) - h).toNat hi (by omega) (by omega)).mp a4
        rw [show ((((t : Int) - h).toNat : Nat) : Int) = (t : Int) - h by omega] at r
        exact r
    · rintro ⟨t, a1, a2, a3, a4⟩
      refine ⟨t, a1, a2, ?_, ?_⟩
      · unfold zp_k at a3 ⊢
        rw [hA]
        exact a3
      · rw [show ((i : Int) * 64 + ((t : Int) - h)).toNat = i * 64 + ((t : Int) - h).toNat by omega]
        refine (tl i ((t : Int) - h).toNat hi (by omega) (by omega)).mpr ?_
        rw [show ((((t : Int) - h).toNat : Nat) : Int) = (t : Int) - h by omega]
        exact a4
  constructor
  · rintro ⟨i, a1, a2, a3, a4⟩
    rw [hk] at a2
    rw [show ((i : Int) * 64 + d).toNat = i * 64 + d.toNat by omega] at a3
    have r := (tl i d.toNat a1 (by omega) (by omega)).mp a3
    rw [show ((d.toNat : Nat) : Int) = d by omega] at r
    exact ⟨i, by omega, a2, r, (wq i a1).mp a4⟩
  · rintro ⟨i, a1, a2, a3, a4⟩
    have i1 : (i : Int) < k := by omega
    refine ⟨i, i1, by rw [hk]; exact a2, ?_, (wq i i1).mpr a4⟩
    rw [show ((i : Int) * 64 + d).toNat = i * 64 + d.toNat by omega]
    refine (tl i d.toNat i1 (by omega) (by omega)).mpr ?_
    rw [show ((d.toNat : Nat) : Int) = d by omega]
    exact a3
theorem zp_XP.ag {M : zc_ms} {σ τ : zc_S} (ha : zc_Ag M σ τ) (h1 : zc_im M 1 1 = false) (h2 : ∀ j, zc_im M 11 j = false) (h3 : ∀ j, zc_im M 12 j = false) (h4 : ∀ j, zc_im M 13 j = false) (h5 : ∀ j, zc_im M 14 j = false) (h6 : ∀ j, zc_im M 15 j = false) (h7 : ∀ j, zc_im M 18 j = false) (h8 : ∀ j, zc_im M 19 j = false) (s h : Int) (i : Nat) (d : Int) : zp_XP τ s h i d = zp_XP σ s h i d := by
  have e1 : zx_A τ = zx_A σ := funext fun c => funext fun on => zx_A.ag ha h1 h2 h3 h4 h5 c on
  have e2 : zp_f 15 τ = zp_f 15 σ := funext fun j => by unfold zp_f; rw [(ha 15 _ (h6 _)).1]
  unfold zp_XP zp_P
  show zp_T (zp_k (zx_A τ) s d) (zp_f 15 τ) (τ.1 18 i).toInt (τ.1 19 i).toInt d h = zp_T (zp_k (zx_A σ) s d) (zp_f 15 σ) (σ.1 18 i).toInt (σ.1 19 i).toInt d h
  rw [e1, e2, (ha 18 i (h7 i)).1, (ha 19 i (h8 i)).1]
theorem zp_Qo {σ τ : zc_S} {s h a b c D I : Int} {q : Nat} {x : Int32} (g : zp_Q σ τ s h a b c D I) (hq : b * 64 ≤ (q : Int)) (ha : 0 ≤ a) : zp_Q σ (zc_u τ 21 q x) s h a b c D I := by
  intro i d g1 g2 g3 g4 g5 g6
  rw [zc_u_at]
  unfold upd
  rw [if_neg (by omega)]
  exact g i d g1 g2 g3 g4 g5 g6
theorem zp_Bp {A : Nat → Int → Int} {f : Int → Int} {s h d : Int} {L : zw_L} {k : Nat} (e : ¬ L.2.1 k = 4) : zp_B A f s L h k d ↔ zp_P A f s L h k d := ⟨by
  rintro (⟨a, _⟩ | ⟨_, b⟩)
  · exact absurd a e
  · exact b, fun b => Or.inr ⟨e, b⟩⟩
theorem zp_Bj {A : Nat → Int → Int} {f : Int → Int} {s h d : Int} {L : zw_L} {k : Nat} (e : L.2.1 k = 4) : zp_B A f s L h k d ↔ zp_J A f s L h k d := ⟨by
  rintro (⟨_, b⟩ | ⟨a, _⟩)
  · exact b
  · exact absurd e a, fun b => Or.inl ⟨e, b⟩⟩
/-! the reference's side -/
def zp_q (r : Int) (P : Prop) : Prop := (r < 0 ∧ ¬ P) ∨ (0 ≤ r ∧ P)
theorem zp_q.n {r : Int} {P : Prop} (h1 : r < 0) (h2 : ¬ P) : zp_q r P := Or.inl ⟨h1, h2⟩
theorem zp_q.y {r : Int} {P : Prop} (h1 : 0 ≤ r) (h2 : P) : zp_q r P := Or.inr ⟨h1, h2⟩
theorem zp_q.iff {r : Int} {P Q : Prop} (h : zp_q r P) (e : P ↔ Q) : zp_q r Q := by
  rcases h with ⟨a, b⟩ | ⟨a, b⟩
  · exact Or.inl ⟨a, fun x => b (e.mpr x)⟩
  · exact Or.inr ⟨a, e.mp b⟩
theorem zp_q.is {r : Int} {P : Prop} (h : zp_q r P) : 0 ≤ r ↔ P := by
  rcases h with ⟨a, b⟩ | ⟨a, b⟩
  · exact ⟨fun x => absurd a (by omega), fun x => absurd x b⟩
  · exact ⟨fun _ => b, fun _ => a⟩
theorem zp_kM {σ : zc_S} {s d t r : Int} (h : r = (σ.1 1 (256 * d + 64 * s + t).toNat).toInt - 1) (hs : 0 ≤ s) (hd : 0 ≤ d) (ht : 0 ≤ t) : zp_q r (zp_k (zy_A σ) s d t.toNat) := by
  unfold zp_k zy_A
  rw [show 256 * d.toNat + (s * 64 + ((t.toNat : Nat) : Int)).toNat = (256 * d + 64 * s + t).toNat by omega]
  generalize (σ.1 1 (256 * d + 64 * s + t).toNat).toInt = T at h ⊢
  by_cases g : T ≤ 0
  · rw [if_pos g]; exact zp_q.n (by omega) (fun x => x rfl)
  · rw [if_neg g]; exact zp_q.y (by omega) (by omega)
def zp_aX (σ τ : zc_S) (s d : Int) : Prop := (τ.1 6 0).toInt = (σ.1 6 0).toInt + 1 ∧ ∀ i : Nat, (τ.1 30 i).toInt = (if (i : Int) = (σ.1 6 0).toInt then s else (σ.1 30 i).toInt) ∧ (τ.1 33 i).toInt = (if (i : Int) = (σ.1 6 0).toInt then d else (σ.1 33 i).toInt) ∧ (τ.1 36 i).toInt = (σ.1 36 i).toInt
def zp_aM (σ τ : zc_S) (s d : Int) : Prop := (τ.1 0 28).toInt = (σ.1 0 28).toInt + 1 ∧ ∀ i : Nat, (τ.1 17 i).toInt = (if (i : Int) = (σ.1 0 28).toInt then s else (σ.1 17 i).toInt) ∧ (τ.1 20 i).toInt = (if (i : Int) = (σ.1 0 28).toInt then d else (σ.1 20 i).toInt) ∧ (τ.1 23 i).toInt = (if (i : Int) = (σ.1 0 28).toInt then 0 else (σ.1 23 i).toInt)
def zp_eX (σ τ : zc_S) : Prop := τ.1 6 0 = σ.1 6 0 ∧ ∀ i : Nat, τ.1 30 i = σ.1 30 i ∧ τ.1 33 i = σ.1 33 i ∧ τ.1 36 i = σ.1 36 i
theorem zp_aX.of {σ υ τ : zc_S} {s d d' : Int} (h : zp_aX υ τ s d) (e : zp_eX σ υ) (hd : d = d') : zp_aX σ τ s d' := by
  subst hd
  refine ⟨by rw [h.1, e.1], fun i => ?_⟩
  have q := h.2 i
  rw [e.1, (e.2 i).1, (e.2 i).2.1, (e.2 i).2.2] at q
  exact q
theorem zp_add {σ : zc_S} {n : Nat} {s t o d v w m : Int32} (hn : (n : Int) = (σ.1 6 0).toInt) (hm : m.toInt = (σ.1 6 0).toInt + 1) : zp_aX σ (zc_u (zc_u (zc_u (zc_u (zc_u (zc_u (zc_u σ 30 n s) 31 n t) 32 n o) 33 n d) 34 n v) 35 n w) 6 0 m) s.toInt d.toInt := by
  have e1 : ∀ i, (zc_u (zc_u (zc_u (zc_u (zc_u (zc_u (zc_u σ 30 n s) 31 n t) 32 n o) 33 n d) 34 n v) 35 n w) 6 0 m).1 30 i = if i = n then s else σ.1 30 i := by intro i; simp [zc_u]
  have e2 : ∀ i, (zc_u (zc_u (zc_u (zc_u (zc_u (zc_u (zc_u σ 30 n s) 31 n t) 32 n o) 33 n d) 34 n v) 35 n w) 6 0 m).1 33 i = if i = n then d else σ.1 33 i := by intro i; simp [zc_u]
  refine ⟨hm, fun i => ⟨?_, ?_, rfl⟩⟩
  · rw [e1]
    by_cases g : i = n
    · rw [if_pos g, if_pos (by omega)]
    · rw [if_neg g, if_neg (by omega)]
  · rw [e2]
    by_cases g : i = n
    · rw [if_pos g, if_pos (by omega)]
    · rw [if_neg g, if_neg (by omega)]
theorem zp_addM {σ : zc_S} {n : Nat} {s t o d v w c m : Int32} (hn : (n : Int) = (σ.1 0 28).toInt) (hc : c.toInt = 0) (hm : m.toInt = (σ.1 0 28).toInt + 1) : zp_aM σ (zc_u (zc_u (zc_u (zc_u (zc_u (zc_u (zc_u (zc_u σ 17 n s) 18 n t) 19 n o) 20 n d) 21 n v) 22 n w) 23 n c) 0 28 m) s.toInt d.toInt := by
  have e1 : ∀ i, (zc_u (zc_u (zc_u (zc_u (zc_u (zc_u (zc_u (zc_u σ 17 n s) 18 n t) 19 n o) 20 n d) 21 n v) 22 n w) 23 n c) 0 28 m).1 17 i = if i = n then s else σ.1 17 i := by intro i; simp [zc_u]
  have e2 : ∀ i, (zc_u (zc_u (zc_u (zc_u (zc_u (zc_u (zc_u (zc_u σ 17 n s) 18 n t) 19 n o) 20 n d) 21 n v) 22 n w) 23 n c) 0 28 m).1 20 i = if i = n then d else σ.1 20 i := by intro i; simp [zc_u]
  have e3 : ∀ i, (zc_u (zc_u (zc_u (zc_u (zc_u (zc_u (zc_u (zc_u σ 17 n s) 18 n t) 19 n o) 20 n d) 21 n v) 22 n w) 23 n c) 0 28 m).1 23 i = if i = n then c else σ.1 23 i := by intro i; simp [zc_u]
  refine ⟨hm, fun i => ⟨?_, ?_, ?_⟩⟩
  · rw [e1]
    by_cases g : i = n
    · rw [if_pos g, if_pos (by omega)]
    · rw [if_neg g, if_neg (by omega)]
  · rw [e2]
    by_cases g : i = n
    · rw [if_pos g, if_pos (by omega)]
    · rw [if_neg g, if_neg (by omega)]
  · rw [e3]
    by_cases g : i = n
    · rw [if_pos g, if_pos (by omega)]; exact hc
    · rw [if_neg g, if_neg (by omega)]
def zp_nX (V : Prop) (N r : Int) (B E A : Prop) : Prop := (¬ V ∧ r = -1 ∧ E) ∨ (V ∧ 24 ≤ N ∧ r = -3 ∧ E) ∨ (V ∧ N < 24 ∧ r = -4 ∧ ¬ B ∧ E) ∨ (V ∧ N < 24 ∧ r = N ∧ B ∧ A)
/-! deeds of a note -/
def zp_cx (σ : zc_S) (i : Nat) : Prop := 0 ≤ (σ.1 33 i).toInt ∧ (σ.1 33 i).toInt ≤ 63 ∧ ¬ zx_A σ ((σ.1 30 i).toInt * 64 + (σ.1 33 i).toInt).toNat (σ.1 1 0).toInt = -4
def zp_cm (σ : zc_S) (i : Nat) : Prop := 0 ≤ (σ.1 20 i).toInt ∧ (σ.1 20 i).toInt ≤ 63 ∧ ¬ zy_A σ ((σ.1 17 i).toInt * 64 + (σ.1 20 i).toInt).toNat (σ.1 0 1).toInt = -4
def zp_ac (V : Prop) (a r : Int) (C : Prop) (E T : Prop) : Prop := (¬ V ∧ r = -1 ∧ E) ∨ (V ∧ (¬ a = 0 ∨ C) ∧ r = -2 ∧ E) ∨ (V ∧ a = 0 ∧ ¬ C ∧ r = 1 ∧ T)
theorem zx_or2 {P Q R S T U : Prop} (h : (P ∧ Q ∧ R) ∨ (S ∧ T ∧ U)) (hn : ¬ P) : U := by
  rcases h with ⟨a, _, _⟩ | ⟨_, _, b⟩
  · exact absurd a hn
  · exact b
/-! counting -/
def zp_mk (c : Nat) (σ : zc_S) (t : Nat) : Prop := ¬ (σ.1 c t).toInt = 0
def zp_u (A : Nat → Int → Int) (d : Int) (s t : Nat) : Prop := A (((s : Int) * 64 + (t : Int)).toNat) d = -4
noncomputable def zp_g (u : Nat → Nat → Prop) (n : Nat) : Nat → Int
  | 0 => 0
  | s + 1 => zp_g u n s + zp_ct (u s) n
theorem zp_g1 {u : Nat → Nat → Prop} {n s m : Nat} (h : m = s + 1) : zp_g u n m = zp_g u n s + zp_ct (u s) n := by
  subst h
  rfl
theorem zp_gcong {u v : Nat → Nat → Prop} {n : Nat} : ∀ k : Nat, (∀ s t, s < k → t < n → (u s t ↔ v s t)) → zp_g u n k = zp_g v n k
  | 0, _ => rfl
  | k + 1, h => by
    rw [zp_g1 rfl, zp_g1 rfl, zp_gcong k (fun s t a b => h s t (by omega) b), zp_ccong n (fun t ht => h k t (by omega) ht)]
/-- days ahead of d, but none behind now -/
def zp_m (d n : Int) : Nat := if d ≤ n then d.toNat else (n + 1).toNat
theorem zp_m1 {d n : Int} (h0 : 0 ≤ d) (h : d ≤ n) : zp_m (d + 1) n = d.toNat + 1 ∧ zp_m d n = d.toNat := by
  unfold zp_m
  rw [if_pos h]
  refine ⟨?_, rfl⟩
  split <;> omega
theorem zp_m2 {d n : Int} (h0 : 0 ≤ d) (h : n < d) : zp_m (d + 1) n = zp_m d n := by
  unfold zp_m
  rw [if_neg (by omega), if_neg (by omega)]
theorem zp_m0 {n : Int} (h : 0 ≤ n) : zp_m 0 n = 0 := by
  unfold zp_m
  rw [if_pos h]
  rfl
theorem zp_mz {n : Int} (h : n ≤ 63) (h0 : 0 ≤ n) : zp_m 64 n = (n + 1).toNat := by
  unfold zp_m
  rw [if_neg (by omega)]
theorem zp_g0 (u : Nat → Nat → Prop) : ∀ k : Nat, zp_g u 0 k = 0
  | 0 => rfl
  | k + 1 => by rw [zp_g1 rfl, zp_g0 u k]; rfl
/-- a sum in the midst of a day: s shops have seen it -/
noncomputable def zp_h (u : Nat → Nat → Prop) (d n : Int) (s : Nat) : Int := zp_g u (zp_m (d + 1) n) s + (zp_g u (zp_m d n) 4 - zp_g u (zp_m d n) s)
theorem zp_h0 {u : Nat → Nat → Prop} {d n : Int} : zp_h u d n 0 = zp_g u (zp_m d n) 4 := by
  unfold zp_h
  show (0 : Int) + (_ - (0 : Int)) = _
  omega
theorem zp_h4 {u : Nat → Nat → Prop} {d n : Int} {s : Nat} (h : s = 4) : zp_h u d n s = zp_g u (zp_m (d + 1) n) 4 := by
  subst h
  unfold zp_h
  omega
theorem zp_hy {u : Nat → Nat → Prop} {d n : Int} {s m : Nat} (hm : m = s + 1) (h0 : 0 ≤ d) (h : d ≤ n) (hu : u s d.toNat) : zp_h u d n m = zp_h u d n s + 1 := by
  have q := zp_m1 h0 h
  have e := zp_cy (k := u s) (n := d.toNat) (m := d.toNat + 1) rfl hu
  unfold zp_h
  rw [q.1, q.2, zp_g1 hm, zp_g1 hm]
  omega
theorem zp_hn {u : Nat → Nat → Prop} {d n : Int} {s m : Nat} (hm : m = s + 1) (h0 : 0 ≤ d) (hu : n < d ∨ ¬ u s d.toNat) : zp_h u d n m = zp_h u d n s := by
  by_cases h : d ≤ n
  · have q := zp_m1 h0 h
    have e := zp_cn (k := u s) (n := d.toNat) (m := d.toNat + 1) rfl (hu.resolve_left (by omega))
    unfold zp_h
    rw [q.1, q.2, zp_g1 hm, zp_g1 hm]
    omega
  · have q := zp_m2 h0 (show n < d by omega)
    unfold zp_h
    rw [q, zp_g1 hm]
    omega
theorem zp_uM {σ : zc_S} {s d t r : Int} (h : r = (σ.1 1 (256 * d + 64 * s + t).toNat).toInt - 1) (hs : 0 ≤ s) (hd : 0 ≤ d) (ht : 0 ≤ t) : (r < 0 ↔ zp_u (zy_A σ) d s.toNat t.toNat) := by
  have q := (zp_kM h hs hd ht).is
  unfold zp_k at q
  unfold zp_u
  rw [show (((s.toNat : Nat) : Int) * 64 + ((t.toNat : Nat) : Int)).toNat = (s * 64 + ((t.toNat : Nat) : Int)).toNat by omega]
  constructor
  · intro g
    by_cases e : zy_A σ (s * 64 + ((t.toNat : Nat) : Int)).toNat d = -4
    · exact e
    · have := q.mpr e
      omega
  · intro g
    by_cases e : r < 0
    · exact e
    · exact absurd g (q.mp (by omega))
