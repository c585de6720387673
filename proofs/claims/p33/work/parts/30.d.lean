/-! a world's table, written out -/
def zb_gf (a : Nat → Nat) (f : Nat → Int32) : Nat → List (Option Nat) → List Value
  | _, [] => []
  | j, some r :: t => .ref (a r) :: zb_gf a f (j + 1) t
  | j, none :: t => .int (f j) :: zb_gf a f (j + 1) t
theorem zb_gf_ok (a : Nat → Nat) (f : Nat → Int32) : ∀ (l : List (Option Nat)) (n : Nat), l.mapIdx (fun j o => match o with | some r => Value.ref (a r) | none => .int (f (j + n))) = zb_gf a f n l
  | [], _ => rfl
  | some r :: t, n => by
    rw [List.mapIdx_cons, zb_gf, ← zb_gf_ok a f t (n + 1)]
    congr 1
    congr 1
    funext j o
    cases o
    · show Value.int _ = Value.int _
      rw [show j + 1 + n = j + (n + 1) by omega]
    · rfl
  | none :: t, n => by
    rw [List.mapIdx_cons, zb_gf, ← zb_gf_ok a f t (n + 1)]
    congr 1
    · show Value.int _ = Value.int _
      rw [Nat.zero_add]
    · congr 1
      funext j o
      cases o
      · show Value.int _ = Value.int _
        rw [show j + 1 + n = j + (n + 1) by omega]
      · rfl
def zb_ge (c : Nat → ClassId) (a : Nat → Nat) (σ : zc_S) (k : Nat) : zc_H → va_E
  | .inl q => .inr (q.1, zb_gf a (σ.1 k) 0 q.2)
  | .inr (t, n, false) => .inl (c t, n, .inl (σ.1 k))
  | .inr (t, n, true) => .inl (c t, n, .inr (.inl (σ.2 k)))
theorem zb_ge_ok (c : Nat → ClassId) (a : Nat → Nat) (σ : zc_S) (k : Nat) (h : zc_H) : zc_E c a σ k h = zb_ge c a σ k h := by
  rcases h with ⟨ci, fl⟩ | ⟨t, n, b⟩
  · simp only [zc_E, zb_ge]
    rw [← zb_gf_ok a (σ.1 k) fl 0]
    rfl
  · cases b <;> rfl
def zb_go (c : Nat → ClassId) (a : Nat → Nat) (σ : zc_S) : Nat → List zc_H → va_W
  | _, [] => []
  | k, h :: t => (a k, zb_ge c a σ k h) :: zb_go c a σ (k + 1) t
theorem zb_go_ok (c : Nat → ClassId) (a : Nat → Nat) (σ : zc_S) : ∀ (l : List zc_H) (n : Nat), l.mapIdx (fun k h => (a (k + n), zc_E c a σ (k + n) h)) = zb_go c a σ n l
  | [], _ => rfl
  | h :: t, n => by
    rw [List.mapIdx_cons, zb_go, ← zb_go_ok c a σ t (n + 1)]
    congr 1
    · rw [Nat.zero_add, zb_ge_ok]
    · congr 1
      funext k o
      rw [show k + 1 + n = k + (n + 1) by omega]
theorem zb_W (sh : List zc_H) (c : Nat → ClassId) (a : Nat → Nat) (σ : zc_S) : zc_W sh c a σ = zb_go c a σ 0 sh := by
  rw [← zb_go_ok c a σ sh 0]
  rfl
