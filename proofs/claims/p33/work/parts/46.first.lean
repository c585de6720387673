theorem zs_sX (k : Nat) (h37 : k ≠ 37) : σX0.1 k = zb_z := by
  match k with
  | 0 => rfl
  | 1 => rfl
  | 2 => rfl
  | 3 => rfl
  | 4 => rfl
  | 5 => rfl
  | 6 => rfl
  | 7 => rfl
  | 8 => rfl
  | 9 => rfl
  | 10 => rfl
  | 11 => rfl
  | 12 => rfl
  | 13 => rfl
  | 14 => rfl
  | 15 => rfl
  | 16 => rfl
  | 17 => rfl
  | 18 => rfl
  | 19 => rfl
  | 20 => rfl
  | 21 => rfl
  | 22 => rfl
  | 23 => rfl
  | 24 => rfl
  | 25 => rfl
  | 26 => rfl
  | 27 => rfl
  | 28 => rfl
  | 29 => rfl
  | 30 => rfl
  | 31 => rfl
  | 32 => rfl
  | 33 => rfl
  | 34 => rfl
  | 35 => rfl
  | 36 => rfl
  | 37 => exact absurd rfl h37
  | 38 => rfl
  | 39 => rfl
  | 40 => rfl
  | 41 => rfl
  | 42 => rfl
  | 43 => rfl
  | 44 => rfl
  | k + 45 => rfl
theorem zs_bX : ∀ r ∈ okX, ∀ b ∈ r, b.1 ≤ 0 ∧ 0 ≤ b.2.1 ∧ (0 = b.1 ∨ b.2.2 ≤ 0) := by decide +kernel
theorem zs_fX37 : ∀ j, zs_ok (zc_bd okX 37 0) (zi_X5_23 j).toInt := by
  have h0 : ∀ j, zs_ok (zc_bd okX 37 0) (zb_z j).toInt := fun _ => (by decide +kernel : (zc_bd okX 37 0).1 ≤ (0 : Int32).toInt ∧ (0 : Int32).toInt ≤ (zc_bd okX 37 0).2.1 ∧ ((0 : Int32).toInt = (zc_bd okX 37 0).1 ∨ (zc_bd okX 37 0).2.2 ≤ (0 : Int32).toInt))
  have h1 : ∀ j, zs_ok (zc_bd okX 37 0) (zi_X5_11 j).toInt := zs_upd h0 (by decide +kernel)
  have h2 : ∀ j, zs_ok (zc_bd okX 37 0) (zi_X5_15 j).toInt := zs_upd h1 (by decide +kernel)
  have h3 : ∀ j, zs_ok (zc_bd okX 37 0) (zi_X5_19 j).toInt := zs_upd h2 (by decide +kernel)
  have h4 : ∀ j, zs_ok (zc_bd okX 37 0) (zi_X5_23 j).toInt := zs_upd h3 (by decide +kernel)
  exact h4
theorem zs_OX : zc_O okX σX0 := by
  intro k j
  by_cases h37 : k = 37
  · subst h37
    exact zs_fX37 j
  rw [zs_sX k h37]
  exact zs_bd (by decide) (by decide) zs_bX k j
theorem zs_sM (k : Nat) (h5 : k ≠ 5) (h6 : k ≠ 6) (h7 : k ≠ 7) (h24 : k ≠ 24) : σM0.1 k = zb_z := by
  match k with
  | 0 => rfl
  | 1 => rfl
  | 2 => rfl
  | 3 => rfl
  | 4 => rfl
  | 5 => exact absurd rfl h5
  | 6 => exact absurd rfl h6
  | 7 => exact absurd rfl h7
  | 8 => rfl
  | 9 => rfl
  | 10 => rfl
  | 11 => rfl
  | 12 => rfl
  | 13 => rfl
  | 14 => rfl
  | 15 => rfl
  | 16 => rfl
  | 17 => rfl
  | 18 => rfl
  | 19 => rfl
  | 20 => rfl
  | 21 => rfl
  | 22 => rfl
  | 23 => rfl
  | 24 => exact absurd rfl h24
  | 25 => rfl
  | 26 => rfl
  | k + 27 => rfl
theorem zs_bM : ∀ r ∈ okM, ∀ b ∈ r, b.1 ≤ 0 ∧ 0 ≤ b.2.1 ∧ (0 = b.1 ∨ b.2.2 ≤ 0) := by decide +kernel
theorem zs_fM5 : ∀ j, zs_ok (zc_bd okM 5 0) (zi_X9_69 j).toInt := by
  have h0 : ∀ j, zs_ok (zc_bd okM 5 0) (zb_z j).toInt := fun _ => (by decide +kernel : (zc_bd okM 5 0).1 ≤ (0 : Int32).toInt ∧ (0 : Int32).toInt ≤ (zc_bd okM 5 0).2.1 ∧ ((0 : Int32).toInt = (zc_bd okM 5 0).1 ∨ (zc_bd okM 5 0).2.2 ≤ (0 : Int32).toInt))
  have h1 : ∀ j, zs_ok (zc_bd okM 5 0) (zi_X9_45 j).toInt := zs_upd h0 (by decide +kernel)
  have h2 : ∀ j, zs_ok (zc_bd okM 5 0) (zi_X9_49 j).toInt := zs_upd h1 (by decide +kernel)
  have h3 : ∀ j, zs_ok (zc_bd okM 5 0) (zi_X9_54 j).toInt := zs_upd h2 (by decide +kernel)
  have h4 : ∀ j, zs_ok (zc_bd okM 5 0) (zi_X9_59 j).toInt := zs_upd h3 (by decide +kernel)
  have h5 : ∀ j, zs_ok (zc_bd okM 5 0) (zi_X9_64 j).toInt := zs_upd h4 (by decide +kernel)
  have h6 : ∀ j, zs_ok (zc_bd okM 5 0) (zi_X9_69 j).toInt := zs_upd h5 (by decide +kernel)
  exact h6
theorem zs_fM6 : ∀ j, zs_ok (zc_bd okM 6 0) (zi_X9_203 j).toInt := by
  have h0 : ∀ j, zs_ok (zc_bd okM 6 0) (zb_z j).toInt := fun _ => (by decide +kernel : (zc_bd okM 6 0).1 ≤ (0 : Int32).toInt ∧ (0 : Int32).toInt ≤ (zc_bd okM 6 0).2.1 ∧ ((0 : Int32).toInt = (zc_bd okM 6 0).1 ∨ (zc_bd okM 6 0).2.2 ≤ (0 : Int32).toInt))
  have h1 : ∀ j, zs_ok (zc_bd okM 6 0) (zi_X9_82 j).toInt := zs_upd h0 (by decide +kernel)
  have h2 : ∀ j, zs_ok (zc_bd okM 6 0) (zi_X9_87 j).toInt := zs_upd h1 (by decide +kernel)
  have h3 : ∀ j, zs_ok (zc_bd okM 6 0) (zi_X9_92 j).toInt := zs_upd h2 (by decide +kernel)
  have h4 : ∀ j, zs_ok (zc_bd okM 6 0) (zi_X9_97 j).toInt := zs_upd h3 (by decide +kernel)
  have h5 : ∀ j, zs_ok (zc_bd okM 6 0) (zi_X9_102 j).toInt := zs_upd h4 (by decide +kernel)
  have h6 : ∀ j, zs_ok (zc_bd okM 6 0) (zi_X9_107 j).toInt := zs_upd h5 (by decide +kernel)
  have h7 : ∀ j, zs_ok (zc_bd okM 6 0) (zi_X9_113 j).toInt := zs_upd h6 (by decide +kernel)
  have h8 : ∀ j, zs_ok (zc_bd okM 6 0) (zi_X9_119 j).toInt := zs_upd h7 (by decide +kernel)
  have h9 : ∀ j, zs_ok (zc_bd okM 6 0) (zi_X9_125 j).toInt := zs_upd h8 (by decide +kernel)
  have h10 : ∀ j, zs_ok (zc_bd okM 6 0) (zi_X9_131 j).toInt := zs_upd h9 (by decide +kernel)
  have h11 : ∀ j, zs_ok (zc_bd okM 6 0) (zi_X9_137 j).toInt := zs_upd h10 (by decide +kernel)
  have h12 : ∀ j, zs_ok (zc_bd okM 6 0) (zi_X9_143 j).toInt := zs_upd h11 (by decide +kernel)
  have h13 : ∀ j, zs_ok (zc_bd okM 6 0) (zi_X9_149 j).toInt := zs_upd h12 (by decide +kernel)
  have h14 : ∀ j, zs_ok (zc_bd okM 6 0) (zi_X9_155 j).toInt := zs_upd h13 (by decide +kernel)
  have h15 : ∀ j, zs_ok (zc_bd okM 6 0) (zi_X9_161 j).toInt := zs_upd h14 (by decide +kernel)
  have h16 : ∀ j, zs_ok (zc_bd okM 6 0) (zi_X9_167 j).toInt := zs_upd h15 (by decide +kernel)
  have h17 : ∀ j, zs_ok (zc_bd okM 6 0) (zi_X9_173 j).toInt := zs_upd h16 (by decide +kernel)
  have h18 : ∀ j, zs_ok (zc_bd okM 6 0) (zi_X9_179 j).toInt := zs_upd h17 (by decide +kernel)
  have h19 : ∀ j, zs_ok (zc_bd okM 6 0) (zi_X9_185 j).toInt := zs_upd h18 (by decide +kernel)
  have h20 : ∀ j, zs_ok (zc_bd okM 6 0) (zi_X9_191 j).toInt := zs_upd h19 (by decide +kernel)
  have h21 : ∀ j, zs_ok (zc_bd okM 6 0) (zi_X9_197 j).toInt := zs_upd h20 (by decide +kernel)
  have h22 : ∀ j, zs_ok (zc_bd okM 6 0) (zi_X9_203 j).toInt := zs_upd h21 (by decide +kernel)
  exact h22
theorem zs_fM7 : ∀ j, zs_ok (zc_bd okM 7 0) (zi_X9_235 j).toInt := by
  have h0 : ∀ j, zs_ok (zc_bd okM 7 0) (zb_z j).toInt := fun _ => (by decide +kernel : (zc_bd okM 7 0).1 ≤ (0 : Int32).toInt ∧ (0 : Int32).toInt ≤ (zc_bd okM 7 0).2.1 ∧ ((0 : Int32).toInt = (zc_bd okM 7 0).1 ∨ (zc_bd okM 7 0).2.2 ≤ (0 : Int32).toInt))
  have h1 : ∀ j, zs_ok (zc_bd okM 7 0) (zi_X9_215 j).toInt := zs_upd h0 (by decide +kernel)
  have h2 : ∀ j, zs_ok (zc_bd okM 7 0) (zi_X9_220 j).toInt := zs_upd h1 (by decide +kernel)
  have h3 : ∀ j, zs_ok (zc_bd okM 7 0) (zi_X9_225 j).toInt := zs_upd h2 (by decide +kernel)
  have h4 : ∀ j, zs_ok (zc_bd okM 7 0) (zi_X9_230 j).toInt := zs_upd h3 (by decide +kernel)
  have h5 : ∀ j, zs_ok (zc_bd okM 7 0) (zi_X9_235 j).toInt := zs_upd h4 (by decide +kernel)
  exact h5
theorem zs_fM24 : ∀ j, zs_ok (zc_bd okM 24 0) (zi_X9_390 j).toInt := by
  have h0 : ∀ j, zs_ok (zc_bd okM 24 0) (zb_z j).toInt := fun _ => (by decide +kernel : (zc_bd okM 24 0).1 ≤ (0 : Int32).toInt ∧ (0 : Int32).toInt ≤ (zc_bd okM 24 0).2.1 ∧ ((0 : Int32).toInt = (zc_bd okM 24 0).1 ∨ (zc_bd okM 24 0).2.2 ≤ (0 : Int32).toInt))
  have h1 : ∀ j, zs_ok (zc_bd okM 24 0) (zi_X9_375 j).toInt := zs_upd h0 (by decide +kernel)
  have h2 : ∀ j, zs_ok (zc_bd okM 24 0) (zi_X9_380 j).toInt := zs_upd h1 (by decide +kernel)
  have h3 : ∀ j, zs_ok (zc_bd okM 24 0) (zi_X9_385 j).toInt := zs_upd h2 (by decide +kernel)
  have h4 : ∀ j, zs_ok (zc_bd okM 24 0) (zi_X9_390 j).toInt := zs_upd h3 (by decide +kernel)
  exact h4
theorem zs_OM : zc_O okM σM0 := by
  intro k j
  by_cases h5 : k = 5
  · subst h5
    exact zs_fM5 j
  by_cases h6 : k = 6
  · subst h6
    exact zs_fM6 j
  by_cases h7 : k = 7
  · subst h7
    exact zs_fM7 j
  by_cases h24 : k = 24
  · subst h24
    exact zs_fM24 j
  rw [zs_sM k h5 h6 h7 h24]
  exact zs_bd (by decide) (by decide) zs_bM k j
theorem zs_sl : ∀ j : Nat, zl_R (σX0.1 37 j) (σM0.1 24 j) := zl_lu (zl_lu (zl_lu (zl_lu (fun _ => Or.inr ⟨(by decide : (0 : Int) ≤ (0 : Int32).toInt), rfl⟩) (by decide +kernel : (_ ∧ _) ∨ (_ ∧ _))) (by decide +kernel : (_ ∧ _) ∨ (_ ∧ _))) (by decide +kernel : (_ ∧ _) ∨ (_ ∧ _))) (by decide +kernel : (_ ∧ _) ∨ (_ ∧ _))
theorem zs_sc : zl_SC σX0 σM0 := fun k j hk hj => rfl
theorem zs_w : zl_W σX0 σM0 := ⟨⟨fun _ => Int.le_refl _, fun i hi => by
  have e : (σX0.1 1 1).toInt = 0 := by decide +kernel
  omega⟩, by decide +kernel, fun c on _ _ _ => rfl⟩
theorem zs_k : zw_K σM0 := ⟨by decide +kernel, by decide +kernel⟩
theorem zs_e : zl_E σX0 σM0 := ⟨(by decide +kernel : (σX0.1 3 0).toInt = (σM0.1 0 17).toInt), fun _ _ => ⟨rfl, rfl, rfl⟩⟩
theorem zs_nt : zl_N σX0 σM0 := ⟨by decide +kernel, fun i hi => by
  have e : (σX0.1 6 0).toInt = 0 := by decide +kernel
  omega, fun _ _ => (by decide : (0 : Int32).toInt = 0)⟩
theorem zs_v : zl_v σX0 σM0 := ⟨zs_OX, zs_OM, fun i h1 h2 => by
  have e : (σM0.1 0 17).toInt = 0 := by decide +kernel
  omega, by decide +kernel, by decide +kernel, fun _ => rfl, fun _ => rfl, zs_sl, fun _ => rfl, zs_sc, zs_w, fun _ _ => rfl, by decide +kernel, zs_e, zs_k, zs_nt⟩
