/-! the law: two worlds beside each other -/
def zl_A (s : State) : Nat → Prop := fun q => s.heap.size ≤ q
abbrev zl_K (K : zc_K) (a : Nat → Nat) : zc_K := (K.1, K.2.1, K.2.2.1, a, K.2.2.2.2)
abbrev zl_T : Type := (Nat → Nat) × (Nat → Nat) × Nat × Nat × (Nat → Int32)
abbrev zt_X (Z : zl_T) : Nat → Nat := Z.1
abbrev zt_M (Z : zl_T) : Nat → Nat := Z.2.1
abbrev zt_b (Z : zl_T) : Nat := Z.2.2.1
abbrev zt_L (Z : zl_T) : Nat := Z.2.2.2.1
abbrev zt_x (Z : zl_T) : Nat → Int32 := Z.2.2.2.2
def zl_I (K : zc_K) (G : zc_X) (Z : zl_T) (σX σM : zc_S) : Heap → List Loc → Prop := fun H locs =>
  va_P K.2.1 vwCl (zc_W shX K.2.2.1 (zt_X Z) σX) H ∧ va_P K.2.1 vwCl (zc_W shM K.2.2.1 (zt_M Z) σM) H ∧ va_S (zl_A (zg_s G)) (zg_s G).heap H locs
def zl_G (K : zc_K) (G : zc_X) (Z : zl_T) : Prop :=
  zc_B 4 RL cL_law G ∧ zg_R G = room_1 ∧ va_K K.2.1 vwCl (zc_ty K.2.2.1) (zg_s G) ∧ zc_Z (zl_A (zg_s G)) K.2.2.2.2 (zg_s G) ∧ va_X (zt_b Z) (zt_L Z) (zt_x Z) (zg_s G) (zg_s G).heap ∧ zt_b Z < (zg_s G).heap.size ∧ zt_L Z ≤ 4608 ∧ zg_k G = 600000 ∧ zg_n G = 7302250 ∧
  zc_inj shX (zt_X Z) ∧ zc_inj shM (zt_M Z) ∧ (∀ i j, i < shX.length → j < shM.length → zt_X Z i ≠ zt_M Z j) ∧ (∀ i, i < shX.length → (zg_s G).heap.size ≤ zt_X Z i) ∧ (∀ j, j < shM.length → (zg_s G).heap.size ≤ zt_M Z j)
theorem zc_Z.narrow {A B : Nat → Prop} {z : Nat → Nat} {U : State} (h : zc_Z A z U) (hAB : ∀ q, B q → A q) : zc_Z B z U := ⟨h.1, h.2.1.narrow hAB, h.2.2⟩
theorem zl_kept {sh sh' : List zc_H} {D : va_G} {c : Nat → ClassId} {a a' : Nat → Nat} {σ : zc_S} {H H1 : Heap} (hP : va_P D vwCl (zc_W sh' c a' σ) H) (hd : ∀ i j, i < sh.length → j < sh'.length → a i ≠ a' j) (hf : ∀ q : Nat, q < H.size → ¬ zc_A sh a q → H1[q]? = H[q]?) : va_P D vwCl (zc_W sh' c a' σ) H1 := by
  refine hP.kept (fun k q hk => hf q.1 (hP k q hk).lt ?_)
  rintro ⟨i, hi, e⟩
  obtain ⟨h, hh, rfl⟩ := zc_at' hk
  exact hd i k hi (List.getElem?_eq_some_iff.mp hh).1 e
section ZL
variable {K : zc_K} {G : zc_X} {Z : zl_T} {σX σM : zc_S} {lv : List (Nat × Value)} {pc : Nat} {st : List Value}
theorem zl_call {sh : List zc_H} {a : Nat → Nat} {σ : zc_S} (hG : zl_G K G Z) (hsub : ∀ i, i < sh.length → (zg_s G).heap.size ≤ a i) {idx n ci nL' : Nat} {y : MethodName} {cc' : ByteArray} {rt' : Option FieldType} {rm' : Room} {post' : Option Value → zc_S → Prop} {fl : List (Option Nat)} {As rest : List Value} {H : Heap} {locs : List Loc} {ls : Array Slot} (hd : decode cL_law pc = .ok (.invokevirtual idx, 3)) (hL : zc_Lv RL idx y cc' nL' rt' n) (hk : sh[0]? = some (.inl (ci, fl))) (hc : (vwCl[ci]?).map (fun q => q.1) = some y.cls)
    (hM : zc_M sh (zl_K K a) y cc' nL' rt' rm' σ (.ref (a 0) :: As) post') (hn : As.length = n) (hw : (rest.map fun v => v.category).sum ≤ 8) (hrm : zc_rm room_1 rm' nL') (hP : va_P K.2.1 vwCl (zc_W sh K.2.2.1 a σ) H) (hS : va_S (zl_A (zg_s G)) (zg_s G).heap H locs) (hl : lv_has ls 4 lv)
    (kk : ∀ r σ' H1 locs1, post' r σ' → va_P K.2.1 vwCl (zc_W sh K.2.2.1 a σ') H1 → (∀ q : Nat, q < H.size → ¬ zc_A sh a q → H1[q]? = H[q]?) → va_S (zl_A (zg_s G)) (zg_s G).heap H1 locs1 → W (zg_p G) K.1 (zg_e G) (zg_R G) (zg_s G) (zg_m G) (zg_a G) (zg_b G) (zg_M G) (zg_c G) H1 locs1 (zg_k G) (zg_n G) (zg_Q G) (F0 (zg_m G) (pc + 3) ls (r.toList ++ rest))) :
    W (zg_p G) K.1 (zg_e G) (zg_R G) (zg_s G) (zg_m G) (zg_a G) (zg_b G) (zg_M G) (zg_c G) H locs (zg_k G) (zg_n G) (zg_Q G) (F0 (zg_m G) pc ls (As.reverse ++ .ref (a 0) :: rest)) := by
  obtain ⟨⟨hcode, hini, hcl, hlink⟩, hin, hsel⟩ := hL
  obtain ⟨hB, hRm, hK, hZ, -, -, -, h0, h1, -⟩ := hG
  have hAs : ∀ q, zc_A sh a q → zl_A (zg_s G) q := by
    rintro q ⟨i, hi, rfl⟩
    exact hsub i hi
  have he : (zc_W sh K.2.2.1 a σ)[0]? = some (a 0, .inr (ci, fl.mapIdx (fun j f => match f with | some r => Value.ref (a r) | none => .int (σ.1 0 j)))) := zc_at hk
  obtain ⟨q, hq, hq2⟩ := Option.map_eq_some_iff.mp hc
  have hrecv : ∃ cellB : Cell, H[a 0]? = some cellB ∧ cellB.vm.isStatics = false ∧ (zg_s G).vm.findClass y.cls = some cellB.cls := by
    rw [← hq2]; exact va_recv hK hP hq he
  have hp : PreV (zg_s G) H y.cls (a 0) (zc_Pc sh (zl_K K a) σ (.ref (a 0) :: As)) As := ⟨zc_blind, hrecv, fun U hU hW => ⟨rfl, by rw [hU]; exact hP, va_K.moved hW.alike hK, (hZ.go hS hU hW).narrow hAs⟩⟩
  have hroom : rm'.frames + 1 ≤ (zg_R G).frames ∧ 8 + (nL' + 11) + rm'.locals ≤ (zg_R G).locals := by rw [hRm]; exact ⟨hrm.1, hrm.2.1⟩
  have hcs : zg_k G + 0 ≤ (zg_R G).cells ∧ zg_n G + 0 ≤ (zg_R G).slots := by rw [h0, h1, hRm]; exact ⟨Nat.le_refl _, Nat.le_refl _⟩
  have hS' : CallFix (zg_p G) (zg_m G) (zg_c G) cL_law 4 (zg_s G) (zg_a G) lw_good RL := ⟨hB.1, hB.2.1, hB.2.2.1, hB.2.2.2.1, hB.2.2.2.2⟩
  have hg : GoodIn lw_good (Cond.code y cc' nL' rt' :: lw_good) := zc_gin hcode
  rcases hlink with hw2 | ⟨host, hw2⟩
  · exact zc_call (K := zl_K K a) (va_runV (C := y.cls) (n := n) hS' hM ⟨callB_of n hB.2.2.2.2 hg rfl hrm.2.2.1 hrm.2.2.2 (hB.2.2.2.2 _ hini) (hB.2.2.2.2 _ hw2) hcl hroom, hB.2.2.2.2 _ hin, hB.2.2.2.2 _ hsel⟩ hp rfl hn hl.1 rfl (lv_room hw) hd hcs) hS hAs hAs kk
  · exact zc_call (K := zl_K K a) (va_runVN (C := y.cls) (n := n) (host := host) hS' hM ⟨va_cnB n hB.2.2.2.2 hg rfl hrm.2.2.1 hrm.2.2.2 (hZ.1 _ hw2) (hB.2.2.2.2 _ hini) hcl hroom, hB.2.2.2.2 _ hin, hB.2.2.2.2 _ hsel⟩ hp rfl hn hl.1 rfl (lv_room hw) hd hcs) hS hAs hAs kk
theorem zl_callX (hG : zl_G K G Z) {idx n nL' : Nat} {y : MethodName} {cc' : ByteArray} {rt' : Option FieldType} {rm' : Room} {P : Int32 → zc_S → Prop} {As rest : List Value} (hd : decode cL_law pc = .ok (.invokevirtual idx, 3)) (hL : zc_Lv RL idx y cc' nL' rt' n) (hc : y.cls = RX8)
    (hM : zc_M shX (zl_K K (zt_X Z)) y cc' nL' rt' rm' σX (.ref (zt_X Z 0) :: As) (zc_I P)) (hn : As.length = n) (hst : st = As.reverse ++ .ref (zt_X Z 0) :: rest) (hw : (rest.map fun v => v.category).sum ≤ 8) (hrm : zc_rm room_1 rm' nL') (kk : ∀ r σ', P r σ' → zc_V 4 K G (zl_I K G Z σ' σM) lv (pc + 3) (.int r :: rest)) : zc_V 4 K G (zl_I K G Z σX σM) lv pc st := by
  subst hst
  intro H locs ls hI hl
  refine zl_call hG hG.2.2.2.2.2.2.2.2.2.2.2.2.1 hd hL rfl (by rw [hc]; rfl) hM hn hw hrm hI.1 hI.2.2 hl (fun r σ' H1 locs1 hp hP hf hS => ?_)
  obtain ⟨z, rfl, hp⟩ := hp
  exact kk z σ' hp H1 locs1 ls ⟨hP, zl_kept hI.2.1 hG.2.2.2.2.2.2.2.2.2.2.2.1 hf, hS⟩ hl
theorem zl_callM (hG : zl_G K G Z) {idx n nL' : Nat} {y : MethodName} {cc' : ByteArray} {rt' : Option FieldType} {rm' : Room} {P : Int32 → zc_S → Prop} {As rest : List Value} (hd : decode cL_law pc = .ok (.invokevirtual idx, 3)) (hL : zc_Lv RL idx y cc' nL' rt' n) (hc : y.cls = RX9)
    (hM : zc_M shM (zl_K K (zt_M Z)) y cc' nL' rt' rm' σM (.ref (zt_M Z 0) :: As) (zc_I P)) (hn : As.length = n) (hst : st = As.reverse ++ .ref (zt_M Z 0) :: rest) (hw : (rest.map fun v => v.category).sum ≤ 8) (hrm : zc_rm room_1 rm' nL') (kk : ∀ r σ', P r σ' → zc_V 4 K G (zl_I K G Z σX σ') lv (pc + 3) (.int r :: rest)) : zc_V 4 K G (zl_I K G Z σX σM) lv pc st := by
  subst hst
  intro H locs ls hI hl
  refine zl_call hG hG.2.2.2.2.2.2.2.2.2.2.2.2.2 hd hL rfl (by rw [hc]; rfl) hM hn hw hrm hI.2.1 hI.2.2 hl (fun r σ' H1 locs1 hp hP hf hS => ?_)
  obtain ⟨z, rfl, hp⟩ := hp
  exact kk z σ' hp H1 locs1 ls ⟨zl_kept hI.1 (fun i j h1 h2 e => hG.2.2.2.2.2.2.2.2.2.2.2.1 j i h2 h1 e.symm) hf, hP, hS⟩ hl
theorem zl_sld (hG : zl_G K G Z) {i : Int32} (k : Nat) (hd : decode cL_law pc = .ok (.iaload, 1)) (hk : i.toInt = (k : Int)) (hL : k < zt_L Z) (kk : zc_V 4 K G (zl_I K G Z σX σM) lv (pc + 1) (.int (zt_x Z k) :: st)) : zc_V 4 K G (zl_I K G Z σX σM) lv pc (.int i :: .ref (zt_b Z) :: st) := by
  intro H locs ls hI hl
  have e : i.toNatClampNeg = k := by rw [← Int32.toNat_toInt, hk]; rfl
  refine va_sld hG.1.1 hG.1.2.1 hG.2.2.2.2.1 hG.2.2.2.2.2.1 (Nat.not_le.mpr hG.2.2.2.2.2.1) hI.2.2 (zn_in (by omega) (by omega)) hd ?_
  rw [e]
  exact kk H locs ls hI hl
theorem zl_slen (hG : zl_G K G Z) (hd : decode cL_law pc = .ok (.arraylength, 1)) (kk : ∀ z : Int32, z.toInt = (zt_L Z : Int) → zc_V 4 K G (zl_I K G Z σX σM) lv (pc + 1) (.int z :: st)) : zc_V 4 K G (zl_I K G Z σX σM) lv pc (.ref (zt_b Z) :: st) := by
  intro H locs ls hI hl
  have h2 := hG.2.2.2.2.2.2.1
  exact va_slen hG.1.1 hG.1.2.1 hG.2.2.2.2.1 hG.2.2.2.2.2.1 (Nat.not_le.mpr hG.2.2.2.2.2.1) hI.2.2 hd (kk _ (by rw [Int32.toInt_ofNat_of_lt (by omega)]) H locs ls hI hl)
end ZL
/-! rows of one world beside rows of the other -/
theorem zl_fu {σ τ : zc_S} {k k' n : Nat} {v w : Int32} (h : ∀ j : Nat, (σ.1 k j).toInt = (τ.1 k' j).toInt) (e : v.toInt = w.toInt) : ∀ j : Nat, ((zc_u σ k n v).1 k j).toInt = ((zc_u τ k' n w).1 k' j).toInt := by
  intro j
  rw [zc_u_at, zc_u_at]
  unfold upd
  split
  · exact e
  · exact h j
theorem zl_fn {σ τ : zc_S} {k k' a b n : Nat} {v w : Int32} (h : ∀ j : Nat, (σ.1 k j).toInt = (τ.1 k' j).toInt) (e1 : k ≠ a) (e2 : k' ≠ b) : ∀ j : Nat, ((zc_u σ a n v).1 k j).toInt = ((zc_u τ b n w).1 k' j).toInt := by
  intro j
  rw [zc_u_ne _ _ _ _ e1, zc_u_ne _ _ _ _ e2]
  exact h j
def zl_R (x y : Int32) : Prop := (x.toInt = -1 ∧ y.toInt = -4) ∨ (0 ≤ x.toInt ∧ y.toInt = x.toInt)
theorem zl_R.of {x y : Int32} (h : zl_R x y) : (x.toInt = -1 ∧ y.toInt = -4) ∨ (0 ≤ x.toInt ∧ y.toInt = x.toInt) := h
theorem zl_lu {f g : Nat → Int32} {n : Nat} {v w : Int32} (h : ∀ j, zl_R (f j) (g j)) (e : zl_R v w) : ∀ j, zl_R (upd f n v j) (upd g n w j) := by
  intro j
  unfold upd
  split
  · exact e
  · exact h j
theorem zl_lue {f g : Nat → Int32} {n : Nat} {v w : Int32} (h : ∀ j, (f j).toInt = (g j).toInt) (e : v.toInt = w.toInt) : ∀ j, (upd f n v j).toInt = (upd g n w j).toInt := by
  intro j
  unfold upd
  split
  · exact e
  · exact h j
