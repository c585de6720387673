/-! the law: two worlds beside each other -/
def zl_A (s : State) : Nat → Prop := fun q => s.heap.size ≤ q
abbrev zl_K (K : zc_K) (a : Nat → Nat) : zc_K := (K.1, K.2.1, K.2.2.1, a, K.2.2.2.2)
abbrev zl_T : Type := (Nat → Nat) × (Nat → Nat) × Nat × Nat × (Nat → Int32)
abbrev zt_X (Z : zl_T) : Nat → Nat := Z.1
abbrev zt_M (Z : zl_T) : Nat → Nat := Z.2.1
abbrev zt_b (Z : zl_T) : Nat := Z.2.2.1
abbrev zt_L (Z : zl_T) : Nat := Z.2.2.2.1
abbrev zt_x (Z : zl_T) : Nat → Int32 := Z.2.2.2.2
def zl_I (K : zc_K) (G : zc_X) (Z : zl_T) (σX σM : zc_S) : Heap → List Loc → Prop := fun H locs =>
  va_P K.2.1 vwCl (zc_W shX K.2.2.1 (zt_X Z) σX) H ∧ va_P K.2.1 vwCl (zc_W shM K.2.2.1 (zt_M Z) σM) H ∧ va_S (zl_A (zg_s G)) (zg_s G).heap H locs
def zl_G (K : zc_K) (G : zc_X) (Z : zl_T) : Prop :=
  zc_B 4 RL cL_law G ∧ zg_R G = room_1 ∧ va_K K.2.1 vwCl (zc_ty K.2.2.1) (zg_s G) ∧ zc_Z (zl_A (zg_s G)) K.2.2.2.2 (zg_s G) ∧ va_X (zt_b Z) (zt_L Z) (zt_x Z) (zg_s G) (zg_s G).heap ∧ zt_b Z < (zg_s G).heap.size ∧ zt_L Z ≤ 4608 ∧ zg_k G = 600000 ∧ zg_n G = 7302250 ∧
  zc_inj shX (zt_X Z) ∧ zc_inj shM (zt_M Z) ∧ (∀ i j, i < shX.length → j < shM.length → zt_X Z i ≠ zt_M Z j) ∧ (∀ i, i < shX.length → (zg_s G).heap.size ≤ zt_X Z i) ∧ (∀ j, j < shM.length → (zg_s G).heap.size ≤ zt_M Z j)
theorem zc_Z.narrow {A B : Nat → Prop} {z : Nat → Nat} {U : State} (h : zc_Z A z U) (hAB : ∀ q, B q → A q) : zc_Z B z U := ⟨h.1, h.2.1.narrow hAB, h.2.2⟩
theorem zl_kept {sh sh' : List zc_H} {D : va_G} {c : Nat → ClassId} {a a' : Nat → Nat} {σ : zc_S} {H H1 : Heap} (hP : va_P D vwCl (zc_W sh' c a' σ) H) (hd : ∀ i j, i < sh.length → j < sh'.length → a i ≠ a' j) (hf : ∀ q : Nat, q < H.size → ¬ zc_A sh a q → H1[q]? = H[q]?) : va_P D vwCl (zc_W sh' c a' σ) H1 := by
  refine hP.kept (fun k q hk => hf q.1 (hP k q hk).lt ?_)
  rintro ⟨i, hi, e⟩
  obtain ⟨h, hh, rfl⟩ := zc_at' hk
  exact hd i k hi (List.getElem?_eq_some_iff.mp hh).1 e
section ZL
variable {K : zc_K} {G : zc_X} {Z : zl_T} {σX σM : zc_S} {lv : List (Nat × Value)} {pc : Nat} {st : List Value}
theorem zl_call {sh : List zc_H} {a : Nat → Nat} {σ : zc_S} (hG : zl_G K G Z) (hsub : ∀ i, i < sh.length → (zg_s G).heap.size ≤ a i) {idx n ci nL' : Nat} {y : MethodName} {cc' : ByteArray} {rt' : Option FieldType} {rm' : Room} {post' : Option Value → zc_S → Prop} {fl : List (Option Nat)} {As rest : List Value} {H : Heap} {locs : List Loc} {ls : Array Slot} (hd : decode cL_law pc = .ok (.invokevirtual idx, 3)) (hL : zc_Lv RL idx y cc' nL' rt' n) (hk : sh[0]? = some (.inl (ci, fl))) (hc : (vwCl[ci]?).map (fun q => q.1) = some y.cls)
    (hM : zc_M sh (zl_K K a) y cc' nL' rt' rm' σ (.ref (a 0) :: As) post') (hn : As.length = n) (hw : (rest.map fun v => v.category).sum ≤ 8) (hrm : zc_rm room_1 rm' nL') (hP : va_P K.2.1 vwCl (zc_W sh K.2.2.1 a σ) H) (hS : va_S (zl_A (zg_s G)) (zg_s G).heap H locs) (hl : lv_has ls 4 lv)
    (kk : ∀ r σ' H1 locs1, post' r σ' → va_P K.2.1 vwCl (zc_W sh K.2.2.1 a σ') H1 → (∀ q : Nat, q < H.size → ¬ zc_A sh a q → H1[q]? = H[q]?) → va_S (zl_A (zg_s G)) (zg_s G).heap H1 locs1 → W (zg_p G) K.1 (zg_e G) (zg_R G) (zg_s G) (zg_m G) (zg_a G) (zg_b G) (zg_M G) (zg_c G) H1 locs1 (zg_k G) (zg_n G) (zg_Q G) (F0 (zg_m G) (pc + 3) ls (r.toList ++ rest))) :
    W (zg_p G) K.1 (zg_e G) (zg_R G) (zg_s G) (zg_m G) (zg_a G) (zg_b G) (zg_M G) (zg_c G) H locs (zg_k G) (zg_n G) (zg_Q G) (F0 (zg_m G) pc ls (As.reverse ++ .ref (a 0) :: rest)) := by
  obtain ⟨⟨hcode, hini, hcl, hlink⟩, hin, hsel⟩ := hL
  obtain ⟨hB, hRm, hK, hZ, -, -, -, h0, h1, -⟩ := hG
  have hAs : ∀ q, zc_A sh a q → zl_A (zg_s G) q := by
    rintro q ⟨i, hi, rfl⟩
    exact hsub i hi
  have he : (zc_W sh K.2.2.1 a σ)[0]? = some (a 0, .inr (ci, fl.mapIdx (fun j f => match f with | some r => Value.ref (a r) | none => .int (σ.1 0 j)))) := zc_at hk
  obtain ⟨q, hq, hq2⟩ := Option.map_eq_some_iff.mp hc
  have hrecv : ∃ cellB : Cell, H[a 0]? = some cellB ∧ cellB.vm.isStatics = false ∧ (zg_s G).vm.findClass y.cls = some cellB.cls := by
    rw [← hq2]; exact va_recv hK hP hq he
  have hp : PreV (zg_s G) H y.cls (a 0) (zc_Pc sh (zl_K K a) σ (.ref (a 0) :: As)) As := ⟨zc_blind, hrecv, fun U hU hW => ⟨rfl, by rw [hU]; exact hP, va_K.moved hW.alike hK, (hZ.go hS hU hW).narrow hAs⟩⟩
  have hroom : rm'.frames + 1 ≤ (zg_R G).frames ∧ 8 + (nL' + 11) + rm'.locals ≤ (zg_R G).locals := by rw [hRm]; exact ⟨hrm.1, hrm.2.1⟩
  have hcs : zg_k G + 0 ≤ (zg_R G).cells ∧ zg_n G + 0 ≤ (zg_R G).slots := by rw [h0, h1, hRm]; exact ⟨Nat.le_refl _, Nat.le_refl _⟩
  have hS' : CallFix (zg_p G) (zg_m G) (zg_c G) cL_law 4 (zg_s G) (zg_a G) lw_good RL := ⟨hB.1, hB.2.1, hB.2.2.1, hB.2.2.2.1, hB.2.2.2.2⟩
  have hg : GoodIn lw_good (Cond.code y cc' nL' rt' :: lw_good) := zc_gin hcode
  rcases hlink with hw2 | ⟨host, hw2⟩
  · exact zc_call (K := zl_K K a) (va_runV (C := y.cls) (n := n) hS' hM ⟨callB_of n hB.2.2.2.2 hg rfl hrm.2.2.1 hrm.2.2.2 (hB.2.2.2.2 _ hini) (hB.2.2.2.2 _ hw2) hcl hroom, hB.2.2.2.2 _ hin, hB.2.2.2.2 _ hsel⟩ hp rfl hn hl.1 rfl (lv_room hw) hd hcs) hS hAs hAs kk
  · exact zc_call (K := zl_K K a) (va_runVN (C := y.cls) (n := n) (host := host) hS' hM ⟨va_cnB n hB.2.2.2.2 hg rfl hrm.2.2.1 hrm.2.2.2 (hZ.1 _ hw2) (hB.2.2.2.2 _ hini) hcl hroom, hB.2.2.2.2 _ hin, hB.2.2.2.2 _ hsel⟩ hp rfl hn hl.1 rfl (lv_room hw) hd hcs) hS hAs hAs kk
theorem zl_callX (hG : zl_G K G Z) {idx n nL' : Nat} {y : MethodName} {cc' : ByteArray} {rt' : Option FieldType} {rm' : Room} {P : Int32 → zc_S → Prop} {As rest : List Value} (hd : decode cL_law pc = .ok (.invokevirtual idx, 3)) (hL : zc_Lv RL idx y cc' nL' rt' n) (hc : y.cls = RX8)
    (hM : zc_M shX (zl_K K (zt_X Z)) y cc' nL' rt' rm' σX (.ref (zt_X Z 0) :: As) (zc_I P)) (hn : As.length = n) (hst : st = As.reverse ++ .ref (zt_X Z 0) :: rest) (hw : (rest.map fun v => v.category).sum ≤ 8) (hrm : zc_rm room_1 rm' nL') (kk : ∀ r σ', P r σ' → zc_V 4 K G (zl_I K G Z σ' σM) lv (pc + 3) (.int r :: rest)) : zc_V 4 K G (zl_I K G Z σX σM) lv pc st := by
  subst hst
  intro H locs ls hI hl
  refine zl_call hG hG.2.2.2.2.2.2.2.2.2.2.2.2.1 hd hL rfl (by rw [hc]; rfl) hM hn hw hrm hI.1 hI.2.2 hl (fun r σ' H1 locs1 hp hP hf hS => ?_)
  obtain ⟨z, rfl, hp⟩ := hp
  exact kk z σ' hp H1 locs1 ls ⟨hP, zl_kept hI.2.1 hG.2.2.2.2.2.2.2.2.2.2.2.1 hf, hS⟩ hl
theorem zl_callM (hG : zl_G K G Z) {idx n nL' : Nat} {y : MethodName} {cc' : ByteArray} {rt' : Option FieldType} {rm' : Room} {P : Int32 → zc_S → Prop} {As rest : List Value} (hd : decode cL_law pc = .ok (.invokevirtual idx, 3)) (hL : zc_Lv RL idx y cc' nL' rt' n) (hc : y.cls = RX9)
    (hM : zc_M shM (zl_K K (zt_M Z)) y cc' nL' rt' rm' σM (.ref (zt_M Z 0) :: As) (zc_I P)) (hn : As.length = n) (hst : st = As.reverse ++ .ref (zt_M Z 0) :: rest) (hw : (rest.map fun v => v.category).sum ≤ 8) (hrm : zc_rm room_1 rm' nL') (kk : ∀ r σ', P r σ' → zc_V 4 K G (zl_I K G Z σX σ') lv (pc + 3) (.int r :: rest)) : zc_V 4 K G (zl_I K G Z σX σM) lv pc st := by
  subst hst
  intro H locs ls hI hl
  refine zl_call hG hG.2.2.2.2.2.2.2.2.2.2.2.2.2 hd hL rfl (by rw [hc]; rfl) hM hn hw hrm hI.2.1 hI.2.2 hl (fun r σ' H1 locs1 hp hP hf hS => ?_)
  obtain ⟨z, rfl, hp⟩ := hp
  exact kk z σ' hp H1 locs1 ls ⟨zl_kept hI.1 (fun i j h1 h2 e => hG.2.2.2.2.2.2.2.2.2.2.2.1 j i h2 h1 e.symm) hf, hP, hS⟩ hl
theorem zl_sld (hG : zl_G K G Z) {i : Int32} (k : Nat) (hd : decode cL_law pc = .ok (.iaload, 1)) (hk : i.toInt = (k : Int)) (hL : k < zt_L Z) (kk : zc_V 4 K G (zl_I K G Z σX σM) lv (pc + 1) (.int (zt_x Z k) :: st)) : zc_V 4 K G (zl_I K G Z σX σM) lv pc (.int i :: .ref (zt_b Z) :: st) := by
  intro H locs ls hI hl
  have e : i.toNatClampNeg = k := by rw [← Int32.toNat_toInt, hk]; rfl
  refine va_sld hG.1.1 hG.1.2.1 hG.2.2.2.2.1 hG.2.2.2.2.2.1 (Nat.not_le.mpr hG.2.2.2.2.2.1) hI.2.2 (zn_in (by omega) (by omega)) hd ?_
  rw [e]
  exact kk H locs ls hI hl
theorem zl_slen (hG : zl_G K G Z) (hd : decode cL_law pc = .ok (.arraylength, 1)) (kk : ∀ z : Int32, z.toInt = (zt_L Z : Int) → zc_V 4 K G (zl_I K G Z σX σM) lv (pc + 1) (.int z :: st)) : zc_V 4 K G (zl_I K G Z σX σM) lv pc (.ref (zt_b Z) :: st) := by
  intro H locs ls hI hl
  have h2 := hG.2.2.2.2.2.2.1
  exact va_slen hG.1.1 hG.1.2.1 hG.2.2.2.2.1 hG.2.2.2.2.2.1 (Nat.not_le.mpr hG.2.2.2.2.2.1) hI.2.2 hd (kk _ (by rw [Int32.toInt_ofNat_of_lt (by omega)]) H locs ls hI hl)
end ZL
/-! rows of one world beside rows of the other -/
theorem zl_fu {σ τ : zc_S} {k k' n : Nat} {v w : Int32} (h : ∀ j : Nat, (σ.1 k j).toInt = (τ.1 k' j).toInt) (e : v.toInt = w.toInt) : ∀ j : Nat, ((zc_u σ k n v).1 k j).toInt = ((zc_u τ k' n w).1 k' j).toInt := by
  intro j
  rw [zc_u_at, zc_u_at]
  unfold upd
  split
  · exact e
  · exact h j
theorem zl_fn {σ τ : zc_S} {k k' a b n : Nat} {v w : Int32} (h : ∀ j : Nat, (σ.1 k j).toInt = (τ.1 k' j).toInt) (e1 : k ≠ a) (e2 : k' ≠ b) : ∀ j : Nat, ((zc_u σ a n v).1 k j).toInt = ((zc_u τ b n w).1 k' j).toInt := by
  intro j
  rw [zc_u_ne _ _ _ _ e1, zc_u_ne _ _ _ _ e2]
  exact h j
def zl_R (x y : Int32) : Prop := (x.toInt = -1 ∧ y.toInt = -4) ∨ (0 ≤ x.toInt ∧ y.toInt = x.toInt)
theorem zl_R.of {x y : Int32} (h : zl_R x y) : (x.toInt = -1 ∧ y.toInt = -4) ∨ (0 ≤ x.toInt ∧ y.toInt = x.toInt) := h
theorem zl_lu {f g : Nat → Int32} {n : Nat} {v w : Int32} (h : ∀ j, zl_R (f j) (g j)) (e : zl_R v w) : ∀ j, zl_R (upd f n v j) (upd g n w j) := by
  intro j
  unfold upd
  split
  · exact e
  · exact h j
theorem zl_lue {f g : Nat → Int32} {n : Nat} {v w : Int32} (h : ∀ j, (f j).toInt = (g j).toInt) (e : v.toInt = w.toInt) : ∀ j, (upd f n v j).toInt = (upd g n w j).toInt := by
  intro j
  unfold upd
  split
  · exact e
  · exact h j
/-! the rows of both worlds beside each other -/
def zl_W (σX σM : zc_S) : Prop := zx_C σX ∧ (σX.1 1 1).toInt = (σM.1 0 2).toInt ∧ ∀ (c : Nat) (on : Int), c < 256 → 0 ≤ on → on < 64 → zx_A σX c on = zy_A σM c on
theorem zl_W.x {M : zc_ms} {σX τX σM : zc_S} (h : zl_W σX σM) (ha : zc_Ag M σX τX) (h1 : zc_im M 1 1 = false) (h2 : ∀ j, zc_im M 11 j = false) (h3 : ∀ j, zc_im M 12 j = false) (h4 : ∀ j, zc_im M 13 j = false) (h5 : ∀ j, zc_im M 14 j = false) : zl_W τX σM :=
  ⟨h.1.ag ha h1 h2 h3, by rw [(ha 1 1 h1).1]; exact h.2.1, fun c on a b d => by rw [zx_A.ag ha h1 h2 h3 h4 h5]; exact h.2.2 c on a b d⟩
theorem zl_W.m {M : zc_ms} {σX σM τM : zc_S} (h : zl_W σX σM) (ha : zc_Ag M σM τM) (h1 : ∀ j, zc_im M 1 j = false) (h2 : zc_im M 0 2 = false) : zl_W σX τM :=
  ⟨h.1, by rw [(ha 0 2 h2).1]; exact h.2.1, fun c on a b d => by rw [zy_A.ag ha h1]; exact h.2.2 c on a b d⟩
theorem zl_fig {σX σM τX τM : zc_S} {a1 a2 v w : Int} (h : zl_W σX σM) (hn : (σX.1 1 0).toInt = (σM.1 0 1).toInt) (hX : zx_C σX → zx_T σX τX (a1 * 64 + a2).toNat v) (hM : zy_T σM τM (64 * a1 + a2).toNat w) (hv : (if w + 1 ≤ 0 then -4 else w) = v) : zl_W τX τM := by
  have hX := hX h.1
  rw [show (64 * a1 + a2).toNat = (a1 * 64 + a2).toNat by omega] at hM
  refine ⟨hX.2.1, by rw [hX.1, hM.1, h.2.1], fun c on g1 g2 g3 => ?_⟩
  rw [hX.2.2, zy_At hM g1 g2 g3, hv, hn, h.2.2 c on g1 g2 g3]
theorem zl_use {σX σM : zc_S} (h : zl_W σX σM) (a1 a2 : Int) {on on' : Int} (e : on = on') : ¬ (0 ≤ a1 ∧ a1 ≤ 3 ∧ 0 ≤ a2 ∧ a2 ≤ 63 ∧ 0 ≤ on ∧ on ≤ 63) ∨ ((σM.1 1 (256 * on' + 64 * a1 + a2).toNat).toInt ≤ 0 ∧ zx_A σX (a1 * 64 + a2).toNat on = -4) ∨ (0 < (σM.1 1 (256 * on' + 64 * a1 + a2).toNat).toInt ∧ zx_A σX (a1 * 64 + a2).toNat on = (σM.1 1 (256 * on' + 64 * a1 + a2).toNat).toInt - 1) := by
  subst e
  by_cases hv : 0 ≤ a1 ∧ a1 ≤ 3 ∧ 0 ≤ a2 ∧ a2 ≤ 63 ∧ 0 ≤ on ∧ on ≤ 63
  · right
    have q := h.2.2 (a1 * 64 + a2).toNat on (by omega) (by omega) (by omega)
    unfold zy_A at q
    rw [show 256 * on.toNat + (a1 * 64 + a2).toNat = (256 * on + 64 * a1 + a2).toNat by omega] at q
    split at q
    · rename_i g
      exact Or.inl ⟨g, q⟩
    · rename_i g
      exact Or.inr ⟨by omega, q⟩
  · exact Or.inl hv
def zl_SC (σX σM : zc_S) : Prop := ∀ k j : Nat, k < 4 → (j : Int) < (σX.1 38 k).toInt → (σX.1 39 (64 * k + j)).toInt = (σM.1 26 (64 * k + j)).toInt
theorem zl_SC.x {M : zc_ms} {σX τX σM : zc_S} (h : zl_SC σX σM) (ha : zc_Ag M σX τX) (h1 : ∀ j, zc_im M 38 j = false) (h2 : ∀ j, zc_im M 39 j = false) : zl_SC τX σM := by
  intro k j hk hj
  rw [(ha 38 k (h1 k)).1] at hj
  rw [(ha 39 _ (h2 _)).1]
  exact h k j hk hj
theorem zl_SC.m {M : zc_ms} {σX σM τM : zc_S} (h : zl_SC σX σM) (ha : zc_Ag M σM τM) (h1 : ∀ j, zc_im M 26 j = false) : zl_SC σX τM := by
  intro k j hk hj
  rw [(ha 26 _ (h1 _)).1]
  exact h k j hk hj
theorem zl_SCs {σX σM τX τM : zc_S} (h : zl_SC σX σM) (e1 : τX.1 38 = σX.1 38) (e2 : τX.1 39 = σX.1 39) (e3 : τM.1 26 = σM.1 26) : zl_SC τX τM := by
  intro k j hk hj
  rw [e1] at hj
  rw [e2, e3]
  exact h k j hk hj
theorem zl_SCn {σX σM τX τM : zc_S} {a : Int} {v : Int32} (h : zl_SC σX σM) (hb : ∀ k, (σX.1 38 k).toInt ≤ 64) (ha : 0 ≤ a) (hv : v.toInt ≤ 64) (e1 : τX.1 38 = upd (σX.1 38) a.toNat v) (e2 : zv_Z σX τX 39 (64 * a) v.toInt) (e3 : zv_Z σM τM 26 (64 * a) 64) : zl_SC τX τM := by
  intro k j hk hj
  rw [e2, e3]
  rw [e1] at hj
  unfold upd at hj
  by_cases e : k = a.toNat
  · rw [if_pos e] at hj
    rw [if_pos (by omega), if_pos (by omega)]
  · rw [if_neg e] at hj
    have q := hb k
    rw [if_neg (by omega), if_neg (by omega)]
    exact h k j hk hj
theorem zl_SCl {σX σM : zc_S} {n n' : Nat} {v w : Int32} (h : zl_SC σX σM) (hn : n = n') (e : v.toInt = w.toInt) : zl_SC (zc_u σX 39 n v) (zc_u σM 26 n' w) := by
  subst hn
  intro k j hk hj
  rw [zc_u_ne _ _ _ _ (by decide)] at hj
  rw [zc_u_at, zc_u_at]
  unfold upd
  split
  · exact e
  · exact h k j hk hj
theorem zl_read {σX σM τX τM : zc_S} {a1 a2 a3 a4 a5 a6 : Int} {VX VM : Prop} (h : zl_W σX σM) (hn : (σX.1 1 0).toInt = (σM.1 0 1).toInt) (h0 : 0 ≤ (σX.1 1 0).toInt) (h1 : (σX.1 1 0).toInt ≤ 63) (hSL : ∀ j : Nat, zl_R (σX.1 37 j) (σM.1 24 j)) (hSN : ∀ j : Nat, (σX.1 38 j).toInt = (σM.1 25 j).toInt) (hSC : zl_SC σX σM)
    (gX : (¬ VX ∧ τX = σX) ∨ (VX ∧ zq_E (zx_fl σX a3 a4 a5) (zx_cl σX a3 a5) (zq_cn (σX.1 1 0).toInt (a1 * 64 + a2).toNat (zx_cl σX a3 a5) (zx_A σX)) (σX.1 1 1).toInt a6.toNat (τX = σX) (fun R9 => zx_R σX τX (a1 * 64 + a2).toNat (zx_cl σX a3 a5) R9)))
    (gM : (¬ VM ∧ τM = σM) ∨ (VM ∧ zq_E (zy_fl σM a3 a4 a5) (zy_cl σM a3 a5) (zq_cn (σM.1 0 1).toInt (a1 * 64 + a2).toNat (zy_cl σM a3 a5) (zy_A σM)) (σM.1 0 2).toInt a6.toNat (τM = σM) (fun R9 => zy_R σM τM (a1 * 64 + a2).toNat (zy_cl σM a3 a5) R9)))
    (hV : VX → 0 ≤ a1 ∧ a1 ≤ 3 ∧ 0 ≤ a2 ∧ a2 ≤ 63 ∧ 0 ≤ a3 ∧ a3 ≤ 3 ∧ 0 ≤ a4 ∧ (a6 ≤ 0 ∨ a2 + a6 - 1 ≤ 63)) (hVM : VM → VX) (hV0 : VX → ¬ VM → a6 ≤ 0) : zl_W τX τM := by
  rcases gX with ⟨x1, rfl⟩ | ⟨x1, x2⟩
  · rcases gM with ⟨y1, rfl⟩ | ⟨y1, _⟩
    · exact h
    · exact absurd (hVM y1) x1
  · obtain ⟨v1, v2, v3, v4, v5, v6, v7, v8⟩ := hV x1
    rcases gM with ⟨y1, rfl⟩ | ⟨y1, y2⟩
    · have hz := hV0 x1 y1
      obtain ⟨R, r1, _, r3⟩ := x2
      obtain rfl : R = 0 := by omega
      rcases r3 with ⟨_, t⟩ | ⟨l, _⟩
      · refine ⟨t.1, ?_, fun c on g1 g2 g3 => ?_⟩
        · rw [t.2.2, ← h.2.1]; exact Int.add_zero _
        · rw [t.2.1]; exact h.2.2 c on g1 g2 g3
      · omega
    · have hf : ∀ i, zx_fl σX a3 a4 a5 i ↔ zy_fl σM a3 a4 a5 i := by
        intro i
        have q := (hSL a3.toNat).of
        have p := hSN a3.toNat
        unfold zx_fl zy_fl
        omega
      have hc : ∀ i, ¬ zx_fl σX a3 a4 a5 i → zx_cl σX a3 a5 i = zy_cl σM a3 a5 i := by
        intro i hi
        unfold zx_fl at hi
        have q := hSC a3.toNat (a5 + i).toNat (by omega) (by omega)
        unfold zx_cl zy_cl
        rw [show (a3 * 64 + a5 + i).toNat = 64 * a3.toNat + (a5 + i).toNat by omega, show (64 * a3 + a5 + i).toNat = 64 * a3.toNat + (a5 + i).toNat by omega]
        exact q
      have hq : ∀ R, (∀ i, i < R → zx_cl σX a3 a5 i = zy_cl σM a3 a5 i) → R ≤ a6.toNat → zq_cn (σX.1 1 0).toInt (a1 * 64 + a2).toNat (zx_cl σX a3 a5) (zx_A σX) R = zq_cn (σM.1 0 1).toInt (a1 * 64 + a2).toNat (zy_cl σM a3 a5) (zy_A σM) R := by
        intro R hR hle
        rw [hn]
        exact zq_cn_cong h.2.2 hR (by omega) (by omega) (by omega) R (Nat.le_refl R)
      rcases zq_both hf hc hq h.2.1 x2 y2 with ⟨R, r1, r2, t1, t2⟩ | ⟨e1, e2⟩
      · have cg := zq_cong (t := (σM.1 0 1).toInt) (c0 := (a1 * 64 + a2).toNat) h.2.2 r2 (by omega) (by omega) (by omega) R (Nat.le_refl R)
        refine ⟨t1.1, ?_, fun c on g1 g2 g3 => ?_⟩
        · rw [t1.2.2, t2.2, h.2.1, hn, cg.2]
        · rw [t1.2.1, t2.1 c on g1 g2 g3, hn, cg.1 c on g1 g2 g3]
      · rw [e1, e2]; exact h
/-! notes -/
def zl_N (σX σM : zc_S) : Prop := (σX.1 6 0).toInt = (σM.1 0 28).toInt ∧ (∀ i : Nat, (i : Int) < (σX.1 6 0).toInt → (σX.1 30 i).toInt = (σM.1 17 i).toInt ∧ (σX.1 33 i).toInt = (σM.1 20 i).toInt ∧ (σX.1 36 i).toInt = (σM.1 23 i).toInt) ∧ ∀ i : Nat, (σX.1 6 0).toInt ≤ (i : Int) → (σX.1 36 i).toInt = 0
theorem zl_N.x {M : zc_ms} {σX τX σM : zc_S} (h : zl_N σX σM) (ha : zc_Ag M σX τX) (h0 : zc_im M 6 0 = false) (h1 : ∀ j, zc_im M 30 j = false) (h2 : ∀ j, zc_im M 33 j = false) (h3 : ∀ j, zc_im M 36 j = false) : zl_N τX σM := by
  refine ⟨by rw [(ha 6 0 h0).1]; exact h.1, fun i hi => ?_, fun i hi => ?_⟩
  · rw [(ha 6 0 h0).1] at hi
    rw [(ha 30 i (h1 i)).1, (ha 33 i (h2 i)).1, (ha 36 i (h3 i)).1]; exact h.2.1 i hi
  · rw [(ha 6 0 h0).1] at hi
    rw [(ha 36 i (h3 i)).1]; exact h.2.2 i hi
theorem zl_N.m {M : zc_ms} {σX σM τM : zc_S} (h : zl_N σX σM) (ha : zc_Ag M σM τM) (h0 : zc_im M 0 28 = false) (h1 : ∀ j, zc_im M 17 j = false) (h2 : ∀ j, zc_im M 20 j = false) (h3 : ∀ j, zc_im M 23 j = false) : zl_N σX τM := by
  refine ⟨by rw [(ha 0 28 h0).1]; exact h.1, fun i hi => ?_, h.2.2⟩
  rw [(ha 17 i (h1 i)).1, (ha 20 i (h2 i)).1, (ha 23 i (h3 i)).1]; exact h.2.1 i hi
theorem zl_Na {σX σM τX τM : zc_S} {s d s' d' : Int} (h : zl_N σX σM) (hx : zp_aX σX τX s d) (hm : zp_aM σM τM s' d') (hs : s = s') (hd : d = d') : zl_N τX τM := by
  subst hs
  subst hd
  have e := h.1
  refine ⟨by rw [hx.1, hm.1, e], fun i hi => ?_, fun i hi => ?_⟩
  · rw [hx.1] at hi
    rw [(hx.2 i).1, (hx.2 i).2.1, (hx.2 i).2.2, (hm.2 i).1, (hm.2 i).2.1, (hm.2 i).2.2, ← e]
    by_cases g : (i : Int) = (σX.1 6 0).toInt
    · rw [if_pos g, if_pos g, if_pos g, if_pos g, if_pos g]
      exact ⟨rfl, rfl, h.2.2 i (by omega)⟩
    · rw [if_neg g, if_neg g, if_neg g, if_neg g, if_neg g]
      exact h.2.1 i (by omega)
  · rw [hx.1] at hi
    rw [(hx.2 i).2.2]; exact h.2.2 i (by omega)
theorem zl_Ne {σX σM τX τM : zc_S} (h : zl_N σX σM) (hx : zp_eX σX τX) (hm : τM = σM) : zl_N τX τM := by
  subst hm
  refine ⟨by rw [hx.1]; exact h.1, fun i hi => ?_, fun i hi => ?_⟩
  · rw [hx.1] at hi
    rw [(hx.2 i).1, (hx.2 i).2.1, (hx.2 i).2.2]; exact h.2.1 i hi
  · rw [hx.1] at hi
    rw [(hx.2 i).2.2]; exact h.2.2 i hi
/-- the lines of the class are such as a text makes them, for the reference's are -/
theorem zp_Zof {σX σM : zc_S} (hE : zl_E σX σM) (hT : zm_T σM) : zp_Z σX := by
  intro i hi
  have q := hE.2 i hi
  have e1 : (σX.1 18 i).toInt = (σM.1 8 i).toInt := q.1
  have e2 : (σX.1 19 i).toInt = (σM.1 9 i).toInt := q.2.1
  have e0 : (σX.1 3 0).toInt = (σM.1 0 17).toInt := hE.1
  have r := hT (i : Int) (by omega) (by omega)
  rw [show ((i : Int)).toNat = i by omega] at r
  rw [e1, e2]; exact r
theorem zp_fq {σX σM : zc_S} (h : ∀ j : Nat, (σX.1 15 j).toInt = (σM.1 2 j).toInt) (i : Int) : zp_f 15 σX i = zp_f 2 σM i := by
  unfold zp_f
  rw [h]
/-- what a note asks of both sides is the same -/
theorem zp_Bq {σX σM : zc_S} {s h d d' : Int} {k : Nat} (hW : zl_W σX σM) (hF : ∀ j : Nat, (σX.1 15 j).toInt = (σM.1 2 j).toInt) (hE : zl_E σX σM) (hk : (k : Int) < (σX.1 3 0).toInt) (h0 : 0 ≤ s) (h1 : s ≤ 3) (e : d = d') (g0 : 0 ≤ d) (g1 : d ≤ 63) (hh : 0 ≤ h) : zp_B (zx_A σX) (zp_f 15 σX) s (zw_TX σX) h k d ↔ zp_B (zy_A σM) (zp_f 2 σM) s (zw_TM σM) h k d' := by
  subst e
  exact zp_Bcong hW.2.2 (zp_fq hF) hE hk h0 h1 g0 g1 hh
theorem zp_note {V V' B B' E E' A A' C : Prop} {N N' r r' : Int} (hx : zp_nX V N r B E A) (hm : zp_nX V' N' r' B' E' A') (hV : V ↔ V') (hN : N = N') (hB : V → (B ↔ B')) (h1 : E → E' → C) (h2 : A → A' → C) : r = r' ∧ C := by
  rcases hx with ⟨a, b, c⟩ | ⟨a, b, c, d⟩ | ⟨a, b, c, d, e⟩ | ⟨a, b, c, d, e⟩ <;> rcases hm with ⟨p, q, t⟩ | ⟨p, q, t, u⟩ | ⟨p, q, t, u, v⟩ | ⟨p, q, t, u, v⟩
  · exact ⟨by omega, h1 c t⟩
  · exact absurd (hV.mpr p) a
  · exact absurd (hV.mpr p) a
  · exact absurd (hV.mpr p) a
  · exact absurd (hV.mp a) p
  · exact ⟨by omega, h1 d u⟩
  · exfalso; omega
  · exfalso; omega
  · exact absurd (hV.mp a) p
  · exfalso; omega
  · exact ⟨by omega, h1 e v⟩
  · exact absurd ((hB a).mpr u) d
  · exact absurd (hV.mp a) p
  · exfalso; omega
  · exact absurd ((hB a).mp d) u
  · exact ⟨by omega, h2 e v⟩
theorem zp_cq {σX σM : zc_S} {i : Nat} (hW : zl_W σX σM) (hN : (σX.1 1 0).toInt = (σM.1 0 1).toInt) (hT : zl_N σX σM) (hi : (i : Int) < (σX.1 6 0).toInt) (h0 : 0 ≤ (σX.1 30 i).toInt) (h1 : (σX.1 30 i).toInt ≤ 3) (g0 : 0 ≤ (σX.1 1 0).toInt) (g1 : (σX.1 1 0).toInt ≤ 63) : zp_cx σX i ↔ zp_cm σM i := by
  have q := hT.2.1 i hi
  unfold zp_cx zp_cm
  rw [← q.1, ← q.2.1, ← hN]
  constructor
  · rintro ⟨a, b, c⟩
    refine ⟨a, b, ?_⟩
    rw [← hW.2.2 _ _ (by omega) g0 (by omega)]
    exact c
  · rintro ⟨a, b, c⟩
    refine ⟨a, b, ?_⟩
    rw [hW.2.2 _ _ (by omega) g0 (by omega)]
    exact c
theorem zp_act {V V' C C' E E' T T' R : Prop} {a a' r r' : Int} (hx : zp_ac V a r C E T) (hm : zp_ac V' a' r' C' E' T') (hV : V ↔ V') (ha : V → a = a') (hC : V → (C ↔ C')) (h1 : E → E' → R) (h2 : V → T → T' → R) : r = r' ∧ R := by
  rcases hx with ⟨x1, x2, x3⟩ | ⟨x1, x2, x3, x4⟩ | ⟨x1, x2, x3, x4, x5⟩ <;> rcases hm with ⟨y1, y2, y3⟩ | ⟨y1, y2, y3, y4⟩ | ⟨y1, y2, y3, y4, y5⟩
  · exact ⟨by omega, h1 x3 y3⟩
  · exact absurd (hV.mpr y1) x1
  · exact absurd (hV.mpr y1) x1
  · exact absurd (hV.mp x1) y1
  · exact ⟨by omega, h1 x4 y4⟩
  · exfalso
    have e := ha x1
    rcases x2 with x2 | x2
    · omega
    · exact y3 ((hC x1).mp x2)
  · exact absurd (hV.mp x1) y1
  · exfalso
    have e := ha x1
    rcases y2 with y2 | y2
    · omega
    · exact x3 ((hC x1).mpr y2)
  · exact ⟨by omega, h2 x1 x5 y5⟩
theorem zl_Nt {σX σM τX τM : zc_S} {i : Nat} (h : zl_N σX σM) (hi : (i : Int) < (σX.1 6 0).toInt) (hx : ∃ c : Int32, c.toInt = 1 ∧ τX = zc_u σX 36 i c) (hm : ∃ c : Int32, c.toInt = 1 ∧ τM = zc_u σM 23 i c) : zl_N τX τM := by
  obtain ⟨c, hc, rfl⟩ := hx
  obtain ⟨b, hb, rfl⟩ := hm
  refine ⟨h.1, fun j hj => ?_, fun j hj => ?_⟩
  · have q := h.2.1 j hj
    refine ⟨q.1, q.2.1, ?_⟩
    rw [zc_u_at, zc_u_at]
    unfold upd
    by_cases g : j = i
    · rw [if_pos g, if_pos g, hc, hb]
    · rw [if_neg g, if_neg g]; exact q.2.2
  · have hj' : (σX.1 6 0).toInt ≤ (j : Int) := hj
    rw [zc_u_at]
    unfold upd
    rw [if_neg (by omega)]
    exact h.2.2 j hj
