def zl_v (σX σM : zc_S) : Prop := zc_O okX σX ∧ zc_O okM σM ∧ zm_T σM ∧ ((σX.1 1 0).toInt = (σM.1 0 1).toInt) ∧ ((σX.1 2 1).toInt = (σM.1 0 6).toInt) ∧ (∀ j : Nat, (σX.1 15 j).toInt = (σM.1 2 j).toInt) ∧ (∀ j : Nat, (σX.1 16 j).toInt = (σM.1 3 j).toInt) ∧ (∀ j : Nat, zl_R (σX.1 37 j) (σM.1 24 j)) ∧ (∀ j : Nat, (σX.1 38 j).toInt = (σM.1 25 j).toInt) ∧ (zl_SC σX σM) ∧ (zl_W σX σM)
theorem lc_0 {K : zc_K} {G : zc_X} {Z : zl_T} (hG : zl_G K G Z) {σX σM : zc_S} {i : Int32} {ni : Nat} (hi : i.toInt = (ni : Int)) (h9 : ni + 9 ≤ zt_L Z) (hv : zl_v σX σM) (kk : ∀ σX' σM', zl_v σX' σM' → zc_V 4 K G (zl_I K G Z σX' σM') [(3, .int i), (2, .ref (zt_M Z 0)), (1, .ref (zt_X Z 0)), (0, .ref (zt_b Z))] 1780 []) : zc_V 4 K G (zl_I K G Z σX σM) [(3, .int i), (2, .ref (zt_M Z 0)), (1, .ref (zt_X Z 0)), (0, .ref (zt_b Z))] 176 [] := by
  obtain ⟨hOX, hOM, hT, hN, hL, hF, hD, hSL, hSN, hSC, hW⟩ := hv
  have hB := hG.1
  have hZ := hG.2.2.2.2.2.2.1
  refine zr_aload_n hB 2 dL_law_176 rfl ?_
  refine zr_aload_n hB 3 dL_law_177 rfl ?_
  refine zr_iload_n hB 0 dL_law_178 rfl ?_
  refine zr_iconst hB dL_law_179 rfl (fun z1 hz1 => ?_)
  refine zr_iadd hB dL_law_180 (by omega) (by omega) (fun z2 hz2 => ?_)
  refine zl_sld hG (ni + 1) dL_law_181 (by omega) (by omega) ?_
  clear hz1 hz2
  refine zl_callX hG (As := [.int (zt_x Z (ni + 1))]) (rest := []) dL_law_182 wm_L_13 rfl (c_X8_now_0 (zl_K K (zt_X Z)) hG.2.2.2.2.2.2.2.2.2.1 σX (zt_x Z (ni + 1)) hOX ) rfl rfl (Nat.le_of_ble_eq_true rfl) ⟨(Nat.le_of_ble_eq_true rfl), (Nat.le_of_ble_eq_true rfl), rfl, rfl⟩ (fun r3 σ4 h5 => ?_)
  obtain ⟨hO6, hA7, r3a, r3b, g8⟩ := h5
  have hL10 : (σ4.1 2 1).toInt = (σM.1 0 6).toInt := by rw [(hA7 2 1 rfl).1]; exact hL
  have hF11 : ∀ j : Nat, (σ4.1 15 j).toInt = (σM.1 2 j).toInt := fun j => by rw [(hA7 15 j rfl).1]; exact hF j
  have hD12 : ∀ j : Nat, (σ4.1 16 j).toInt = (σM.1 3 j).toInt := fun j => by rw [(hA7 16 j rfl).1]; exact hD j
  have hSL13 : ∀ j : Nat, zl_R (σ4.1 37 j) (σM.1 24 j) := fun j => by rw [(hA7 37 j rfl).1]; exact hSL j
  have hSN14 : ∀ j : Nat, (σ4.1 38 j).toInt = (σM.1 25 j).toInt := fun j => by rw [(hA7 38 j rfl).1]; exact hSN j
  have hSC15 : zl_SC σ4 σM := hSC.x hA7 (fun _ => rfl) (fun _ => rfl)
  have hW16 : zl_W σ4 σM := hW.x hA7 rfl (fun _ => rfl) (fun _ => rfl) (fun _ => rfl) (fun _ => rfl)
  refine zr_pop hB dL_law_185 rfl ?_
  refine zr_aload_n hB 1 dL_law_186 rfl ?_
  refine zr_aload_n hB 3 dL_law_187 rfl ?_
  refine zr_iload_n hB 0 dL_law_188 rfl ?_
  refine zr_iconst hB dL_law_189 rfl (fun z17 hz17 => ?_)
  refine zr_iadd hB dL_law_190 (by omega) (by omega) (fun z18 hz18 => ?_)
  refine zl_sld hG (ni + 1) dL_law_191 (by omega) (by omega) ?_
  clear hz17 hz18
  refine zl_callM hG (As := [.int (zt_x Z (ni + 1))]) (rest := []) dL_law_192 wm_L_17 rfl (c_M_now (zl_K K (zt_M Z)) hG.2.2.2.2.2.2.2.2.2.2.1 σM (zt_x Z (ni + 1)) hOM ) rfl rfl (Nat.le_of_ble_eq_true rfl) ⟨(Nat.le_of_ble_eq_true rfl), (Nat.le_of_ble_eq_true rfl), rfl, rfl⟩ (fun r19 σ20 h21 => ?_)
  obtain ⟨hO22, hA23, r19a, r19b, g24⟩ := h21
  have hT25 := zm_T.ag hT hA23 rfl (fun _ => rfl) (fun _ => rfl)
  have hN26 : (σ4.1 1 0).toInt = (σ20.1 0 1).toInt := by omega
  have hL27 : (σ4.1 2 1).toInt = (σ20.1 0 6).toInt := by rw [(hA23 0 6 rfl).1]; exact hL10
  have hF28 : ∀ j : Nat, (σ4.1 15 j).toInt = (σ20.1 2 j).toInt := fun j => by rw [(hA23 2 j rfl).1]; exact hF11 j
  have hD29 : ∀ j : Nat, (σ4.1 16 j).toInt = (σ20.1 3 j).toInt := fun j => by rw [(hA23 3 j rfl).1]; exact hD12 j
  have hSL30 : ∀ j : Nat, zl_R (σ4.1 37 j) (σ20.1 24 j) := fun j => by rw [(hA23 24 j rfl).1]; exact hSL13 j
  have hSN31 : ∀ j : Nat, (σ4.1 38 j).toInt = (σ20.1 25 j).toInt := fun j => by rw [(hA23 25 j rfl).1]; exact hSN14 j
  have hSC32 : zl_SC σ4 σ20 := hSC15.m hA23 (fun _ => rfl)
  have hW33 : zl_W σ4 σ20 := hW16.m hA23 (fun _ => rfl) rfl
  refine zr_pop hB dL_law_195 rfl ?_
  refine zr_goto hB dL_law_196 (tgt := 1780) rfl ?_
  exact kk _ _ ⟨hO6, hO22, hT25, hN26, hL27, hF28, hD29, hSL30, hSN31, hSC32, hW33⟩

theorem lc_1 {K : zc_K} {G : zc_X} {Z : zl_T} (hG : zl_G K G Z) {σX σM : zc_S} {i : Int32} {ni : Nat} (hi : i.toInt = (ni : Int)) (h9 : ni + 9 ≤ zt_L Z) (hv : zl_v σX σM) (kk : ∀ σX' σM', zl_v σX' σM' → zc_V 4 K G (zl_I K G Z σX' σM') [(3, .int i), (2, .ref (zt_M Z 0)), (1, .ref (zt_X Z 0)), (0, .ref (zt_b Z))] 1780 []) : zc_V 4 K G (zl_I K G Z σX σM) [(3, .int i), (2, .ref (zt_M Z 0)), (1, .ref (zt_X Z 0)), (0, .ref (zt_b Z))] 199 [] := by
  obtain ⟨hOX, hOM, hT, hN, hL, hF, hD, hSL, hSN, hSC, hW⟩ := hv
  have hB := hG.1
  have hZ := hG.2.2.2.2.2.2.1
  refine zr_aload_n hB 2 dL_law_199 rfl ?_
  refine zr_aload_n hB 3 dL_law_200 rfl ?_
  refine zr_iload_n hB 0 dL_law_201 rfl ?_
  refine zr_iconst hB dL_law_202 rfl (fun z1 hz1 => ?_)
  refine zr_iadd hB dL_law_203 (by omega) (by omega) (fun z2 hz2 => ?_)
  refine zl_sld hG (ni + 1) dL_law_204 (by omega) (by omega) ?_
  clear hz1 hz2
  refine zr_aload_n hB 3 dL_law_205 rfl ?_
  refine zr_iload_n hB 0 dL_law_206 rfl ?_
  refine zr_iconst hB dL_law_207 rfl (fun z3 hz3 => ?_)
  refine zr_iadd hB dL_law_208 (by omega) (by omega) (fun z4 hz4 => ?_)
  refine zl_sld hG (ni + 2) dL_law_209 (by omega) (by omega) ?_
  clear hz3 hz4
  refine zr_aload_n hB 3 dL_law_210 rfl ?_
  refine zr_iload_n hB 0 dL_law_211 rfl ?_
  refine zr_iconst hB dL_law_212 rfl (fun z5 hz5 => ?_)
  refine zr_iadd hB dL_law_213 (by omega) (by omega) (fun z6 hz6 => ?_)
  refine zl_sld hG (ni + 3) dL_law_214 (by omega) (by omega) ?_
  clear hz5 hz6
  refine zl_callX hG (As := [.int (zt_x Z (ni + 1)), .int (zt_x Z (ni + 2)), .int (zt_x Z (ni + 3))]) (rest := []) dL_law_215 wm_L_18 rfl (c_X8_figure_0 (zl_K K (zt_X Z)) hG.2.2.2.2.2.2.2.2.2.1 σX (zt_x Z (ni + 1)) (zt_x Z (ni + 2)) (zt_x Z (ni + 3)) hOX ) rfl rfl (Nat.le_of_ble_eq_true rfl) ⟨(Nat.le_of_ble_eq_true rfl), (Nat.le_of_ble_eq_true rfl), rfl, rfl⟩ (fun r7 σ8 h9 => ?_)
  obtain ⟨hO10, hA11, r7a, r7b, g12⟩ := h9
  have hN13 : (σ8.1 1 0).toInt = (σM.1 0 1).toInt := by rw [(hA11 1 0 rfl).1]; exact hN
  have hL14 : (σ8.1 2 1).toInt = (σM.1 0 6).toInt := by rw [(hA11 2 1 rfl).1]; exact hL
  have hF15 : ∀ j : Nat, (σ8.1 15 j).toInt = (σM.1 2 j).toInt := fun j => by rw [(hA11 15 j rfl).1]; exact hF j
  have hD16 : ∀ j : Nat, (σ8.1 16 j).toInt = (σM.1 3 j).toInt := fun j => by rw [(hA11 16 j rfl).1]; exact hD j
  have hSL17 : ∀ j : Nat, zl_R (σ8.1 37 j) (σM.1 24 j) := fun j => by rw [(hA11 37 j rfl).1]; exact hSL j
  have hSN18 : ∀ j : Nat, (σ8.1 38 j).toInt = (σM.1 25 j).toInt := fun j => by rw [(hA11 38 j rfl).1]; exact hSN j
  have hSC19 : zl_SC σ8 σM := hSC.x hA11 (fun _ => rfl) (fun _ => rfl)
  refine zr_pop hB dL_law_218 rfl ?_
  refine zr_aload_n hB 1 dL_law_219 rfl ?_
  refine zr_aload_n hB 3 dL_law_220 rfl ?_
  refine zr_iload_n hB 0 dL_law_221 rfl ?_
  refine zr_iconst hB dL_law_222 rfl (fun z21 hz21 => ?_)
  refine zr_iadd hB dL_law_223 (by omega) (by omega) (fun z22 hz22 => ?_)
  refine zl_sld hG (ni + 1) dL_law_224 (by omega) (by omega) ?_
  clear hz21 hz22
  refine zr_aload_n hB 3 dL_law_225 rfl ?_
  refine zr_iload_n hB 0 dL_law_226 rfl ?_
  refine zr_iconst hB dL_law_227 rfl (fun z23 hz23 => ?_)
  refine zr_iadd hB dL_law_228 (by omega) (by omega) (fun z24 hz24 => ?_)
  refine zl_sld hG (ni + 2) dL_law_229 (by omega) (by omega) ?_
  clear hz23 hz24
  refine zr_aload_n hB 3 dL_law_230 rfl ?_
  refine zr_iload_n hB 0 dL_law_231 rfl ?_
  refine zr_iconst hB dL_law_232 rfl (fun z25 hz25 => ?_)
  refine zr_iadd hB dL_law_233 (by omega) (by omega) (fun z26 hz26 => ?_)
  refine zl_sld hG (ni + 3) dL_law_234 (by omega) (by omega) ?_
  clear hz25 hz26
  refine zl_callM hG (As := [.int (zt_x Z (ni + 1)), .int (zt_x Z (ni + 2)), .int (zt_x Z (ni + 3))]) (rest := []) dL_law_235 wm_L_22 rfl (c_M_figure (zl_K K (zt_M Z)) hG.2.2.2.2.2.2.2.2.2.2.1 σM (zt_x Z (ni + 1)) (zt_x Z (ni + 2)) (zt_x Z (ni + 3)) hOM ) rfl rfl (Nat.le_of_ble_eq_true rfl) ⟨(Nat.le_of_ble_eq_true rfl), (Nat.le_of_ble_eq_true rfl), rfl, rfl⟩ (fun r27 σ28 h29 => ?_)
  obtain ⟨hO30, hA31, r27a, r27b, g32⟩ := h29
  have hT33 := zm_T.ag hT hA31 rfl (fun _ => rfl) (fun _ => rfl)
  have hN34 : (σ8.1 1 0).toInt = (σ28.1 0 1).toInt := by rw [(hA31 0 1 rfl).1]; exact hN13
  have hL35 : (σ8.1 2 1).toInt = (σ28.1 0 6).toInt := by rw [(hA31 0 6 rfl).1]; exact hL14
  have hF36 : ∀ j : Nat, (σ8.1 15 j).toInt = (σ28.1 2 j).toInt := fun j => by rw [(hA31 2 j rfl).1]; exact hF15 j
  have hD37 : ∀ j : Nat, (σ8.1 16 j).toInt = (σ28.1 3 j).toInt := fun j => by rw [(hA31 3 j rfl).1]; exact hD16 j
  have hSL38 : ∀ j : Nat, zl_R (σ8.1 37 j) (σ28.1 24 j) := fun j => by rw [(hA31 24 j rfl).1]; exact hSL17 j
  have hSN39 : ∀ j : Nat, (σ8.1 38 j).toInt = (σ28.1 25 j).toInt := fun j => by rw [(hA31 25 j rfl).1]; exact hSN18 j
  have hSC40 : zl_SC σ8 σ28 := hSC19.m hA31 (fun _ => rfl)
  have hW41 : zl_W σ8 σ28 := by have t9 : (σX.1 1 1).toInt ≤ 200 := (hOX 1 1).2.1; have u9 := hW.2.1; rcases g12 with ⟨a1, a2, a3⟩ | ⟨a1, a2, a0, a3⟩ | ⟨a1, a2, a0, a3⟩ <;> rcases g32 with ⟨b1, b2, b3⟩ | ⟨b1, b2, b0, b3⟩ | ⟨b1, b2, b0, b3⟩ <;> first | (exfalso; omega) | (rw [a3, b3]; exact hW) | (rcases b3 with ⟨c1, c2⟩ | ⟨c1, c2⟩ <;> exact zl_fig hW hN a3 c2 (by split <;> omega))
  refine zr_pop hB dL_law_238 rfl ?_
  refine zr_goto hB dL_law_239 (tgt := 1780) rfl ?_
  exact kk _ _ ⟨hO10, hO30, hT33, hN34, hL35, hF36, hD37, hSL38, hSN39, hSC40, hW41⟩

theorem lc_2 {K : zc_K} {G : zc_X} {Z : zl_T} (hG : zl_G K G Z) {σX σM : zc_S} {i : Int32} {ni : Nat} (hi : i.toInt = (ni : Int)) (h9 : ni + 9 ≤ zt_L Z) (hv : zl_v σX σM) (kk : ∀ σX' σM', zl_v σX' σM' → zc_V 4 K G (zl_I K G Z σX' σM') [(3, .int i), (2, .ref (zt_M Z 0)), (1, .ref (zt_X Z 0)), (0, .ref (zt_b Z))] 1780 []) : zc_V 4 K G (zl_I K G Z σX σM) [(3, .int i), (2, .ref (zt_M Z 0)), (1, .ref (zt_X Z 0)), (0, .ref (zt_b Z))] 242 [] := by
  obtain ⟨hOX, hOM, hT, hN, hL, hF, hD, hSL, hSN, hSC, hW⟩ := hv
  have hB := hG.1
  have hZ := hG.2.2.2.2.2.2.1
  refine zr_aload_n hB 2 dL_law_242 rfl ?_
  refine zr_aload_n hB 3 dL_law_243 rfl ?_
  refine zr_iload_n hB 0 dL_law_244 rfl ?_
  refine zr_iconst hB dL_law_245 rfl (fun z1 hz1 => ?_)
  refine zr_iadd hB dL_law_246 (by omega) (by omega) (fun z2 hz2 => ?_)
  refine zl_sld hG (ni + 1) dL_law_247 (by omega) (by omega) ?_
  clear hz1 hz2
  refine zr_aload_n hB 3 dL_law_248 rfl ?_
  refine zr_iload_n hB 0 dL_law_249 rfl ?_
  refine zr_iconst hB dL_law_250 rfl (fun z3 hz3 => ?_)
  refine zr_iadd hB dL_law_251 (by omega) (by omega) (fun z4 hz4 => ?_)
  refine zl_sld hG (ni + 2) dL_law_252 (by omega) (by omega) ?_
  clear hz3 hz4
  refine zr_aload_n hB 3 dL_law_253 rfl ?_
  refine zr_iload_n hB 0 dL_law_254 rfl ?_
  refine zr_iconst hB dL_law_255 rfl (fun z5 hz5 => ?_)
  refine zr_iadd hB dL_law_256 (by omega) (by omega) (fun z6 hz6 => ?_)
  refine zl_sld hG (ni + 3) dL_law_257 (by omega) (by omega) ?_
  clear hz5 hz6
  refine zl_callX hG (As := [.int (zt_x Z (ni + 1)), .int (zt_x Z (ni + 2)), .int (zt_x Z (ni + 3))]) (rest := []) dL_law_258 wm_L_23 rfl (c_X8_known_0 (zl_K K (zt_X Z)) hG.2.2.2.2.2.2.2.2.2.1 σX (zt_x Z (ni + 1)) (zt_x Z (ni + 2)) (zt_x Z (ni + 3)) hOX ) rfl rfl (Nat.le_of_ble_eq_true rfl) ⟨(Nat.le_of_ble_eq_true rfl), (Nat.le_of_ble_eq_true rfl), rfl, rfl⟩ (fun r7 σ8 h9 => ?_)
  obtain ⟨rfl, r7a, r7b, g10⟩ := h9
  refine zr_aload_n hB 1 dL_law_261 rfl ?_
  refine zr_aload_n hB 3 dL_law_262 rfl ?_
  refine zr_iload_n hB 0 dL_law_263 rfl ?_
  refine zr_iconst hB dL_law_264 rfl (fun z11 hz11 => ?_)
  refine zr_iadd hB dL_law_265 (by omega) (by omega) (fun z12 hz12 => ?_)
  refine zl_sld hG (ni + 1) dL_law_266 (by omega) (by omega) ?_
  clear hz11 hz12
  refine zr_aload_n hB 3 dL_law_267 rfl ?_
  refine zr_iload_n hB 0 dL_law_268 rfl ?_
  refine zr_iconst hB dL_law_269 rfl (fun z13 hz13 => ?_)
  refine zr_iadd hB dL_law_270 (by omega) (by omega) (fun z14 hz14 => ?_)
  refine zl_sld hG (ni + 2) dL_law_271 (by omega) (by omega) ?_
  clear hz13 hz14
  refine zr_aload_n hB 3 dL_law_272 rfl ?_
  refine zr_iload_n hB 0 dL_law_273 rfl ?_
  refine zr_iconst hB dL_law_274 rfl (fun z15 hz15 => ?_)
  refine zr_iadd hB dL_law_275 (by omega) (by omega) (fun z16 hz16 => ?_)
  refine zl_sld hG (ni + 3) dL_law_276 (by omega) (by omega) ?_
  clear hz15 hz16
  refine zl_callM hG (As := [.int (zt_x Z (ni + 1)), .int (zt_x Z (ni + 2)), .int (zt_x Z (ni + 3))]) (rest := [.int r7]) dL_law_277 wm_L_26 rfl (c_M_known (zl_K K (zt_M Z)) hG.2.2.2.2.2.2.2.2.2.2.1 σM (zt_x Z (ni + 1)) (zt_x Z (ni + 2)) (zt_x Z (ni + 3)) hOM ) rfl rfl (Nat.le_of_ble_eq_true rfl) ⟨(Nat.le_of_ble_eq_true rfl), (Nat.le_of_ble_eq_true rfl), rfl, rfl⟩ (fun r17 σ18 h19 => ?_)
  obtain ⟨rfl, r17a, r17b, g20⟩ := h19
  have w9 := zl_use hW (zt_x Z (ni + 1)).toInt (zt_x Z (ni + 2)).toInt (rfl : (zt_x Z (ni + 3)).toInt = (zt_x Z (ni + 3)).toInt)
  refine zr_icmp_eq hB dL_law_280 (tgt := 1780) rfl (fun h21 => ?_) (fun h21 => absurd (by omega) h21)
  exact kk _ _ ⟨hOX, hOM, hT, hN, hL, hF, hD, hSL, hSN, hSC, hW⟩

theorem lc_3 {K : zc_K} {G : zc_X} {Z : zl_T} (hG : zl_G K G Z) {σX σM : zc_S} {i : Int32} {ni : Nat} (hi : i.toInt = (ni : Int)) (h9 : ni + 9 ≤ zt_L Z) (hv : zl_v σX σM) (kk : ∀ σX' σM', zl_v σX' σM' → zc_V 4 K G (zl_I K G Z σX' σM') [(3, .int i), (2, .ref (zt_M Z 0)), (1, .ref (zt_X Z 0)), (0, .ref (zt_b Z))] 1780 []) : zc_V 4 K G (zl_I K G Z σX σM) [(3, .int i), (2, .ref (zt_M Z 0)), (1, .ref (zt_X Z 0)), (0, .ref (zt_b Z))] 285 [] := by
  obtain ⟨hOX, hOM, hT, hN, hL, hF, hD, hSL, hSN, hSC, hW⟩ := hv
  have hB := hG.1
  have hZ := hG.2.2.2.2.2.2.1
  refine zr_aload_n hB 2 dL_law_285 rfl ?_
  refine zr_aload_n hB 3 dL_law_286 rfl ?_
  refine zr_iload_n hB 0 dL_law_287 rfl ?_
  refine zr_iconst hB dL_law_288 rfl (fun z1 hz1 => ?_)
  refine zr_iadd hB dL_law_289 (by omega) (by omega) (fun z2 hz2 => ?_)
  refine zl_sld hG (ni + 1) dL_law_290 (by omega) (by omega) ?_
  clear hz1 hz2
  refine zr_aload_n hB 3 dL_law_291 rfl ?_
  refine zr_iload_n hB 0 dL_law_292 rfl ?_
  refine zr_iconst hB dL_law_293 rfl (fun z3 hz3 => ?_)
  refine zr_iadd hB dL_law_294 (by omega) (by omega) (fun z4 hz4 => ?_)
  refine zl_sld hG (ni + 2) dL_law_295 (by omega) (by omega) ?_
  clear hz3 hz4
  refine zr_aload_n hB 3 dL_law_296 rfl ?_
  refine zr_iload_n hB 0 dL_law_297 rfl ?_
  refine zr_iconst hB dL_law_298 rfl (fun z5 hz5 => ?_)
  refine zr_iadd hB dL_law_299 (by omega) (by omega) (fun z6 hz6 => ?_)
  refine zl_sld hG (ni + 3) dL_law_300 (by omega) (by omega) ?_
  clear hz5 hz6
  refine zr_if_eq hB dL_law_301 (tgt := 308) rfl (fun h7 => ?_) (fun h7 => ?_)
  · skip
    refine zr_iconst hB dL_law_308 rfl (fun z8 hz8 => ?_)
    refine zl_callX hG (As := [.int (zt_x Z (ni + 1)), .int (zt_x Z (ni + 2)), .int z8]) (rest := []) dL_law_309 wm_L_27 rfl (c_X8_mark_0 (zl_K K (zt_X Z)) hG.2.2.2.2.2.2.2.2.2.1 σX (zt_x Z (ni + 1)) (zt_x Z (ni + 2)) z8 hOX (by omega) (by omega)) rfl rfl (Nat.le_of_ble_eq_true rfl) ⟨(Nat.le_of_ble_eq_true rfl), (Nat.le_of_ble_eq_true rfl), rfl, rfl⟩ (fun r9 σ10 h11 => ?_)
    obtain ⟨hO12, hA13, r9a, r9b, g14⟩ := h11
    have hN15 : (σ10.1 1 0).toInt = (σM.1 0 1).toInt := by rw [(hA13 1 0 rfl).1]; exact hN
    have hL16 : (σ10.1 2 1).toInt = (σM.1 0 6).toInt := by rw [(hA13 2 1 rfl).1]; exact hL
    have hSL19 : ∀ j : Nat, zl_R (σ10.1 37 j) (σM.1 24 j) := fun j => by rw [(hA13 37 j rfl).1]; exact hSL j
    have hSN20 : ∀ j : Nat, (σ10.1 38 j).toInt = (σM.1 25 j).toInt := fun j => by rw [(hA13 38 j rfl).1]; exact hSN j
    have hSC21 : zl_SC σ10 σM := hSC.x hA13 (fun _ => rfl) (fun _ => rfl)
    have hW22 : zl_W σ10 σM := hW.x hA13 rfl (fun _ => rfl) (fun _ => rfl) (fun _ => rfl) (fun _ => rfl)
    refine zr_pop hB dL_law_312 rfl ?_
    refine zr_aload_n hB 1 dL_law_313 rfl ?_
    refine zr_aload_n hB 3 dL_law_314 rfl ?_
    refine zr_iload_n hB 0 dL_law_315 rfl ?_
    refine zr_iconst hB dL_law_316 rfl (fun z23 hz23 => ?_)
    refine zr_iadd hB dL_law_317 (by omega) (by omega) (fun z24 hz24 => ?_)
    refine zl_sld hG (ni + 1) dL_law_318 (by omega) (by omega) ?_
    clear hz23 hz24
    refine zr_aload_n hB 3 dL_law_319 rfl ?_
    refine zr_iload_n hB 0 dL_law_320 rfl ?_
    refine zr_iconst hB dL_law_321 rfl (fun z25 hz25 => ?_)
    refine zr_iadd hB dL_law_322 (by omega) (by omega) (fun z26 hz26 => ?_)
    refine zl_sld hG (ni + 2) dL_law_323 (by omega) (by omega) ?_
    clear hz25 hz26
    refine zr_aload_n hB 3 dL_law_324 rfl ?_
    refine zr_iload_n hB 0 dL_law_325 rfl ?_
    refine zr_iconst hB dL_law_326 rfl (fun z27 hz27 => ?_)
    refine zr_iadd hB dL_law_327 (by omega) (by omega) (fun z28 hz28 => ?_)
    refine zl_sld hG (ni + 3) dL_law_328 (by omega) (by omega) ?_
    clear hz27 hz28
    refine zr_if_eq hB dL_law_329 (tgt := 336) rfl (fun h30 => ?_) (fun h30 => absurd h7 h30)
    refine zr_iconst hB dL_law_336 rfl (fun z31 hz31 => ?_)
    refine zl_callM hG (As := [.int (zt_x Z (ni + 1)), .int (zt_x Z (ni + 2)), .int z31]) (rest := []) dL_law_337 wm_L_31 rfl (c_M_mark (zl_K K (zt_M Z)) hG.2.2.2.2.2.2.2.2.2.2.1 σM (zt_x Z (ni + 1)) (zt_x Z (ni + 2)) z31 hOM (by omega) (by omega)) rfl rfl (Nat.le_of_ble_eq_true rfl) ⟨(Nat.le_of_ble_eq_true rfl), (Nat.le_of_ble_eq_true rfl), rfl, rfl⟩ (fun r32 σ33 h34 => ?_)
    obtain ⟨hO35, hA36, r32a, r32b, g37⟩ := h34
    have hT38 := zm_T.ag hT hA36 rfl (fun _ => rfl) (fun _ => rfl)
    have hN39 : (σ10.1 1 0).toInt = (σ33.1 0 1).toInt := by rw [(hA36 0 1 rfl).1]; exact hN15
    have hL40 : (σ10.1 2 1).toInt = (σ33.1 0 6).toInt := by rw [(hA36 0 6 rfl).1]; exact hL16
    have hF41 : ∀ j : Nat, (σ10.1 15 j).toInt = (σ33.1 2 j).toInt := by rcases g14 with ⟨a1, a2, a3⟩ | ⟨a1, a2, a0, a4, a3⟩ | ⟨a1, a2, a0, a4, a3⟩ <;> rcases g37 with ⟨b1, b2, b3⟩ | ⟨b1, b2, b0, b4, b3⟩ | ⟨b1, b2, b0, b4, b3⟩ <;> first | (exfalso; omega) | (rw [a3, b3]; exact hF) | (rw [a3, b3]; exact zl_fu hF (by omega)) | (rw [a3, b3]; exact zl_fn hF (by decide) (by decide))
    have hD42 : ∀ j : Nat, (σ10.1 16 j).toInt = (σ33.1 3 j).toInt := by rcases g14 with ⟨a1, a2, a3⟩ | ⟨a1, a2, a0, a4, a3⟩ | ⟨a1, a2, a0, a4, a3⟩ <;> rcases g37 with ⟨b1, b2, b3⟩ | ⟨b1, b2, b0, b4, b3⟩ | ⟨b1, b2, b0, b4, b3⟩ <;> first | (exfalso; omega) | (rw [a3, b3]; exact hD) | (rw [a3, b3]; exact zl_fu hD (by omega)) | (rw [a3, b3]; exact zl_fn hD (by decide) (by decide))
    have hSL43 : ∀ j : Nat, zl_R (σ10.1 37 j) (σ33.1 24 j) := fun j => by rw [(hA36 24 j rfl).1]; exact hSL19 j
    have hSN44 : ∀ j : Nat, (σ10.1 38 j).toInt = (σ33.1 25 j).toInt := fun j => by rw [(hA36 25 j rfl).1]; exact hSN20 j
    have hSC45 : zl_SC σ10 σ33 := hSC21.m hA36 (fun _ => rfl)
    have hW46 : zl_W σ10 σ33 := hW22.m hA36 (fun _ => rfl) rfl
    refine zr_pop hB dL_law_340 rfl ?_
    refine zr_goto hB dL_law_341 (tgt := 1780) rfl ?_
    exact kk _ _ ⟨hO12, hO35, hT38, hN39, hL40, hF41, hD42, hSL43, hSN44, hSC45, hW46⟩
  · skip
    refine zr_iconst hB dL_law_304 rfl (fun z47 hz47 => ?_)
    refine zr_goto hB dL_law_305 (tgt := 309) rfl ?_
    refine zl_callX hG (As := [.int (zt_x Z (ni + 1)), .int (zt_x Z (ni + 2)), .int z47]) (rest := []) dL_law_309 wm_L_27 rfl (c_X8_mark_0 (zl_K K (zt_X Z)) hG.2.2.2.2.2.2.2.2.2.1 σX (zt_x Z (ni + 1)) (zt_x Z (ni + 2)) z47 hOX (by omega) (by omega)) rfl rfl (Nat.le_of_ble_eq_true rfl) ⟨(Nat.le_of_ble_eq_true rfl), (Nat.le_of_ble_eq_true rfl), rfl, rfl⟩ (fun r48 σ49 h50 => ?_)
    obtain ⟨hO51, hA52, r48a, r48b, g53⟩ := h50
    have hN54 : (σ49.1 1 0).toInt = (σM.1 0 1).toInt := by rw [(hA52 1 0 rfl).1]; exact hN
    have hL55 : (σ49.1 2 1).toInt = (σM.1 0 6).toInt := by rw [(hA52 2 1 rfl).1]; exact hL
    have hSL58 : ∀ j : Nat, zl_R (σ49.1 37 j) (σM.1 24 j) := fun j => by rw [(hA52 37 j rfl).1]; exact hSL j
    have hSN59 : ∀ j : Nat, (σ49.1 38 j).toInt = (σM.1 25 j).toInt := fun j => by rw [(hA52 38 j rfl).1]; exact hSN j
    have hSC60 : zl_SC σ49 σM := hSC.x hA52 (fun _ => rfl) (fun _ => rfl)
    have hW61 : zl_W σ49 σM := hW.x hA52 rfl (fun _ => rfl) (fun _ => rfl) (fun _ => rfl) (fun _ => rfl)
    refine zr_pop hB dL_law_312 rfl ?_
    refine zr_aload_n hB 1 dL_law_313 rfl ?_
    refine zr_aload_n hB 3 dL_law_314 rfl ?_
    refine zr_iload_n hB 0 dL_law_315 rfl ?_
    refine zr_iconst hB dL_law_316 rfl (fun z62 hz62 => ?_)
    refine zr_iadd hB dL_law_317 (by omega) (by omega) (fun z63 hz63 => ?_)
    refine zl_sld hG (ni + 1) dL_law_318 (by omega) (by omega) ?_
    clear hz62 hz63
    refine zr_aload_n hB 3 dL_law_319 rfl ?_
    refine zr_iload_n hB 0 dL_law_320 rfl ?_
    refine zr_iconst hB dL_law_321 rfl (fun z64 hz64 => ?_)
    refine zr_iadd hB dL_law_322 (by omega) (by omega) (fun z65 hz65 => ?_)
    refine zl_sld hG (ni + 2) dL_law_323 (by omega) (by omega) ?_
    clear hz64 hz65
    refine zr_aload_n hB 3 dL_law_324 rfl ?_
    refine zr_iload_n hB 0 dL_law_325 rfl ?_
    refine zr_iconst hB dL_law_326 rfl (fun z66 hz66 => ?_)
    refine zr_iadd hB dL_law_327 (by omega) (by omega) (fun z67 hz67 => ?_)
    refine zl_sld hG (ni + 3) dL_law_328 (by omega) (by omega) ?_
    clear hz66 hz67
    refine zr_if_eq hB dL_law_329 (tgt := 336) rfl (fun h69 => absurd h69 h7) (fun h69 => ?_)
    refine zr_iconst hB dL_law_332 rfl (fun z70 hz70 => ?_)
    refine zr_goto hB dL_law_333 (tgt := 337) rfl ?_
    refine zl_callM hG (As := [.int (zt_x Z (ni + 1)), .int (zt_x Z (ni + 2)), .int z70]) (rest := []) dL_law_337 wm_L_31 rfl (c_M_mark (zl_K K (zt_M Z)) hG.2.2.2.2.2.2.2.2.2.2.1 σM (zt_x Z (ni + 1)) (zt_x Z (ni + 2)) z70 hOM (by omega) (by omega)) rfl rfl (Nat.le_of_ble_eq_true rfl) ⟨(Nat.le_of_ble_eq_true rfl), (Nat.le_of_ble_eq_true rfl), rfl, rfl⟩ (fun r71 σ72 h73 => ?_)
    obtain ⟨hO74, hA75, r71a, r71b, g76⟩ := h73
    have hT77 := zm_T.ag hT hA75 rfl (fun _ => rfl) (fun _ => rfl)
    have hN78 : (σ49.1 1 0).toInt = (σ72.1 0 1).toInt := by rw [(hA75 0 1 rfl).1]; exact hN54
    have hL79 : (σ49.1 2 1).toInt = (σ72.1 0 6).toInt := by rw [(hA75 0 6 rfl).1]; exact hL55
    have hF80 : ∀ j : Nat, (σ49.1 15 j).toInt = (σ72.1 2 j).toInt := by rcases g53 with ⟨a1, a2, a3⟩ | ⟨a1, a2, a0, a4, a3⟩ | ⟨a1, a2, a0, a4, a3⟩ <;> rcases g76 with ⟨b1, b2, b3⟩ | ⟨b1, b2, b0, b4, b3⟩ | ⟨b1, b2, b0, b4, b3⟩ <;> first | (exfalso; omega) | (rw [a3, b3]; exact hF) | (rw [a3, b3]; exact zl_fu hF (by omega)) | (rw [a3, b3]; exact zl_fn hF (by decide) (by decide))
    have hD81 : ∀ j : Nat, (σ49.1 16 j).toInt = (σ72.1 3 j).toInt := by rcases g53 with ⟨a1, a2, a3⟩ | ⟨a1, a2, a0, a4, a3⟩ | ⟨a1, a2, a0, a4, a3⟩ <;> rcases g76 with ⟨b1, b2, b3⟩ | ⟨b1, b2, b0, b4, b3⟩ | ⟨b1, b2, b0, b4, b3⟩ <;> first | (exfalso; omega) | (rw [a3, b3]; exact hD) | (rw [a3, b3]; exact zl_fu hD (by omega)) | (rw [a3, b3]; exact zl_fn hD (by decide) (by decide))
    have hSL82 : ∀ j : Nat, zl_R (σ49.1 37 j) (σ72.1 24 j) := fun j => by rw [(hA75 24 j rfl).1]; exact hSL58 j
    have hSN83 : ∀ j : Nat, (σ49.1 38 j).toInt = (σ72.1 25 j).toInt := fun j => by rw [(hA75 25 j rfl).1]; exact hSN59 j
    have hSC84 : zl_SC σ49 σ72 := hSC60.m hA75 (fun _ => rfl)
    have hW85 : zl_W σ49 σ72 := hW61.m hA75 (fun _ => rfl) rfl
    refine zr_pop hB dL_law_340 rfl ?_
    refine zr_goto hB dL_law_341 (tgt := 1780) rfl ?_
    exact kk _ _ ⟨hO51, hO74, hT77, hN78, hL79, hF80, hD81, hSL82, hSN83, hSC84, hW85⟩

theorem lc_4 {K : zc_K} {G : zc_X} {Z : zl_T} (hG : zl_G K G Z) {σX σM : zc_S} {i : Int32} {ni : Nat} (hi : i.toInt = (ni : Int)) (h9 : ni + 9 ≤ zt_L Z) (hv : zl_v σX σM) (kk : ∀ σX' σM', zl_v σX' σM' → zc_V 4 K G (zl_I K G Z σX' σM') [(3, .int i), (2, .ref (zt_M Z 0)), (1, .ref (zt_X Z 0)), (0, .ref (zt_b Z))] 1780 []) : zc_V 4 K G (zl_I K G Z σX σM) [(3, .int i), (2, .ref (zt_M Z 0)), (1, .ref (zt_X Z 0)), (0, .ref (zt_b Z))] 344 [] := by
  obtain ⟨hOX, hOM, hT, hN, hL, hF, hD, hSL, hSN, hSC, hW⟩ := hv
  have hB := hG.1
  have hZ := hG.2.2.2.2.2.2.1
  refine zr_aload_n hB 2 dL_law_344 rfl ?_
  refine zr_aload_n hB 3 dL_law_345 rfl ?_
  refine zr_iload_n hB 0 dL_law_346 rfl ?_
  refine zr_iconst hB dL_law_347 rfl (fun z1 hz1 => ?_)
  refine zr_iadd hB dL_law_348 (by omega) (by omega) (fun z2 hz2 => ?_)
  refine zl_sld hG (ni + 1) dL_law_349 (by omega) (by omega) ?_
  clear hz1 hz2
  refine zr_i2l hB dL_law_350 (fun l3 hl3 => ?_)
  refine zr_bipush hB dL_law_351 rfl (fun z4 hz4 => ?_)
  refine zr_lshl hB dL_law_353 (fun l5 hl5 => ?_)
  refine zr_aload_n hB 3 dL_law_354 rfl ?_
  refine zr_iload_n hB 0 dL_law_355 rfl ?_
  refine zr_iconst hB dL_law_356 rfl (fun z6 hz6 => ?_)
  refine zr_iadd hB dL_law_357 (by omega) (by omega) (fun z7 hz7 => ?_)
  refine zl_sld hG (ni + 2) dL_law_358 (by omega) (by omega) ?_
  clear hz6 hz7
  refine zr_i2l hB dL_law_359 (fun l8 hl8 => ?_)
  refine zr_ldc2 hB dL_law_360 wc_L_32 rfl (fun l9 hl9 => ?_)
  refine zr_land hB dL_law_363 (fun l10 hl10 => ?_)
  refine zr_lor hB dL_law_364 (fun l11 hl11 => ?_)
  refine zl_callX hG (As := [.long l11]) (rest := []) dL_law_365 wm_L_34 rfl (c_X8_feed_0 (zl_K K (zt_X Z)) hG.2.2.2.2.2.2.2.2.2.1 σX l11 hOX ) rfl rfl (Nat.le_of_ble_eq_true rfl) ⟨(Nat.le_of_ble_eq_true rfl), (Nat.le_of_ble_eq_true rfl), rfl, rfl⟩ (fun r12 σ13 h14 => ?_)
  obtain ⟨hO15, hA16, r12a, r12b, g17⟩ := h14
  have hN18 : (σ13.1 1 0).toInt = (σM.1 0 1).toInt := by rw [(hA16 1 0 rfl).1]; exact hN
  have hF20 : ∀ j : Nat, (σ13.1 15 j).toInt = (σM.1 2 j).toInt := fun j => by rw [(hA16 15 j rfl).1]; exact hF j
  have hD21 : ∀ j : Nat, (σ13.1 16 j).toInt = (σM.1 3 j).toInt := fun j => by rw [(hA16 16 j rfl).1]; exact hD j
  have hSL22 : ∀ j : Nat, zl_R (σ13.1 37 j) (σM.1 24 j) := fun j => by rw [(hA16 37 j rfl).1]; exact hSL j
  have hSN23 : ∀ j : Nat, (σ13.1 38 j).toInt = (σM.1 25 j).toInt := fun j => by rw [(hA16 38 j rfl).1]; exact hSN j
  have hSC24 : zl_SC σ13 σM := hSC.x hA16 (fun _ => rfl) (fun _ => rfl)
  have hW25 : zl_W σ13 σM := hW.x hA16 rfl (fun _ => rfl) (fun _ => rfl) (fun _ => rfl) (fun _ => rfl)
  refine zr_pop hB dL_law_368 rfl ?_
  refine zr_aload_n hB 1 dL_law_369 rfl ?_
  refine zr_aload_n hB 3 dL_law_370 rfl ?_
  refine zr_iload_n hB 0 dL_law_371 rfl ?_
  refine zr_iconst hB dL_law_372 rfl (fun z26 hz26 => ?_)
  refine zr_iadd hB dL_law_373 (by omega) (by omega) (fun z27 hz27 => ?_)
  refine zl_sld hG (ni + 1) dL_law_374 (by omega) (by omega) ?_
  clear hz26 hz27
  refine zr_i2l hB dL_law_375 (fun l28 hl28 => ?_)
  refine zr_bipush hB dL_law_376 rfl (fun z29 hz29 => ?_)
  refine zr_lshl hB dL_law_378 (fun l30 hl30 => ?_)
  refine zr_aload_n hB 3 dL_law_379 rfl ?_
  refine zr_iload_n hB 0 dL_law_380 rfl ?_
  refine zr_iconst hB dL_law_381 rfl (fun z31 hz31 => ?_)
  refine zr_iadd hB dL_law_382 (by omega) (by omega) (fun z32 hz32 => ?_)
  refine zl_sld hG (ni + 2) dL_law_383 (by omega) (by omega) ?_
  clear hz31 hz32
  refine zr_i2l hB dL_law_384 (fun l33 hl33 => ?_)
  refine zr_ldc2 hB dL_law_385 wc_L_32 rfl (fun l34 hl34 => ?_)
  refine zr_land hB dL_law_388 (fun l35 hl35 => ?_)
  refine zr_lor hB dL_law_389 (fun l36 hl36 => ?_)
  refine zl_callM hG (As := [.long l36]) (rest := []) dL_law_390 wm_L_38 rfl (c_M_feed (zl_K K (zt_M Z)) hG.2.2.2.2.2.2.2.2.2.2.1 σM l36 hOM ) rfl rfl (Nat.le_of_ble_eq_true rfl) ⟨(Nat.le_of_ble_eq_true rfl), (Nat.le_of_ble_eq_true rfl), rfl, rfl⟩ (fun r37 σ38 h39 => ?_)
  obtain ⟨hO40, hA41, r37a, r37b, g42⟩ := h39
  have hT43 := zm_T.ag hT hA41 rfl (fun _ => rfl) (fun _ => rfl)
  have hN44 : (σ13.1 1 0).toInt = (σ38.1 0 1).toInt := by rw [(hA41 0 1 rfl).1]; exact hN18
  have hL45 : (σ13.1 2 1).toInt = (σ38.1 0 6).toInt := by omega
  have hF46 : ∀ j : Nat, (σ13.1 15 j).toInt = (σ38.1 2 j).toInt := fun j => by rw [(hA41 2 j rfl).1]; exact hF20 j
  have hD47 : ∀ j : Nat, (σ13.1 16 j).toInt = (σ38.1 3 j).toInt := fun j => by rw [(hA41 3 j rfl).1]; exact hD21 j
  have hSL48 : ∀ j : Nat, zl_R (σ13.1 37 j) (σ38.1 24 j) := fun j => by rw [(hA41 24 j rfl).1]; exact hSL22 j
  have hSN49 : ∀ j : Nat, (σ13.1 38 j).toInt = (σ38.1 25 j).toInt := fun j => by rw [(hA41 25 j rfl).1]; exact hSN23 j
  have hSC50 : zl_SC σ13 σ38 := hSC24.m hA41 (fun _ => rfl)
  have hW51 : zl_W σ13 σ38 := hW25.m hA41 (fun _ => rfl) rfl
  refine zr_pop hB dL_law_393 rfl ?_
  refine zr_goto hB dL_law_394 (tgt := 1780) rfl ?_
  exact kk _ _ ⟨hO15, hO40, hT43, hN44, hL45, hF46, hD47, hSL48, hSN49, hSC50, hW51⟩

theorem lc_5 {K : zc_K} {G : zc_X} {Z : zl_T} (hG : zl_G K G Z) {σX σM : zc_S} {i : Int32} {ni : Nat} (hi : i.toInt = (ni : Int)) (h9 : ni + 9 ≤ zt_L Z) (hv : zl_v σX σM) (kk : ∀ σX' σM', zl_v σX' σM' → zc_V 4 K G (zl_I K G Z σX' σM') [(3, .int i), (2, .ref (zt_M Z 0)), (1, .ref (zt_X Z 0)), (0, .ref (zt_b Z))] 1780 []) : zc_V 4 K G (zl_I K G Z σX σM) [(3, .int i), (2, .ref (zt_M Z 0)), (1, .ref (zt_X Z 0)), (0, .ref (zt_b Z))] 397 [] := by
  obtain ⟨hOX, hOM, hT, hN, hL, hF, hD, hSL, hSN, hSC, hW⟩ := hv
  have hB := hG.1
  have hZ := hG.2.2.2.2.2.2.1
  refine zr_aload_n hB 2 dL_law_397 rfl ?_
  refine zr_aload_n hB 3 dL_law_398 rfl ?_
  refine zr_iload_n hB 0 dL_law_399 rfl ?_
  refine zr_iconst hB dL_law_400 rfl (fun z1 hz1 => ?_)
  refine zr_iadd hB dL_law_401 (by omega) (by omega) (fun z2 hz2 => ?_)
  refine zl_sld hG (ni + 1) dL_law_402 (by omega) (by omega) ?_
  clear hz1 hz2
  refine zl_callX hG (As := [.int (zt_x Z (ni + 1))]) (rest := []) dL_law_403 wm_L_39 rfl (c_X8_end_0 (zl_K K (zt_X Z)) hG.2.2.2.2.2.2.2.2.2.1 σX (zt_x Z (ni + 1)) hOX ) rfl rfl (Nat.le_of_ble_eq_true rfl) ⟨(Nat.le_of_ble_eq_true rfl), (Nat.le_of_ble_eq_true rfl), rfl, rfl⟩ (fun r3 σ4 h5 => ?_)
  obtain ⟨hO6, hA7, r3a, r3b, g8⟩ := h5
  have hN9 : (σ4.1 1 0).toInt = (σM.1 0 1).toInt := by rw [(hA7 1 0 rfl).1]; exact hN
  have hF11 : ∀ j : Nat, (σ4.1 15 j).toInt = (σM.1 2 j).toInt := fun j => by rw [(hA7 15 j rfl).1]; exact hF j
  have hD12 : ∀ j : Nat, (σ4.1 16 j).toInt = (σM.1 3 j).toInt := fun j => by rw [(hA7 16 j rfl).1]; exact hD j
  have hSL13 : ∀ j : Nat, zl_R (σ4.1 37 j) (σM.1 24 j) := fun j => by rw [(hA7 37 j rfl).1]; exact hSL j
  have hSN14 : ∀ j : Nat, (σ4.1 38 j).toInt = (σM.1 25 j).toInt := fun j => by rw [(hA7 38 j rfl).1]; exact hSN j
  have hSC15 : zl_SC σ4 σM := hSC.x hA7 (fun _ => rfl) (fun _ => rfl)
  have hW16 : zl_W σ4 σM := hW.x hA7 rfl (fun _ => rfl) (fun _ => rfl) (fun _ => rfl) (fun _ => rfl)
  refine zr_pop hB dL_law_406 rfl ?_
  refine zr_aload_n hB 1 dL_law_407 rfl ?_
  refine zr_aload_n hB 3 dL_law_408 rfl ?_
  refine zr_iload_n hB 0 dL_law_409 rfl ?_
  refine zr_iconst hB dL_law_410 rfl (fun z17 hz17 => ?_)
  refine zr_iadd hB dL_law_411 (by omega) (by omega) (fun z18 hz18 => ?_)
  refine zl_sld hG (ni + 1) dL_law_412 (by omega) (by omega) ?_
  clear hz17 hz18
  refine zl_callM hG (As := [.int (zt_x Z (ni + 1))]) (rest := []) dL_law_413 wm_L_42 rfl (c_M_end (zl_K K (zt_M Z)) hG.2.2.2.2.2.2.2.2.2.2.1 σM (zt_x Z (ni + 1)) hOM ) rfl rfl (Nat.le_of_ble_eq_true rfl) ⟨(Nat.le_of_ble_eq_true rfl), (Nat.le_of_ble_eq_true rfl), rfl, rfl⟩ (fun r19 σ20 h21 => ?_)
  obtain ⟨hO22, hA23, r19a, r19b, g24⟩ := h21
  have hT25 := zm_T.ag hT hA23 rfl (fun _ => rfl) (fun _ => rfl)
  have hN26 : (σ4.1 1 0).toInt = (σ20.1 0 1).toInt := by rw [(hA23 0 1 rfl).1]; exact hN9
  have hL27 : (σ4.1 2 1).toInt = (σ20.1 0 6).toInt := by omega
  have hF28 : ∀ j : Nat, (σ4.1 15 j).toInt = (σ20.1 2 j).toInt := fun j => by rw [(hA23 2 j rfl).1]; exact hF11 j
  have hD29 : ∀ j : Nat, (σ4.1 16 j).toInt = (σ20.1 3 j).toInt := fun j => by rw [(hA23 3 j rfl).1]; exact hD12 j
  have hSL30 : ∀ j : Nat, zl_R (σ4.1 37 j) (σ20.1 24 j) := fun j => by rw [(hA23 24 j rfl).1]; exact hSL13 j
  have hSN31 : ∀ j : Nat, (σ4.1 38 j).toInt = (σ20.1 25 j).toInt := fun j => by rw [(hA23 25 j rfl).1]; exact hSN14 j
  have hSC32 : zl_SC σ4 σ20 := hSC15.m hA23 (fun _ => rfl)
  have hW33 : zl_W σ4 σ20 := hW16.m hA23 (fun _ => rfl) rfl
  refine zr_pop hB dL_law_416 rfl ?_
  refine zr_goto hB dL_law_417 (tgt := 1780) rfl ?_
  exact kk _ _ ⟨hO6, hO22, hT25, hN26, hL27, hF28, hD29, hSL30, hSN31, hSC32, hW33⟩

theorem lc_6 {K : zc_K} {G : zc_X} {Z : zl_T} (hG : zl_G K G Z) {σX σM : zc_S} {i : Int32} {ni : Nat} (hi : i.toInt = (ni : Int)) (h9 : ni + 9 ≤ zt_L Z) (hv : zl_v σX σM) (kk : ∀ σX' σM', zl_v σX' σM' → zc_V 4 K G (zl_I K G Z σX' σM') [(3, .int i), (2, .ref (zt_M Z 0)), (1, .ref (zt_X Z 0)), (0, .ref (zt_b Z))] 1780 []) : zc_V 4 K G (zl_I K G Z σX σM) [(3, .int i), (2, .ref (zt_M Z 0)), (1, .ref (zt_X Z 0)), (0, .ref (zt_b Z))] 420 [] := by
  obtain ⟨hOX, hOM, hT, hN, hL, hF, hD, hSL, hSN, hSC, hW⟩ := hv
  have hB := hG.1
  have hZ := hG.2.2.2.2.2.2.1
  refine zr_aload_n hB 2 dL_law_420 rfl ?_
  refine zl_callX hG (As := []) (rest := []) dL_law_421 wm_L_43 rfl (c_X8_text_0 (zl_K K (zt_X Z)) hG.2.2.2.2.2.2.2.2.2.1 σX  hOX ) rfl rfl (Nat.le_of_ble_eq_true rfl) ⟨(Nat.le_of_ble_eq_true rfl), (Nat.le_of_ble_eq_true rfl), rfl, rfl⟩ (fun r1 σ2 h3 => ?_)
  obtain ⟨hO4, hA5, r1a, r1b, g6⟩ := h3
  have hN7 : (σ2.1 1 0).toInt = (σM.1 0 1).toInt := by rw [(hA5 1 0 rfl).1]; exact hN
  have hF9 : ∀ j : Nat, (σ2.1 15 j).toInt = (σM.1 2 j).toInt := fun j => by rw [(hA5 15 j rfl).1]; exact hF j
  have hD10 : ∀ j : Nat, (σ2.1 16 j).toInt = (σM.1 3 j).toInt := fun j => by rw [(hA5 16 j rfl).1]; exact hD j
  have hSL11 : ∀ j : Nat, zl_R (σ2.1 37 j) (σM.1 24 j) := fun j => by rw [(hA5 37 j rfl).1]; exact hSL j
  have hSN12 : ∀ j : Nat, (σ2.1 38 j).toInt = (σM.1 25 j).toInt := fun j => by rw [(hA5 38 j rfl).1]; exact hSN j
  have hSC13 : zl_SC σ2 σM := hSC.x hA5 (fun _ => rfl) (fun _ => rfl)
  have hW14 : zl_W σ2 σM := hW.x hA5 rfl (fun _ => rfl) (fun _ => rfl) (fun _ => rfl) (fun _ => rfl)
  refine zr_pop hB dL_law_424 rfl ?_
  refine zr_aload_n hB 1 dL_law_425 rfl ?_
  refine zl_callM hG (As := []) (rest := []) dL_law_426 wm_L_47 rfl (c_M_text (zl_K K (zt_M Z)) hG.2.2.2.2.2.2.2.2.2.2.1 σM  hOM hT) rfl rfl (Nat.le_of_ble_eq_true rfl) ⟨(Nat.le_of_ble_eq_true rfl), (Nat.le_of_ble_eq_true rfl), rfl, rfl⟩ (fun r15 σ16 h17 => ?_)
  obtain ⟨hO18, hA19, r15a, r15b, g20, g21⟩ := h17
  have hT22 := g21
  have hN23 : (σ2.1 1 0).toInt = (σ16.1 0 1).toInt := by rw [(hA19 0 1 rfl).1]; exact hN7
  have hL24 : (σ2.1 2 1).toInt = (σ16.1 0 6).toInt := by omega
  have hF25 : ∀ j : Nat, (σ2.1 15 j).toInt = (σ16.1 2 j).toInt := fun j => by rw [(hA19 2 j rfl).1]; exact hF9 j
  have hD26 : ∀ j : Nat, (σ2.1 16 j).toInt = (σ16.1 3 j).toInt := fun j => by rw [(hA19 3 j rfl).1]; exact hD10 j
  have hSL27 : ∀ j : Nat, zl_R (σ2.1 37 j) (σ16.1 24 j) := fun j => by rw [(hA19 24 j rfl).1]; exact hSL11 j
  have hSN28 : ∀ j : Nat, (σ2.1 38 j).toInt = (σ16.1 25 j).toInt := fun j => by rw [(hA19 25 j rfl).1]; exact hSN12 j
  have hSC29 : zl_SC σ2 σ16 := hSC13.m hA19 (fun _ => rfl)
  have hW30 : zl_W σ2 σ16 := hW14.m hA19 (fun _ => rfl) rfl
  refine zr_pop hB dL_law_429 rfl ?_
  refine zr_goto hB dL_law_430 (tgt := 1780) rfl ?_
  exact kk _ _ ⟨hO4, hO18, hT22, hN23, hL24, hF25, hD26, hSL27, hSN28, hSC29, hW30⟩

theorem lc_7 {K : zc_K} {G : zc_X} {Z : zl_T} (hG : zl_G K G Z) {σX σM : zc_S} {i : Int32} {ni : Nat} (hi : i.toInt = (ni : Int)) (h9 : ni + 9 ≤ zt_L Z) (hv : zl_v σX σM) (kk : ∀ σX' σM', zl_v σX' σM' → zc_V 4 K G (zl_I K G Z σX' σM') [(3, .int i), (2, .ref (zt_M Z 0)), (1, .ref (zt_X Z 0)), (0, .ref (zt_b Z))] 1780 []) : zc_V 4 K G (zl_I K G Z σX σM) [(3, .int i), (2, .ref (zt_M Z 0)), (1, .ref (zt_X Z 0)), (0, .ref (zt_b Z))] 433 [] := by
  obtain ⟨hOX, hOM, hT, hN, hL, hF, hD, hSL, hSN, hSC, hW⟩ := hv
  have hB := hG.1
  have hZ := hG.2.2.2.2.2.2.1
  refine zr_aload_n hB 2 dL_law_433 rfl ?_
  refine zl_callX hG (As := []) (rest := []) dL_law_434 wm_L_48 rfl (c_X8_fault_0 (zl_K K (zt_X Z)) hG.2.2.2.2.2.2.2.2.2.1 σX  hOX ) rfl rfl (Nat.le_of_ble_eq_true rfl) ⟨(Nat.le_of_ble_eq_true rfl), (Nat.le_of_ble_eq_true rfl), rfl, rfl⟩ (fun r1 σ2 h3 => ?_)
  obtain ⟨rfl, r1a, r1b⟩ := h3
  refine zr_pop hB dL_law_437 rfl ?_
  refine zr_aload_n hB 1 dL_law_438 rfl ?_
  refine zl_callM hG (As := []) (rest := []) dL_law_439 wm_L_51 rfl (c_M_fault (zl_K K (zt_M Z)) hG.2.2.2.2.2.2.2.2.2.2.1 σM  hOM ) rfl rfl (Nat.le_of_ble_eq_true rfl) ⟨(Nat.le_of_ble_eq_true rfl), (Nat.le_of_ble_eq_true rfl), rfl, rfl⟩ (fun r4 σ5 h6 => ?_)
  obtain ⟨rfl, r4a, r4b⟩ := h6
  refine zr_pop hB dL_law_442 rfl ?_
  refine zr_goto hB dL_law_443 (tgt := 1780) rfl ?_
  exact kk _ _ ⟨hOX, hOM, hT, hN, hL, hF, hD, hSL, hSN, hSC, hW⟩

