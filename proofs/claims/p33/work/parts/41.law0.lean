def zl_v (σX σM : zc_S) : Prop := zc_O okX σX ∧ zc_O okM σM ∧ zm_T σM ∧ ((σX.1 1 0).toInt = (σM.1 0 1).toInt) ∧ ((σX.1 2 1).toInt = (σM.1 0 6).toInt) ∧ (∀ j : Nat, (σX.1 15 j).toInt = (σM.1 2 j).toInt) ∧ (∀ j : Nat, (σX.1 16 j).toInt = (σM.1 3 j).toInt) ∧ (∀ j : Nat, zl_R (σX.1 37 j) (σM.1 24 j)) ∧ (∀ j : Nat, (σX.1 38 j).toInt = (σM.1 25 j).toInt) ∧ (zl_SC σX σM) ∧ (zl_W σX σM) ∧ (zl_B σX σM) ∧ ((σX.1 2 3).toInt = (σM.1 0 7).toInt) ∧ (zl_E σX σM) ∧ (zw_K σM) ∧ (zl_N σX σM)
theorem lc_0 {K : zc_K} {G : zc_X} {Z : zl_T} (hG : zl_G K G Z) {σX σM : zc_S} {i : Int32} {ni : Nat} (hi : i.toInt = (ni : Int)) (h9 : ni + 9 ≤ zt_L Z) (hv : zl_v σX σM) (kk : ∀ σX' σM', zl_v σX' σM' → zc_V 4 K G (zl_I K G Z σX' σM') [(3, .int i), (2, .ref (zt_M Z 0)), (1, .ref (zt_X Z 0)), (0, .ref (zt_b Z))] 1780 []) : zc_V 4 K G (zl_I K G Z σX σM) [(3, .int i), (2, .ref (zt_M Z 0)), (1, .ref (zt_X Z 0)), (0, .ref (zt_b Z))] 176 [] := by
  obtain ⟨hOX, hOM, hT, hN, hL, hF, hD, hSL, hSN, hSC, hW, hBY, hFA, hE, hK, hNT⟩ := hv
  have hB := hG.1
  have hZ := hG.2.2.2.2.2.2.1
  refine zr_aload_n hB 2 dL_law_176 rfl ?_
  refine zr_aload_n hB 3 dL_law_177 rfl ?_
  refine zr_iload_n hB 0 dL_law_178 rfl ?_
  refine zr_iconst hB dL_law_179 rfl (fun z1 hz1 => ?_)
  refine zr_iadd hB dL_law_180 (by omega) (by omega) (fun z2 hz2 => ?_)
  refine zl_sld hG (ni + 1) dL_law_181 (by omega) (by omega) ?_
  clear hz1 hz2
  refine zl_callX hG (As := [.int (zt_x Z (ni + 1))]) (rest := []) dL_law_182 wm_L_13 rfl (c_X8_now_0 (zl_K K (zt_X Z)) hG.2.2.2.2.2.2.2.2.2.1 σX (zt_x Z (ni + 1)) hOX ) rfl rfl (Nat.le_of_ble_eq_true rfl) ⟨(Nat.le_of_ble_eq_true rfl), (Nat.le_of_ble_eq_true rfl), rfl, rfl⟩ (fun r3 σ4 h5 => ?_)
  obtain ⟨hO6, hA7, r3a, r3b, g8⟩ := h5
  have hL10 : (σ4.1 2 1).toInt = (σM.1 0 6).toInt := by rw [(hA7 2 1 rfl).1]; exact hL
  have hF11 : ∀ j : Nat, (σ4.1 15 j).toInt = (σM.1 2 j).toInt := fun j => by rw [(hA7 15 j rfl).1]; exact hF j
  have hD12 : ∀ j : Nat, (σ4.1 16 j).toInt = (σM.1 3 j).toInt := fun j => by rw [(hA7 16 j rfl).1]; exact hD j
  have hSL13 : ∀ j : Nat, zl_R (σ4.1 37 j) (σM.1 24 j) := fun j => by rw [(hA7 37 j rfl).1]; exact hSL j
  have hSN14 : ∀ j : Nat, (σ4.1 38 j).toInt = (σM.1 25 j).toInt := fun j => by rw [(hA7 38 j rfl).1]; exact hSN j
  have hSC15 : zl_SC σ4 σM := hSC.x hA7 (fun _ => rfl) (fun _ => rfl)
  have hW16 : zl_W σ4 σM := hW.x hA7 rfl (fun _ => rfl) (fun _ => rfl) (fun _ => rfl) (fun _ => rfl)
  have hBY17 : zl_B σ4 σM := hBY.x hA7 rfl (fun _ => rfl)
  have hFA18 : (σ4.1 2 3).toInt = (σM.1 0 7).toInt := by rw [(hA7 2 3 rfl).1]; exact hFA
  have hE19 : zl_E σ4 σM := hE.x hA7 rfl (fun _ => rfl) (fun _ => rfl) (fun _ => rfl)
  have hK20 : zw_K σM := hK
  have hNT21 : zl_N σ4 σM := hNT.x hA7 rfl (fun _ => rfl) (fun _ => rfl) (fun _ => rfl)
  refine zr_pop hB dL_law_185 rfl ?_
  refine zr_aload_n hB 1 dL_law_186 rfl ?_
  refine zr_aload_n hB 3 dL_law_187 rfl ?_
  refine zr_iload_n hB 0 dL_law_188 rfl ?_
  refine zr_iconst hB dL_law_189 rfl (fun z22 hz22 => ?_)
  refine zr_iadd hB dL_law_190 (by omega) (by omega) (fun z23 hz23 => ?_)
  refine zl_sld hG (ni + 1) dL_law_191 (by omega) (by omega) ?_
  clear hz22 hz23
  refine zl_callM hG (As := [.int (zt_x Z (ni + 1))]) (rest := []) dL_law_192 wm_L_17 rfl (c_M_now (zl_K K (zt_M Z)) hG.2.2.2.2.2.2.2.2.2.2.1 σM (zt_x Z (ni + 1)) hOM ) rfl rfl (Nat.le_of_ble_eq_true rfl) ⟨(Nat.le_of_ble_eq_true rfl), (Nat.le_of_ble_eq_true rfl), rfl, rfl⟩ (fun r24 σ25 h26 => ?_)
  obtain ⟨hO27, hA28, r24a, r24b, g29⟩ := h26
  have hT30 := zm_T.ag hT hA28 rfl (fun _ => rfl) (fun _ => rfl)
  have hN31 : (σ4.1 1 0).toInt = (σ25.1 0 1).toInt := by omega
  have hL32 : (σ4.1 2 1).toInt = (σ25.1 0 6).toInt := by rw [(hA28 0 6 rfl).1]; exact hL10
  have hF33 : ∀ j : Nat, (σ4.1 15 j).toInt = (σ25.1 2 j).toInt := fun j => by rw [(hA28 2 j rfl).1]; exact hF11 j
  have hD34 : ∀ j : Nat, (σ4.1 16 j).toInt = (σ25.1 3 j).toInt := fun j => by rw [(hA28 3 j rfl).1]; exact hD12 j
  have hSL35 : ∀ j : Nat, zl_R (σ4.1 37 j) (σ25.1 24 j) := fun j => by rw [(hA28 24 j rfl).1]; exact hSL13 j
  have hSN36 : ∀ j : Nat, (σ4.1 38 j).toInt = (σ25.1 25 j).toInt := fun j => by rw [(hA28 25 j rfl).1]; exact hSN14 j
  have hSC37 : zl_SC σ4 σ25 := hSC15.m hA28 (fun _ => rfl)
  have hW38 : zl_W σ4 σ25 := hW16.m hA28 (fun _ => rfl) rfl
  have hBY39 : zl_B σ4 σ25 := hBY17.m hA28 (fun _ => rfl)
  have hFA40 : (σ4.1 2 3).toInt = (σ25.1 0 7).toInt := by rw [(hA28 0 7 rfl).1]; exact hFA18
  have hE41 : zl_E σ4 σ25 := hE19.m hA28 rfl (fun _ => rfl) (fun _ => rfl) (fun _ => rfl)
  have hK42 : zw_K σ25 := zw_K.ag hK20 hA28 rfl (fun _ => rfl) (fun _ => rfl)
  have hNT43 : zl_N σ4 σ25 := hNT21.m hA28 rfl (fun _ => rfl) (fun _ => rfl) (fun _ => rfl)
  refine zr_pop hB dL_law_195 rfl ?_
  refine zr_goto hB dL_law_196 (tgt := 1780) rfl ?_
  exact kk _ _ ⟨hO6, hO27, hT30, hN31, hL32, hF33, hD34, hSL35, hSN36, hSC37, hW38, hBY39, hFA40, hE41, hK42, hNT43⟩

theorem lc_1 {K : zc_K} {G : zc_X} {Z : zl_T} (hG : zl_G K G Z) {σX σM : zc_S} {i : Int32} {ni : Nat} (hi : i.toInt = (ni : Int)) (h9 : ni + 9 ≤ zt_L Z) (hv : zl_v σX σM) (kk : ∀ σX' σM', zl_v σX' σM' → zc_V 4 K G (zl_I K G Z σX' σM') [(3, .int i), (2, .ref (zt_M Z 0)), (1, .ref (zt_X Z 0)), (0, .ref (zt_b Z))] 1780 []) : zc_V 4 K G (zl_I K G Z σX σM) [(3, .int i), (2, .ref (zt_M Z 0)), (1, .ref (zt_X Z 0)), (0, .ref (zt_b Z))] 199 [] := by
  obtain ⟨hOX, hOM, hT, hN, hL, hF, hD, hSL, hSN, hSC, hW, hBY, hFA, hE, hK, hNT⟩ := hv
  have hB := hG.1
  have hZ := hG.2.2.2.2.2.2.1
  refine zr_aload_n hB 2 dL_law_199 rfl ?_
  refine zr_aload_n hB 3 dL_law_200 rfl ?_
  refine zr_iload_n hB 0 dL_law_201 rfl ?_
  refine zr_iconst hB dL_law_202 rfl (fun z1 hz1 => ?_)
  refine zr_iadd hB dL_law_203 (by omega) (by omega) (fun z2 hz2 => ?_)
  refine zl_sld hG (ni + 1) dL_law_204 (by omega) (by omega) ?_
  clear hz1 hz2
  refine zr_aload_n hB 3 dL_law_205 rfl ?_
  refine zr_iload_n hB 0 dL_law_206 rfl ?_
  refine zr_iconst hB dL_law_207 rfl (fun z3 hz3 => ?_)
  refine zr_iadd hB dL_law_208 (by omega) (by omega) (fun z4 hz4 => ?_)
  refine zl_sld hG (ni + 2) dL_law_209 (by omega) (by omega) ?_
  clear hz3 hz4
  refine zr_aload_n hB 3 dL_law_210 rfl ?_
  refine zr_iload_n hB 0 dL_law_211 rfl ?_
  refine zr_iconst hB dL_law_212 rfl (fun z5 hz5 => ?_)
  refine zr_iadd hB dL_law_213 (by omega) (by omega) (fun z6 hz6 => ?_)
  refine zl_sld hG (ni + 3) dL_law_214 (by omega) (by omega) ?_
  clear hz5 hz6
  refine zl_callX hG (As := [.int (zt_x Z (ni + 1)), .int (zt_x Z (ni + 2)), .int (zt_x Z (ni + 3))]) (rest := []) dL_law_215 wm_L_18 rfl (c_X8_figure_0 (zl_K K (zt_X Z)) hG.2.2.2.2.2.2.2.2.2.1 σX (zt_x Z (ni + 1)) (zt_x Z (ni + 2)) (zt_x Z (ni + 3)) hOX ) rfl rfl (Nat.le_of_ble_eq_true rfl) ⟨(Nat.le_of_ble_eq_true rfl), (Nat.le_of_ble_eq_true rfl), rfl, rfl⟩ (fun r7 σ8 h9 => ?_)
  obtain ⟨hO10, hA11, r7a, r7b, g12⟩ := h9
  have hN13 : (σ8.1 1 0).toInt = (σM.1 0 1).toInt := by rw [(hA11 1 0 rfl).1]; exact hN
  have hL14 : (σ8.1 2 1).toInt = (σM.1 0 6).toInt := by rw [(hA11 2 1 rfl).1]; exact hL
  have hF15 : ∀ j : Nat, (σ8.1 15 j).toInt = (σM.1 2 j).toInt := fun j => by rw [(hA11 15 j rfl).1]; exact hF j
  have hD16 : ∀ j : Nat, (σ8.1 16 j).toInt = (σM.1 3 j).toInt := fun j => by rw [(hA11 16 j rfl).1]; exact hD j
  have hSL17 : ∀ j : Nat, zl_R (σ8.1 37 j) (σM.1 24 j) := fun j => by rw [(hA11 37 j rfl).1]; exact hSL j
  have hSN18 : ∀ j : Nat, (σ8.1 38 j).toInt = (σM.1 25 j).toInt := fun j => by rw [(hA11 38 j rfl).1]; exact hSN j
  have hSC19 : zl_SC σ8 σM := hSC.x hA11 (fun _ => rfl) (fun _ => rfl)
  have hBY21 : zl_B σ8 σM := hBY.x hA11 rfl (fun _ => rfl)
  have hFA22 : (σ8.1 2 3).toInt = (σM.1 0 7).toInt := by rw [(hA11 2 3 rfl).1]; exact hFA
  have hE23 : zl_E σ8 σM := hE.x hA11 rfl (fun _ => rfl) (fun _ => rfl) (fun _ => rfl)
  have hK24 : zw_K σM := hK
  have hNT25 : zl_N σ8 σM := hNT.x hA11 rfl (fun _ => rfl) (fun _ => rfl) (fun _ => rfl)
  refine zr_pop hB dL_law_218 rfl ?_
  refine zr_aload_n hB 1 dL_law_219 rfl ?_
  refine zr_aload_n hB 3 dL_law_220 rfl ?_
  refine zr_iload_n hB 0 dL_law_221 rfl ?_
  refine zr_iconst hB dL_law_222 rfl (fun z26 hz26 => ?_)
  refine zr_iadd hB dL_law_223 (by omega) (by omega) (fun z27 hz27 => ?_)
  refine zl_sld hG (ni + 1) dL_law_224 (by omega) (by omega) ?_
  clear hz26 hz27
  refine zr_aload_n hB 3 dL_law_225 rfl ?_
  refine zr_iload_n hB 0 dL_law_226 rfl ?_
  refine zr_iconst hB dL_law_227 rfl (fun z28 hz28 => ?_)
  refine zr_iadd hB dL_law_228 (by omega) (by omega) (fun z29 hz29 => ?_)
  refine zl_sld hG (ni + 2) dL_law_229 (by omega) (by omega) ?_
  clear hz28 hz29
  refine zr_aload_n hB 3 dL_law_230 rfl ?_
  refine zr_iload_n hB 0 dL_law_231 rfl ?_
  refine zr_iconst hB dL_law_232 rfl (fun z30 hz30 => ?_)
  refine zr_iadd hB dL_law_233 (by omega) (by omega) (fun z31 hz31 => ?_)
  refine zl_sld hG (ni + 3) dL_law_234 (by omega) (by omega) ?_
  clear hz30 hz31
  refine zl_callM hG (As := [.int (zt_x Z (ni + 1)), .int (zt_x Z (ni + 2)), .int (zt_x Z (ni + 3))]) (rest := []) dL_law_235 wm_L_22 rfl (c_M_figure (zl_K K (zt_M Z)) hG.2.2.2.2.2.2.2.2.2.2.1 σM (zt_x Z (ni + 1)) (zt_x Z (ni + 2)) (zt_x Z (ni + 3)) hOM ) rfl rfl (Nat.le_of_ble_eq_true rfl) ⟨(Nat.le_of_ble_eq_true rfl), (Nat.le_of_ble_eq_true rfl), rfl, rfl⟩ (fun r32 σ33 h34 => ?_)
  obtain ⟨hO35, hA36, r32a, r32b, g37⟩ := h34
  have hT38 := zm_T.ag hT hA36 rfl (fun _ => rfl) (fun _ => rfl)
  have hN39 : (σ8.1 1 0).toInt = (σ33.1 0 1).toInt := by rw [(hA36 0 1 rfl).1]; exact hN13
  have hL40 : (σ8.1 2 1).toInt = (σ33.1 0 6).toInt := by rw [(hA36 0 6 rfl).1]; exact hL14
  have hF41 : ∀ j : Nat, (σ8.1 15 j).toInt = (σ33.1 2 j).toInt := fun j => by rw [(hA36 2 j rfl).1]; exact hF15 j
  have hD42 : ∀ j : Nat, (σ8.1 16 j).toInt = (σ33.1 3 j).toInt := fun j => by rw [(hA36 3 j rfl).1]; exact hD16 j
  have hSL43 : ∀ j : Nat, zl_R (σ8.1 37 j) (σ33.1 24 j) := fun j => by rw [(hA36 24 j rfl).1]; exact hSL17 j
  have hSN44 : ∀ j : Nat, (σ8.1 38 j).toInt = (σ33.1 25 j).toInt := fun j => by rw [(hA36 25 j rfl).1]; exact hSN18 j
  have hSC45 : zl_SC σ8 σ33 := hSC19.m hA36 (fun _ => rfl)
  have hW46 : zl_W σ8 σ33 := by have t9 : (σX.1 1 1).toInt ≤ 200 := (hOX 1 1).2.1; have u9 := hW.2.1; rcases g12 with ⟨a1, a2, a3⟩ | ⟨a1, a2, a0, a3⟩ | ⟨a1, a2, a0, a3⟩ <;> rcases g37 with ⟨b1, b2, b3⟩ | ⟨b1, b2, b0, b3⟩ | ⟨b1, b2, b0, b3⟩ <;> first | (exfalso; omega) | (rw [a3, b3]; exact hW) | (rcases b3 with ⟨c1, c2⟩ | ⟨c1, c2⟩ <;> exact zl_fig hW hN a3 c2 (by split <;> omega))
  have hBY47 : zl_B σ8 σ33 := hBY21.m hA36 (fun _ => rfl)
  have hFA48 : (σ8.1 2 3).toInt = (σ33.1 0 7).toInt := by rw [(hA36 0 7 rfl).1]; exact hFA22
  have hE49 : zl_E σ8 σ33 := hE23.m hA36 rfl (fun _ => rfl) (fun _ => rfl) (fun _ => rfl)
  have hK50 : zw_K σ33 := zw_K.ag hK24 hA36 rfl (fun _ => rfl) (fun _ => rfl)
  have hNT51 : zl_N σ8 σ33 := hNT25.m hA36 rfl (fun _ => rfl) (fun _ => rfl) (fun _ => rfl)
  refine zr_pop hB dL_law_238 rfl ?_
  refine zr_goto hB dL_law_239 (tgt := 1780) rfl ?_
  exact kk _ _ ⟨hO10, hO35, hT38, hN39, hL40, hF41, hD42, hSL43, hSN44, hSC45, hW46, hBY47, hFA48, hE49, hK50, hNT51⟩

theorem lc_2 {K : zc_K} {G : zc_X} {Z : zl_T} (hG : zl_G K G Z) {σX σM : zc_S} {i : Int32} {ni : Nat} (hi : i.toInt = (ni : Int)) (h9 : ni + 9 ≤ zt_L Z) (hv : zl_v σX σM) (kk : ∀ σX' σM', zl_v σX' σM' → zc_V 4 K G (zl_I K G Z σX' σM') [(3, .int i), (2, .ref (zt_M Z 0)), (1, .ref (zt_X Z 0)), (0, .ref (zt_b Z))] 1780 []) : zc_V 4 K G (zl_I K G Z σX σM) [(3, .int i), (2, .ref (zt_M Z 0)), (1, .ref (zt_X Z 0)), (0, .ref (zt_b Z))] 242 [] := by
  obtain ⟨hOX, hOM, hT, hN, hL, hF, hD, hSL, hSN, hSC, hW, hBY, hFA, hE, hK, hNT⟩ := hv
  have hB := hG.1
  have hZ := hG.2.2.2.2.2.2.1
  refine zr_aload_n hB 2 dL_law_242 rfl ?_
  refine zr_aload_n hB 3 dL_law_243 rfl ?_
  refine zr_iload_n hB 0 dL_law_244 rfl ?_
  refine zr_iconst hB dL_law_245 rfl (fun z1 hz1 => ?_)
  refine zr_iadd hB dL_law_246 (by omega) (by omega) (fun z2 hz2 => ?_)
  refine zl_sld hG (ni + 1) dL_law_247 (by omega) (by omega) ?_
  clear hz1 hz2
  refine zr_aload_n hB 3 dL_law_248 rfl ?_
  refine zr_iload_n hB 0 dL_law_249 rfl ?_
  refine zr_iconst hB dL_law_250 rfl (fun z3 hz3 => ?_)
  refine zr_iadd hB dL_law_251 (by omega) (by omega) (fun z4 hz4 => ?_)
  refine zl_sld hG (ni + 2) dL_law_252 (by omega) (by omega) ?_
  clear hz3 hz4
  refine zr_aload_n hB 3 dL_law_253 rfl ?_
  refine zr_iload_n hB 0 dL_law_254 rfl ?_
  refine zr_iconst hB dL_law_255 rfl (fun z5 hz5 => ?_)
  refine zr_iadd hB dL_law_256 (by omega) (by omega) (fun z6 hz6 => ?_)
  refine zl_sld hG (ni + 3) dL_law_257 (by omega) (by omega) ?_
  clear hz5 hz6
  refine zl_callX hG (As := [.int (zt_x Z (ni + 1)), .int (zt_x Z (ni + 2)), .int (zt_x Z (ni + 3))]) (rest := []) dL_law_258 wm_L_23 rfl (c_X8_known_0 (zl_K K (zt_X Z)) hG.2.2.2.2.2.2.2.2.2.1 σX (zt_x Z (ni + 1)) (zt_x Z (ni + 2)) (zt_x Z (ni + 3)) hOX ) rfl rfl (Nat.le_of_ble_eq_true rfl) ⟨(Nat.le_of_ble_eq_true rfl), (Nat.le_of_ble_eq_true rfl), rfl, rfl⟩ (fun r7 σ8 h9 => ?_)
  obtain ⟨rfl, r7a, r7b, g10⟩ := h9
  refine zr_pop hB dL_law_261 rfl ?_
  refine zr_aload_n hB 1 dL_law_262 rfl ?_
  refine zr_aload_n hB 3 dL_law_263 rfl ?_
  refine zr_iload_n hB 0 dL_law_264 rfl ?_
  refine zr_iconst hB dL_law_265 rfl (fun z11 hz11 => ?_)
  refine zr_iadd hB dL_law_266 (by omega) (by omega) (fun z12 hz12 => ?_)
  refine zl_sld hG (ni + 1) dL_law_267 (by omega) (by omega) ?_
  clear hz11 hz12
  refine zr_aload_n hB 3 dL_law_268 rfl ?_
  refine zr_iload_n hB 0 dL_law_269 rfl ?_
  refine zr_iconst hB dL_law_270 rfl (fun z13 hz13 => ?_)
  refine zr_iadd hB dL_law_271 (by omega) (by omega) (fun z14 hz14 => ?_)
  refine zl_sld hG (ni + 2) dL_law_272 (by omega) (by omega) ?_
  clear hz13 hz14
  refine zr_aload_n hB 3 dL_law_273 rfl ?_
  refine zr_iload_n hB 0 dL_law_274 rfl ?_
  refine zr_iconst hB dL_law_275 rfl (fun z15 hz15 => ?_)
  refine zr_iadd hB dL_law_276 (by omega) (by omega) (fun z16 hz16 => ?_)
  refine zl_sld hG (ni + 3) dL_law_277 (by omega) (by omega) ?_
  clear hz15 hz16
  refine zl_callM hG (As := [.int (zt_x Z (ni + 1)), .int (zt_x Z (ni + 2)), .int (zt_x Z (ni + 3))]) (rest := []) dL_law_278 wm_L_26 rfl (c_M_known (zl_K K (zt_M Z)) hG.2.2.2.2.2.2.2.2.2.2.1 σM (zt_x Z (ni + 1)) (zt_x Z (ni + 2)) (zt_x Z (ni + 3)) hOM ) rfl rfl (Nat.le_of_ble_eq_true rfl) ⟨(Nat.le_of_ble_eq_true rfl), (Nat.le_of_ble_eq_true rfl), rfl, rfl⟩ (fun r17 σ18 h19 => ?_)
  obtain ⟨rfl, r17a, r17b, g20⟩ := h19
  refine zr_pop hB dL_law_281 rfl ?_
  refine zr_goto hB dL_law_282 (tgt := 1780) rfl ?_
  exact kk _ _ ⟨hOX, hOM, hT, hN, hL, hF, hD, hSL, hSN, hSC, hW, hBY, hFA, hE, hK, hNT⟩

theorem lc_3 {K : zc_K} {G : zc_X} {Z : zl_T} (hG : zl_G K G Z) {σX σM : zc_S} {i : Int32} {ni : Nat} (hi : i.toInt = (ni : Int)) (h9 : ni + 9 ≤ zt_L Z) (hv : zl_v σX σM) (kk : ∀ σX' σM', zl_v σX' σM' → zc_V 4 K G (zl_I K G Z σX' σM') [(3, .int i), (2, .ref (zt_M Z 0)), (1, .ref (zt_X Z 0)), (0, .ref (zt_b Z))] 1780 []) : zc_V 4 K G (zl_I K G Z σX σM) [(3, .int i), (2, .ref (zt_M Z 0)), (1, .ref (zt_X Z 0)), (0, .ref (zt_b Z))] 285 [] := by
  obtain ⟨hOX, hOM, hT, hN, hL, hF, hD, hSL, hSN, hSC, hW, hBY, hFA, hE, hK, hNT⟩ := hv
  have hB := hG.1
  have hZ := hG.2.2.2.2.2.2.1
  refine zr_aload_n hB 2 dL_law_285 rfl ?_
  refine zr_aload_n hB 3 dL_law_286 rfl ?_
  refine zr_iload_n hB 0 dL_law_287 rfl ?_
  refine zr_iconst hB dL_law_288 rfl (fun z1 hz1 => ?_)
  refine zr_iadd hB dL_law_289 (by omega) (by omega) (fun z2 hz2 => ?_)
  refine zl_sld hG (ni + 1) dL_law_290 (by omega) (by omega) ?_
  clear hz1 hz2
  refine zr_aload_n hB 3 dL_law_291 rfl ?_
  refine zr_iload_n hB 0 dL_law_292 rfl ?_
  refine zr_iconst hB dL_law_293 rfl (fun z3 hz3 => ?_)
  refine zr_iadd hB dL_law_294 (by omega) (by omega) (fun z4 hz4 => ?_)
  refine zl_sld hG (ni + 2) dL_law_295 (by omega) (by omega) ?_
  clear hz3 hz4
  refine zr_aload_n hB 3 dL_law_296 rfl ?_
  refine zr_iload_n hB 0 dL_law_297 rfl ?_
  refine zr_iconst hB dL_law_298 rfl (fun z5 hz5 => ?_)
  refine zr_iadd hB dL_law_299 (by omega) (by omega) (fun z6 hz6 => ?_)
  refine zl_sld hG (ni + 3) dL_law_300 (by omega) (by omega) ?_
  clear hz5 hz6
  refine zr_if_eq hB dL_law_301 (tgt := 308) rfl (fun h7 => ?_) (fun h7 => ?_)
  · skip
    refine zr_iconst hB dL_law_308 rfl (fun z8 hz8 => ?_)
    refine zl_callX hG (As := [.int (zt_x Z (ni + 1)), .int (zt_x Z (ni + 2)), .int z8]) (rest := []) dL_law_309 wm_L_27 rfl (c_X8_mark_0 (zl_K K (zt_X Z)) hG.2.2.2.2.2.2.2.2.2.1 σX (zt_x Z (ni + 1)) (zt_x Z (ni + 2)) z8 hOX (by omega) (by omega)) rfl rfl (Nat.le_of_ble_eq_true rfl) ⟨(Nat.le_of_ble_eq_true rfl), (Nat.le_of_ble_eq_true rfl), rfl, rfl⟩ (fun r9 σ10 h11 => ?_)
    obtain ⟨hO12, hA13, r9a, r9b, g14⟩ := h11
    have hN15 : (σ10.1 1 0).toInt = (σM.1 0 1).toInt := by rw [(hA13 1 0 rfl).1]; exact hN
    have hL16 : (σ10.1 2 1).toInt = (σM.1 0 6).toInt := by rw [(hA13 2 1 rfl).1]; exact hL
    have hSL19 : ∀ j : Nat, zl_R (σ10.1 37 j) (σM.1 24 j) := fun j => by rw [(hA13 37 j rfl).1]; exact hSL j
    have hSN20 : ∀ j : Nat, (σ10.1 38 j).toInt = (σM.1 25 j).toInt := fun j => by rw [(hA13 38 j rfl).1]; exact hSN j
    have hSC21 : zl_SC σ10 σM := hSC.x hA13 (fun _ => rfl) (fun _ => rfl)
    have hW22 : zl_W σ10 σM := hW.x hA13 rfl (fun _ => rfl) (fun _ => rfl) (fun _ => rfl) (fun _ => rfl)
    have hBY23 : zl_B σ10 σM := hBY.x hA13 rfl (fun _ => rfl)
    have hFA24 : (σ10.1 2 3).toInt = (σM.1 0 7).toInt := by rw [(hA13 2 3 rfl).1]; exact hFA
    have hE25 : zl_E σ10 σM := hE.x hA13 rfl (fun _ => rfl) (fun _ => rfl) (fun _ => rfl)
    have hK26 : zw_K σM := hK
    have hNT27 : zl_N σ10 σM := hNT.x hA13 rfl (fun _ => rfl) (fun _ => rfl) (fun _ => rfl)
    refine zr_pop hB dL_law_312 rfl ?_
    refine zr_aload_n hB 1 dL_law_313 rfl ?_
    refine zr_aload_n hB 3 dL_law_314 rfl ?_
    refine zr_iload_n hB 0 dL_law_315 rfl ?_
    refine zr_iconst hB dL_law_316 rfl (fun z28 hz28 => ?_)
    refine zr_iadd hB dL_law_317 (by omega) (by omega) (fun z29 hz29 => ?_)
    refine zl_sld hG (ni + 1) dL_law_318 (by omega) (by omega) ?_
    clear hz28 hz29
    refine zr_aload_n hB 3 dL_law_319 rfl ?_
    refine zr_iload_n hB 0 dL_law_320 rfl ?_
    refine zr_iconst hB dL_law_321 rfl (fun z30 hz30 => ?_)
    refine zr_iadd hB dL_law_322 (by omega) (by omega) (fun z31 hz31 => ?_)
    refine zl_sld hG (ni + 2) dL_law_323 (by omega) (by omega) ?_
    clear hz30 hz31
    refine zr_aload_n hB 3 dL_law_324 rfl ?_
    refine zr_iload_n hB 0 dL_law_325 rfl ?_
    refine zr_iconst hB dL_law_326 rfl (fun z32 hz32 => ?_)
    refine zr_iadd hB dL_law_327 (by omega) (by omega) (fun z33 hz33 => ?_)
    refine zl_sld hG (ni + 3) dL_law_328 (by omega) (by omega) ?_
    clear hz32 hz33
    refine zr_if_eq hB dL_law_329 (tgt := 336) rfl (fun h35 => ?_) (fun h35 => absurd h7 h35)
    refine zr_iconst hB dL_law_336 rfl (fun z36 hz36 => ?_)
    refine zl_callM hG (As := [.int (zt_x Z (ni + 1)), .int (zt_x Z (ni + 2)), .int z36]) (rest := []) dL_law_337 wm_L_31 rfl (c_M_mark (zl_K K (zt_M Z)) hG.2.2.2.2.2.2.2.2.2.2.1 σM (zt_x Z (ni + 1)) (zt_x Z (ni + 2)) z36 hOM (by omega) (by omega)) rfl rfl (Nat.le_of_ble_eq_true rfl) ⟨(Nat.le_of_ble_eq_true rfl), (Nat.le_of_ble_eq_true rfl), rfl, rfl⟩ (fun r37 σ38 h39 => ?_)
    obtain ⟨hO40, hA41, r37a, r37b, g42⟩ := h39
    have hT43 := zm_T.ag hT hA41 rfl (fun _ => rfl) (fun _ => rfl)
    have hN44 : (σ10.1 1 0).toInt = (σ38.1 0 1).toInt := by rw [(hA41 0 1 rfl).1]; exact hN15
    have hL45 : (σ10.1 2 1).toInt = (σ38.1 0 6).toInt := by rw [(hA41 0 6 rfl).1]; exact hL16
    have hF46 : ∀ j : Nat, (σ10.1 15 j).toInt = (σ38.1 2 j).toInt := by rcases g14 with ⟨a1, a2, a3⟩ | ⟨a1, a2, a0, a4, a3⟩ | ⟨a1, a2, a0, a4, a3⟩ <;> rcases g42 with ⟨b1, b2, b3⟩ | ⟨b1, b2, b0, b4, b3⟩ | ⟨b1, b2, b0, b4, b3⟩ <;> first | (exfalso; omega) | (rw [a3, b3]; exact hF) | (rw [a3, b3]; exact zl_fu hF (by omega)) | (rw [a3, b3]; exact zl_fn hF (by decide) (by decide))
    have hD47 : ∀ j : Nat, (σ10.1 16 j).toInt = (σ38.1 3 j).toInt := by rcases g14 with ⟨a1, a2, a3⟩ | ⟨a1, a2, a0, a4, a3⟩ | ⟨a1, a2, a0, a4, a3⟩ <;> rcases g42 with ⟨b1, b2, b3⟩ | ⟨b1, b2, b0, b4, b3⟩ | ⟨b1, b2, b0, b4, b3⟩ <;> first | (exfalso; omega) | (rw [a3, b3]; exact hD) | (rw [a3, b3]; exact zl_fu hD (by omega)) | (rw [a3, b3]; exact zl_fn hD (by decide) (by decide))
    have hSL48 : ∀ j : Nat, zl_R (σ10.1 37 j) (σ38.1 24 j) := fun j => by rw [(hA41 24 j rfl).1]; exact hSL19 j
    have hSN49 : ∀ j : Nat, (σ10.1 38 j).toInt = (σ38.1 25 j).toInt := fun j => by rw [(hA41 25 j rfl).1]; exact hSN20 j
    have hSC50 : zl_SC σ10 σ38 := hSC21.m hA41 (fun _ => rfl)
    have hW51 : zl_W σ10 σ38 := hW22.m hA41 (fun _ => rfl) rfl
    have hBY52 : zl_B σ10 σ38 := hBY23.m hA41 (fun _ => rfl)
    have hFA53 : (σ10.1 2 3).toInt = (σ38.1 0 7).toInt := by rw [(hA41 0 7 rfl).1]; exact hFA24
    have hE54 : zl_E σ10 σ38 := hE25.m hA41 rfl (fun _ => rfl) (fun _ => rfl) (fun _ => rfl)
    have hK55 : zw_K σ38 := zw_K.ag hK26 hA41 rfl (fun _ => rfl) (fun _ => rfl)
    have hNT56 : zl_N σ10 σ38 := hNT27.m hA41 rfl (fun _ => rfl) (fun _ => rfl) (fun _ => rfl)
    refine zr_pop hB dL_law_340 rfl ?_
    refine zr_goto hB dL_law_341 (tgt := 1780) rfl ?_
    exact kk _ _ ⟨hO12, hO40, hT43, hN44, hL45, hF46, hD47, hSL48, hSN49, hSC50, hW51, hBY52, hFA53, hE54, hK55, hNT56⟩
  · skip
    refine zr_iconst hB dL_law_304 rfl (fun z57 hz57 => ?_)
    refine zr_goto hB dL_law_305 (tgt := 309) rfl ?_
    refine zl_callX hG (As := [.int (zt_x Z (ni + 1)), .int (zt_x Z (ni + 2)), .int z57]) (rest := []) dL_law_309 wm_L_27 rfl (c_X8_mark_0 (zl_K K (zt_X Z)) hG.2.2.2.2.2.2.2.2.2.1 σX (zt_x Z (ni + 1)) (zt_x Z (ni + 2)) z57 hOX (by omega) (by omega)) rfl rfl (Nat.le_of_ble_eq_true rfl) ⟨(Nat.le_of_ble_eq_true rfl), (Nat.le_of_ble_eq_true rfl), rfl, rfl⟩ (fun r58 σ59 h60 => ?_)
    obtain ⟨hO61, hA62, r58a, r58b, g63⟩ := h60
    have hN64 : (σ59.1 1 0).toInt = (σM.1 0 1).toInt := by rw [(hA62 1 0 rfl).1]; exact hN
    have hL65 : (σ59.1 2 1).toInt = (σM.1 0 6).toInt := by rw [(hA62 2 1 rfl).1]; exact hL
    have hSL68 : ∀ j : Nat, zl_R (σ59.1 37 j) (σM.1 24 j) := fun j => by rw [(hA62 37 j rfl).1]; exact hSL j
    have hSN69 : ∀ j : Nat, (σ59.1 38 j).toInt = (σM.1 25 j).toInt := fun j => by rw [(hA62 38 j rfl).1]; exact hSN j
    have hSC70 : zl_SC σ59 σM := hSC.x hA62 (fun _ => rfl) (fun _ => rfl)
    have hW71 : zl_W σ59 σM := hW.x hA62 rfl (fun _ => rfl) (fun _ => rfl) (fun _ => rfl) (fun _ => rfl)
    have hBY72 : zl_B σ59 σM := hBY.x hA62 rfl (fun _ => rfl)
    have hFA73 : (σ59.1 2 3).toInt = (σM.1 0 7).toInt := by rw [(hA62 2 3 rfl).1]; exact hFA
    have hE74 : zl_E σ59 σM := hE.x hA62 rfl (fun _ => rfl) (fun _ => rfl) (fun _ => rfl)
    have hK75 : zw_K σM := hK
    have hNT76 : zl_N σ59 σM := hNT.x hA62 rfl (fun _ => rfl) (fun _ => rfl) (fun _ => rfl)
    refine zr_pop hB dL_law_312 rfl ?_
    refine zr_aload_n hB 1 dL_law_313 rfl ?_
    refine zr_aload_n hB 3 dL_law_314 rfl ?_
    refine zr_iload_n hB 0 dL_law_315 rfl ?_
    refine zr_iconst hB dL_law_316 rfl (fun z77 hz77 => ?_)
    refine zr_iadd hB dL_law_317 (by omega) (by omega) (fun z78 hz78 => ?_)
    refine zl_sld hG (ni + 1) dL_law_318 (by omega) (by omega) ?_
    clear hz77 hz78
    refine zr_aload_n hB 3 dL_law_319 rfl ?_
    refine zr_iload_n hB 0 dL_law_320 rfl ?_
    refine zr_iconst hB dL_law_321 rfl (fun z79 hz79 => ?_)
    refine zr_iadd hB dL_law_322 (by omega) (by omega) (fun z80 hz80 => ?_)
    refine zl_sld hG (ni + 2) dL_law_323 (by omega) (by omega) ?_
    clear hz79 hz80
    refine zr_aload_n hB 3 dL_law_324 rfl ?_
    refine zr_iload_n hB 0 dL_law_325 rfl ?_
    refine zr_iconst hB dL_law_326 rfl (fun z81 hz81 => ?_)
    refine zr_iadd hB dL_law_327 (by omega) (by omega) (fun z82 hz82 => ?_)
    refine zl_sld hG (ni + 3) dL_law_328 (by omega) (by omega) ?_
    clear hz81 hz82
    refine zr_if_eq hB dL_law_329 (tgt := 336) rfl (fun h84 => absurd h84 h7) (fun h84 => ?_)
    refine zr_iconst hB dL_law_332 rfl (fun z85 hz85 => ?_)
    refine zr_goto hB dL_law_333 (tgt := 337) rfl ?_
    refine zl_callM hG (As := [.int (zt_x Z (ni + 1)), .int (zt_x Z (ni + 2)), .int z85]) (rest := []) dL_law_337 wm_L_31 rfl (c_M_mark (zl_K K (zt_M Z)) hG.2.2.2.2.2.2.2.2.2.2.1 σM (zt_x Z (ni + 1)) (zt_x Z (ni + 2)) z85 hOM (by omega) (by omega)) rfl rfl (Nat.le_of_ble_eq_true rfl) ⟨(Nat.le_of_ble_eq_true rfl), (Nat.le_of_ble_eq_true rfl), rfl, rfl⟩ (fun r86 σ87 h88 => ?_)
    obtain ⟨hO89, hA90, r86a, r86b, g91⟩ := h88
    have hT92 := zm_T.ag hT hA90 rfl (fun _ => rfl) (fun _ => rfl)
    have hN93 : (σ59.1 1 0).toInt = (σ87.1 0 1).toInt := by rw [(hA90 0 1 rfl).1]; exact hN64
    have hL94 : (σ59.1 2 1).toInt = (σ87.1 0 6).toInt := by rw [(hA90 0 6 rfl).1]; exact hL65
    have hF95 : ∀ j : Nat, (σ59.1 15 j).toInt = (σ87.1 2 j).toInt := by rcases g63 with ⟨a1, a2, a3⟩ | ⟨a1, a2, a0, a4, a3⟩ | ⟨a1, a2, a0, a4, a3⟩ <;> rcases g91 with ⟨b1, b2, b3⟩ | ⟨b1, b2, b0, b4, b3⟩ | ⟨b1, b2, b0, b4, b3⟩ <;> first | (exfalso; omega) | (rw [a3, b3]; exact hF) | (rw [a3, b3]; exact zl_fu hF (by omega)) | (rw [a3, b3]; exact zl_fn hF (by decide) (by decide))
    have hD96 : ∀ j : Nat, (σ59.1 16 j).toInt = (σ87.1 3 j).toInt := by rcases g63 with ⟨a1, a2, a3⟩ | ⟨a1, a2, a0, a4, a3⟩ | ⟨a1, a2, a0, a4, a3⟩ <;> rcases g91 with ⟨b1, b2, b3⟩ | ⟨b1, b2, b0, b4, b3⟩ | ⟨b1, b2, b0, b4, b3⟩ <;> first | (exfalso; omega) | (rw [a3, b3]; exact hD) | (rw [a3, b3]; exact zl_fu hD (by omega)) | (rw [a3, b3]; exact zl_fn hD (by decide) (by decide))
    have hSL97 : ∀ j : Nat, zl_R (σ59.1 37 j) (σ87.1 24 j) := fun j => by rw [(hA90 24 j rfl).1]; exact hSL68 j
    have hSN98 : ∀ j : Nat, (σ59.1 38 j).toInt = (σ87.1 25 j).toInt := fun j => by rw [(hA90 25 j rfl).1]; exact hSN69 j
    have hSC99 : zl_SC σ59 σ87 := hSC70.m hA90 (fun _ => rfl)
    have hW100 : zl_W σ59 σ87 := hW71.m hA90 (fun _ => rfl) rfl
    have hBY101 : zl_B σ59 σ87 := hBY72.m hA90 (fun _ => rfl)
    have hFA102 : (σ59.1 2 3).toInt = (σ87.1 0 7).toInt := by rw [(hA90 0 7 rfl).1]; exact hFA73
    have hE103 : zl_E σ59 σ87 := hE74.m hA90 rfl (fun _ => rfl) (fun _ => rfl) (fun _ => rfl)
    have hK104 : zw_K σ87 := zw_K.ag hK75 hA90 rfl (fun _ => rfl) (fun _ => rfl)
    have hNT105 : zl_N σ59 σ87 := hNT76.m hA90 rfl (fun _ => rfl) (fun _ => rfl) (fun _ => rfl)
    refine zr_pop hB dL_law_340 rfl ?_
    refine zr_goto hB dL_law_341 (tgt := 1780) rfl ?_
    exact kk _ _ ⟨hO61, hO89, hT92, hN93, hL94, hF95, hD96, hSL97, hSN98, hSC99, hW100, hBY101, hFA102, hE103, hK104, hNT105⟩

theorem lc_4 {K : zc_K} {G : zc_X} {Z : zl_T} (hG : zl_G K G Z) {σX σM : zc_S} {i : Int32} {ni : Nat} (hi : i.toInt = (ni : Int)) (h9 : ni + 9 ≤ zt_L Z) (hv : zl_v σX σM) (kk : ∀ σX' σM', zl_v σX' σM' → zc_V 4 K G (zl_I K G Z σX' σM') [(3, .int i), (2, .ref (zt_M Z 0)), (1, .ref (zt_X Z 0)), (0, .ref (zt_b Z))] 1780 []) : zc_V 4 K G (zl_I K G Z σX σM) [(3, .int i), (2, .ref (zt_M Z 0)), (1, .ref (zt_X Z 0)), (0, .ref (zt_b Z))] 344 [] := by
  obtain ⟨hOX, hOM, hT, hN, hL, hF, hD, hSL, hSN, hSC, hW, hBY, hFA, hE, hK, hNT⟩ := hv
  have hB := hG.1
  have hZ := hG.2.2.2.2.2.2.1
  refine zr_aload_n hB 2 dL_law_344 rfl ?_
  refine zr_aload_n hB 3 dL_law_345 rfl ?_
  refine zr_iload_n hB 0 dL_law_346 rfl ?_
  refine zr_iconst hB dL_law_347 rfl (fun z1 hz1 => ?_)
  refine zr_iadd hB dL_law_348 (by omega) (by omega) (fun z2 hz2 => ?_)
  refine zl_sld hG (ni + 1) dL_law_349 (by omega) (by omega) ?_
  clear hz1 hz2
  refine zr_i2l hB dL_law_350 (fun l3 hl3 => ?_)
  refine zr_bipush hB dL_law_351 rfl (fun z4 hz4 => ?_)
  refine zr_lshl hB dL_law_353 (fun l5 hl5 => ?_)
  refine zr_aload_n hB 3 dL_law_354 rfl ?_
  refine zr_iload_n hB 0 dL_law_355 rfl ?_
  refine zr_iconst hB dL_law_356 rfl (fun z6 hz6 => ?_)
  refine zr_iadd hB dL_law_357 (by omega) (by omega) (fun z7 hz7 => ?_)
  refine zl_sld hG (ni + 2) dL_law_358 (by omega) (by omega) ?_
  clear hz6 hz7
  refine zr_i2l hB dL_law_359 (fun l8 hl8 => ?_)
  refine zr_ldc2 hB dL_law_360 wc_L_32 rfl (fun l9 hl9 => ?_)
  refine zr_land hB dL_law_363 (fun l10 hl10 => ?_)
  refine zr_lor hB dL_law_364 (fun l11 hl11 => ?_)
  refine zl_callX hG (As := [.long l11]) (rest := []) dL_law_365 wm_L_34 rfl (c_X8_feed_0 (zl_K K (zt_X Z)) hG.2.2.2.2.2.2.2.2.2.1 σX l11 hOX ) rfl rfl (Nat.le_of_ble_eq_true rfl) ⟨(Nat.le_of_ble_eq_true rfl), (Nat.le_of_ble_eq_true rfl), rfl, rfl⟩ (fun r12 σ13 h14 => ?_)
  obtain ⟨hO15, hA16, r12a, r12b, g17, g18⟩ := h14
  have hN19 : (σ13.1 1 0).toInt = (σM.1 0 1).toInt := by rw [(hA16 1 0 rfl).1]; exact hN
  have hF21 : ∀ j : Nat, (σ13.1 15 j).toInt = (σM.1 2 j).toInt := fun j => by rw [(hA16 15 j rfl).1]; exact hF j
  have hD22 : ∀ j : Nat, (σ13.1 16 j).toInt = (σM.1 3 j).toInt := fun j => by rw [(hA16 16 j rfl).1]; exact hD j
  have hSL23 : ∀ j : Nat, zl_R (σ13.1 37 j) (σM.1 24 j) := fun j => by rw [(hA16 37 j rfl).1]; exact hSL j
  have hSN24 : ∀ j : Nat, (σ13.1 38 j).toInt = (σM.1 25 j).toInt := fun j => by rw [(hA16 38 j rfl).1]; exact hSN j
  have hSC25 : zl_SC σ13 σM := hSC.x hA16 (fun _ => rfl) (fun _ => rfl)
  have hW26 : zl_W σ13 σM := hW.x hA16 rfl (fun _ => rfl) (fun _ => rfl) (fun _ => rfl) (fun _ => rfl)
  have hFA28 : (σ13.1 2 3).toInt = (σM.1 0 7).toInt := by rw [(hA16 2 3 rfl).1]; exact hFA
  have hE29 : zl_E σ13 σM := hE.x hA16 rfl (fun _ => rfl) (fun _ => rfl) (fun _ => rfl)
  have hK30 : zw_K σM := hK
  have hNT31 : zl_N σ13 σM := hNT.x hA16 rfl (fun _ => rfl) (fun _ => rfl) (fun _ => rfl)
  refine zr_pop hB dL_law_368 rfl ?_
  refine zr_aload_n hB 1 dL_law_369 rfl ?_
  refine zr_aload_n hB 3 dL_law_370 rfl ?_
  refine zr_iload_n hB 0 dL_law_371 rfl ?_
  refine zr_iconst hB dL_law_372 rfl (fun z32 hz32 => ?_)
  refine zr_iadd hB dL_law_373 (by omega) (by omega) (fun z33 hz33 => ?_)
  refine zl_sld hG (ni + 1) dL_law_374 (by omega) (by omega) ?_
  clear hz32 hz33
  refine zr_i2l hB dL_law_375 (fun l34 hl34 => ?_)
  obtain rfl : l3 = l34 := Int64.toInt_inj.mp (hl3.trans hl34.symm)
  refine zr_bipush hB dL_law_376 rfl (fun z35 hz35 => ?_)
  obtain rfl : z4 = z35 := Int32.toInt_inj.mp (hz4.trans hz35.symm)
  refine zr_lshl hB dL_law_378 (fun l36 hl36 => ?_)
  obtain rfl : l5 = l36 := hl5.trans hl36.symm
  refine zr_aload_n hB 3 dL_law_379 rfl ?_
  refine zr_iload_n hB 0 dL_law_380 rfl ?_
  refine zr_iconst hB dL_law_381 rfl (fun z37 hz37 => ?_)
  refine zr_iadd hB dL_law_382 (by omega) (by omega) (fun z38 hz38 => ?_)
  refine zl_sld hG (ni + 2) dL_law_383 (by omega) (by omega) ?_
  clear hz37 hz38
  refine zr_i2l hB dL_law_384 (fun l39 hl39 => ?_)
  obtain rfl : l8 = l39 := Int64.toInt_inj.mp (hl8.trans hl39.symm)
  refine zr_ldc2 hB dL_law_385 wc_L_32 rfl (fun l40 hl40 => ?_)
  obtain rfl : l9 = l40 := Int64.toInt_inj.mp (hl9.trans hl40.symm)
  refine zr_land hB dL_law_388 (fun l41 hl41 => ?_)
  obtain rfl : l10 = l41 := hl10.trans hl41.symm
  refine zr_lor hB dL_law_389 (fun l42 hl42 => ?_)
  obtain rfl : l11 = l42 := hl11.trans hl42.symm
  refine zl_callM hG (As := [.long l11]) (rest := []) dL_law_390 wm_L_38 rfl (c_M_feed (zl_K K (zt_M Z)) hG.2.2.2.2.2.2.2.2.2.2.1 σM l11 hOM ) rfl rfl (Nat.le_of_ble_eq_true rfl) ⟨(Nat.le_of_ble_eq_true rfl), (Nat.le_of_ble_eq_true rfl), rfl, rfl⟩ (fun r43 σ44 h45 => ?_)
  obtain ⟨hO46, hA47, r43a, r43b, g48, g49⟩ := h45
  have hT50 := zm_T.ag hT hA47 rfl (fun _ => rfl) (fun _ => rfl)
  have hN51 : (σ13.1 1 0).toInt = (σ44.1 0 1).toInt := by rw [(hA47 0 1 rfl).1]; exact hN19
  have hL52 : (σ13.1 2 1).toInt = (σ44.1 0 6).toInt := by omega
  have hF53 : ∀ j : Nat, (σ13.1 15 j).toInt = (σ44.1 2 j).toInt := fun j => by rw [(hA47 2 j rfl).1]; exact hF21 j
  have hD54 : ∀ j : Nat, (σ13.1 16 j).toInt = (σ44.1 3 j).toInt := fun j => by rw [(hA47 3 j rfl).1]; exact hD22 j
  have hSL55 : ∀ j : Nat, zl_R (σ13.1 37 j) (σ44.1 24 j) := fun j => by rw [(hA47 24 j rfl).1]; exact hSL23 j
  have hSN56 : ∀ j : Nat, (σ13.1 38 j).toInt = (σ44.1 25 j).toInt := fun j => by rw [(hA47 25 j rfl).1]; exact hSN24 j
  have hSC57 : zl_SC σ13 σ44 := hSC25.m hA47 (fun _ => rfl)
  have hW58 : zl_W σ13 σ44 := hW26.m hA47 (fun _ => rfl) rfl
  have hBY59 : zl_B σ13 σ44 := zl_Bf hBY hL g18 g49 (by omega)
  have hFA60 : (σ13.1 2 3).toInt = (σ44.1 0 7).toInt := by rw [(hA47 0 7 rfl).1]; exact hFA28
  have hE61 : zl_E σ13 σ44 := hE29.m hA47 rfl (fun _ => rfl) (fun _ => rfl) (fun _ => rfl)
  have hK62 : zw_K σ44 := zw_K.ag hK30 hA47 rfl (fun _ => rfl) (fun _ => rfl)
  have hNT63 : zl_N σ13 σ44 := hNT31.m hA47 rfl (fun _ => rfl) (fun _ => rfl) (fun _ => rfl)
  refine zr_pop hB dL_law_393 rfl ?_
  refine zr_goto hB dL_law_394 (tgt := 1780) rfl ?_
  exact kk _ _ ⟨hO15, hO46, hT50, hN51, hL52, hF53, hD54, hSL55, hSN56, hSC57, hW58, hBY59, hFA60, hE61, hK62, hNT63⟩

theorem lc_5 {K : zc_K} {G : zc_X} {Z : zl_T} (hG : zl_G K G Z) {σX σM : zc_S} {i : Int32} {ni : Nat} (hi : i.toInt = (ni : Int)) (h9 : ni + 9 ≤ zt_L Z) (hv : zl_v σX σM) (kk : ∀ σX' σM', zl_v σX' σM' → zc_V 4 K G (zl_I K G Z σX' σM') [(3, .int i), (2, .ref (zt_M Z 0)), (1, .ref (zt_X Z 0)), (0, .ref (zt_b Z))] 1780 []) : zc_V 4 K G (zl_I K G Z σX σM) [(3, .int i), (2, .ref (zt_M Z 0)), (1, .ref (zt_X Z 0)), (0, .ref (zt_b Z))] 397 [] := by
  obtain ⟨hOX, hOM, hT, hN, hL, hF, hD, hSL, hSN, hSC, hW, hBY, hFA, hE, hK, hNT⟩ := hv
  have hB := hG.1
  have hZ := hG.2.2.2.2.2.2.1
  refine zr_aload_n hB 2 dL_law_397 rfl ?_
  refine zr_aload_n hB 3 dL_law_398 rfl ?_
  refine zr_iload_n hB 0 dL_law_399 rfl ?_
  refine zr_iconst hB dL_law_400 rfl (fun z1 hz1 => ?_)
  refine zr_iadd hB dL_law_401 (by omega) (by omega) (fun z2 hz2 => ?_)
  refine zl_sld hG (ni + 1) dL_law_402 (by omega) (by omega) ?_
  clear hz1 hz2
  refine zl_callX hG (As := [.int (zt_x Z (ni + 1))]) (rest := []) dL_law_403 wm_L_39 rfl (c_X8_end_0 (zl_K K (zt_X Z)) hG.2.2.2.2.2.2.2.2.2.1 σX (zt_x Z (ni + 1)) hOX ) rfl rfl (Nat.le_of_ble_eq_true rfl) ⟨(Nat.le_of_ble_eq_true rfl), (Nat.le_of_ble_eq_true rfl), rfl, rfl⟩ (fun r3 σ4 h5 => ?_)
  obtain ⟨hO6, hA7, r3a, r3b, g8⟩ := h5
  have hN9 : (σ4.1 1 0).toInt = (σM.1 0 1).toInt := by rw [(hA7 1 0 rfl).1]; exact hN
  have hF11 : ∀ j : Nat, (σ4.1 15 j).toInt = (σM.1 2 j).toInt := fun j => by rw [(hA7 15 j rfl).1]; exact hF j
  have hD12 : ∀ j : Nat, (σ4.1 16 j).toInt = (σM.1 3 j).toInt := fun j => by rw [(hA7 16 j rfl).1]; exact hD j
  have hSL13 : ∀ j : Nat, zl_R (σ4.1 37 j) (σM.1 24 j) := fun j => by rw [(hA7 37 j rfl).1]; exact hSL j
  have hSN14 : ∀ j : Nat, (σ4.1 38 j).toInt = (σM.1 25 j).toInt := fun j => by rw [(hA7 38 j rfl).1]; exact hSN j
  have hSC15 : zl_SC σ4 σM := hSC.x hA7 (fun _ => rfl) (fun _ => rfl)
  have hW16 : zl_W σ4 σM := hW.x hA7 rfl (fun _ => rfl) (fun _ => rfl) (fun _ => rfl) (fun _ => rfl)
  have hFA18 : (σ4.1 2 3).toInt = (σM.1 0 7).toInt := by rw [(hA7 2 3 rfl).1]; exact hFA
  have hE19 : zl_E σ4 σM := hE.x hA7 rfl (fun _ => rfl) (fun _ => rfl) (fun _ => rfl)
  have hK20 : zw_K σM := hK
  have hNT21 : zl_N σ4 σM := hNT.x hA7 rfl (fun _ => rfl) (fun _ => rfl) (fun _ => rfl)
  refine zr_pop hB dL_law_406 rfl ?_
  refine zr_aload_n hB 1 dL_law_407 rfl ?_
  refine zr_aload_n hB 3 dL_law_408 rfl ?_
  refine zr_iload_n hB 0 dL_law_409 rfl ?_
  refine zr_iconst hB dL_law_410 rfl (fun z22 hz22 => ?_)
  refine zr_iadd hB dL_law_411 (by omega) (by omega) (fun z23 hz23 => ?_)
  refine zl_sld hG (ni + 1) dL_law_412 (by omega) (by omega) ?_
  clear hz22 hz23
  refine zl_callM hG (As := [.int (zt_x Z (ni + 1))]) (rest := []) dL_law_413 wm_L_42 rfl (c_M_end (zl_K K (zt_M Z)) hG.2.2.2.2.2.2.2.2.2.2.1 σM (zt_x Z (ni + 1)) hOM ) rfl rfl (Nat.le_of_ble_eq_true rfl) ⟨(Nat.le_of_ble_eq_true rfl), (Nat.le_of_ble_eq_true rfl), rfl, rfl⟩ (fun r24 σ25 h26 => ?_)
  obtain ⟨hO27, hA28, r24a, r24b, g29⟩ := h26
  have hT30 := zm_T.ag hT hA28 rfl (fun _ => rfl) (fun _ => rfl)
  have hN31 : (σ4.1 1 0).toInt = (σ25.1 0 1).toInt := by rw [(hA28 0 1 rfl).1]; exact hN9
  have hL32 : (σ4.1 2 1).toInt = (σ25.1 0 6).toInt := by omega
  have hF33 : ∀ j : Nat, (σ4.1 15 j).toInt = (σ25.1 2 j).toInt := fun j => by rw [(hA28 2 j rfl).1]; exact hF11 j
  have hD34 : ∀ j : Nat, (σ4.1 16 j).toInt = (σ25.1 3 j).toInt := fun j => by rw [(hA28 3 j rfl).1]; exact hD12 j
  have hSL35 : ∀ j : Nat, zl_R (σ4.1 37 j) (σ25.1 24 j) := fun j => by rw [(hA28 24 j rfl).1]; exact hSL13 j
  have hSN36 : ∀ j : Nat, (σ4.1 38 j).toInt = (σ25.1 25 j).toInt := fun j => by rw [(hA28 25 j rfl).1]; exact hSN14 j
  have hSC37 : zl_SC σ4 σ25 := hSC15.m hA28 (fun _ => rfl)
  have hW38 : zl_W σ4 σ25 := hW16.m hA28 (fun _ => rfl) rfl
  have hBY39 : zl_B σ4 σ25 := zl_B.e hBY hA7 hA28 (by omega) (fun _ => rfl) (fun _ => rfl)
  have hFA40 : (σ4.1 2 3).toInt = (σ25.1 0 7).toInt := by rw [(hA28 0 7 rfl).1]; exact hFA18
  have hE41 : zl_E σ4 σ25 := hE19.m hA28 rfl (fun _ => rfl) (fun _ => rfl) (fun _ => rfl)
  have hK42 : zw_K σ25 := zw_K.ag hK20 hA28 rfl (fun _ => rfl) (fun _ => rfl)
  have hNT43 : zl_N σ4 σ25 := hNT21.m hA28 rfl (fun _ => rfl) (fun _ => rfl) (fun _ => rfl)
  refine zr_pop hB dL_law_416 rfl ?_
  refine zr_goto hB dL_law_417 (tgt := 1780) rfl ?_
  exact kk _ _ ⟨hO6, hO27, hT30, hN31, hL32, hF33, hD34, hSL35, hSN36, hSC37, hW38, hBY39, hFA40, hE41, hK42, hNT43⟩

theorem lc_6 {K : zc_K} {G : zc_X} {Z : zl_T} (hG : zl_G K G Z) {σX σM : zc_S} {i : Int32} {ni : Nat} (hi : i.toInt = (ni : Int)) (h9 : ni + 9 ≤ zt_L Z) (hv : zl_v σX σM) (kk : ∀ σX' σM', zl_v σX' σM' → zc_V 4 K G (zl_I K G Z σX' σM') [(3, .int i), (2, .ref (zt_M Z 0)), (1, .ref (zt_X Z 0)), (0, .ref (zt_b Z))] 1780 []) : zc_V 4 K G (zl_I K G Z σX σM) [(3, .int i), (2, .ref (zt_M Z 0)), (1, .ref (zt_X Z 0)), (0, .ref (zt_b Z))] 420 [] := by
  obtain ⟨hOX, hOM, hT, hN, hL, hF, hD, hSL, hSN, hSC, hW, hBY, hFA, hE, hK, hNT⟩ := hv
  have hB := hG.1
  have hZ := hG.2.2.2.2.2.2.1
  refine zr_aload_n hB 2 dL_law_420 rfl ?_
  refine zl_callX hG (As := []) (rest := []) dL_law_421 wm_L_43 rfl (c_X8_text_0 (zl_K K (zt_X Z)) hG.2.2.2.2.2.2.2.2.2.1 σX  hOX ) rfl rfl (Nat.le_of_ble_eq_true rfl) ⟨(Nat.le_of_ble_eq_true rfl), (Nat.le_of_ble_eq_true rfl), rfl, rfl⟩ (fun r1 σ2 h3 => ?_)
  obtain ⟨hO4, hA5, r1a, r1b, g6, g7, g8⟩ := h3
  have hN9 : (σ2.1 1 0).toInt = (σM.1 0 1).toInt := by rw [(hA5 1 0 rfl).1]; exact hN
  have hF11 : ∀ j : Nat, (σ2.1 15 j).toInt = (σM.1 2 j).toInt := fun j => by rw [(hA5 15 j rfl).1]; exact hF j
  have hD12 : ∀ j : Nat, (σ2.1 16 j).toInt = (σM.1 3 j).toInt := fun j => by rw [(hA5 16 j rfl).1]; exact hD j
  have hSL13 : ∀ j : Nat, zl_R (σ2.1 37 j) (σM.1 24 j) := fun j => by rw [(hA5 37 j rfl).1]; exact hSL j
  have hSN14 : ∀ j : Nat, (σ2.1 38 j).toInt = (σM.1 25 j).toInt := fun j => by rw [(hA5 38 j rfl).1]; exact hSN j
  have hSC15 : zl_SC σ2 σM := hSC.x hA5 (fun _ => rfl) (fun _ => rfl)
  have hW16 : zl_W σ2 σM := hW.x hA5 rfl (fun _ => rfl) (fun _ => rfl) (fun _ => rfl) (fun _ => rfl)
  have hK20 : zw_K σM := hK
  have hNT21 : zl_N σ2 σM := hNT.x hA5 rfl (fun _ => rfl) (fun _ => rfl) (fun _ => rfl)
  refine zr_pop hB dL_law_424 rfl ?_
  refine zr_aload_n hB 1 dL_law_425 rfl ?_
  refine zl_callM hG (As := []) (rest := []) dL_law_426 wm_L_47 rfl (c_M_text (zl_K K (zt_M Z)) hG.2.2.2.2.2.2.2.2.2.2.1 σM  hOM hT hK20) rfl rfl (Nat.le_of_ble_eq_true rfl) ⟨(Nat.le_of_ble_eq_true rfl), (Nat.le_of_ble_eq_true rfl), rfl, rfl⟩ (fun r22 σ23 h24 => ?_)
  obtain ⟨hO25, hA26, r22a, r22b, g27, g28, g29, g30⟩ := h24
  have hT31 := g28
  have hN32 : (σ2.1 1 0).toInt = (σ23.1 0 1).toInt := by rw [(hA26 0 1 rfl).1]; exact hN9
  have hL33 : (σ2.1 2 1).toInt = (σ23.1 0 6).toInt := by omega
  have hF34 : ∀ j : Nat, (σ2.1 15 j).toInt = (σ23.1 2 j).toInt := fun j => by rw [(hA26 2 j rfl).1]; exact hF11 j
  have hD35 : ∀ j : Nat, (σ2.1 16 j).toInt = (σ23.1 3 j).toInt := fun j => by rw [(hA26 3 j rfl).1]; exact hD12 j
  have hSL36 : ∀ j : Nat, zl_R (σ2.1 37 j) (σ23.1 24 j) := fun j => by rw [(hA26 24 j rfl).1]; exact hSL13 j
  have hSN37 : ∀ j : Nat, (σ2.1 38 j).toInt = (σ23.1 25 j).toInt := fun j => by rw [(hA26 25 j rfl).1]; exact hSN14 j
  have hSC38 : zl_SC σ2 σ23 := hSC15.m hA26 (fun _ => rfl)
  have hW39 : zl_W σ2 σ23 := hW16.m hA26 (fun _ => rfl) rfl
  have hBY40 : zl_B σ2 σ23 := fun i9 h9 => by exfalso; omega
  have hFA41 : (σ2.1 2 3).toInt = (σ23.1 0 7).toInt := by rw [g7, g29, (zw_same (zw_bq hL hBY)).1]
  have hE42 : zl_E σ2 σ23 := zl_Et hE (zw_bq hL hBY) g8 g30
  have hK43 : zw_K σ23 := zw_K.ag hK20 hA26 rfl (fun _ => rfl) (fun _ => rfl)
  have hNT44 : zl_N σ2 σ23 := hNT21.m hA26 rfl (fun _ => rfl) (fun _ => rfl) (fun _ => rfl)
  refine zr_pop hB dL_law_429 rfl ?_
  refine zr_goto hB dL_law_430 (tgt := 1780) rfl ?_
  exact kk _ _ ⟨hO4, hO25, hT31, hN32, hL33, hF34, hD35, hSL36, hSN37, hSC38, hW39, hBY40, hFA41, hE42, hK43, hNT44⟩

theorem lc_7 {K : zc_K} {G : zc_X} {Z : zl_T} (hG : zl_G K G Z) {σX σM : zc_S} {i : Int32} {ni : Nat} (hi : i.toInt = (ni : Int)) (h9 : ni + 9 ≤ zt_L Z) (hv : zl_v σX σM) (kk : ∀ σX' σM', zl_v σX' σM' → zc_V 4 K G (zl_I K G Z σX' σM') [(3, .int i), (2, .ref (zt_M Z 0)), (1, .ref (zt_X Z 0)), (0, .ref (zt_b Z))] 1780 []) : zc_V 4 K G (zl_I K G Z σX σM) [(3, .int i), (2, .ref (zt_M Z 0)), (1, .ref (zt_X Z 0)), (0, .ref (zt_b Z))] 433 [] := by
  obtain ⟨hOX, hOM, hT, hN, hL, hF, hD, hSL, hSN, hSC, hW, hBY, hFA, hE, hK, hNT⟩ := hv
  have hB := hG.1
  have hZ := hG.2.2.2.2.2.2.1
  refine zr_aload_n hB 2 dL_law_433 rfl ?_
  refine zl_callX hG (As := []) (rest := []) dL_law_434 wm_L_48 rfl (c_X8_fault_0 (zl_K K (zt_X Z)) hG.2.2.2.2.2.2.2.2.2.1 σX  hOX ) rfl rfl (Nat.le_of_ble_eq_true rfl) ⟨(Nat.le_of_ble_eq_true rfl), (Nat.le_of_ble_eq_true rfl), rfl, rfl⟩ (fun r1 σ2 h3 => ?_)
  obtain ⟨rfl, r1a, r1b, g4⟩ := h3
  refine zr_pop hB dL_law_437 rfl ?_
  refine zr_aload_n hB 1 dL_law_438 rfl ?_
  refine zl_callM hG (As := []) (rest := []) dL_law_439 wm_L_51 rfl (c_M_fault (zl_K K (zt_M Z)) hG.2.2.2.2.2.2.2.2.2.2.1 σM  hOM ) rfl rfl (Nat.le_of_ble_eq_true rfl) ⟨(Nat.le_of_ble_eq_true rfl), (Nat.le_of_ble_eq_true rfl), rfl, rfl⟩ (fun r5 σ6 h7 => ?_)
  obtain ⟨rfl, r5a, r5b, g8⟩ := h7
  refine zr_pop hB dL_law_442 rfl ?_
  refine zr_goto hB dL_law_443 (tgt := 1780) rfl ?_
  exact kk _ _ ⟨hOX, hOM, hT, hN, hL, hF, hD, hSL, hSN, hSC, hW, hBY, hFA, hE, hK, hNT⟩

