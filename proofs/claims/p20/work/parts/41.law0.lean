def zl_v (σX σM : zc_S) : Prop := zc_O okX σX ∧ zc_O okM σM ∧ zm_T σM ∧ ((σX.1 1 0).toInt = (σM.1 0 1).toInt) ∧ ((σX.1 2 1).toInt = (σM.1 0 6).toInt) ∧ (∀ j : Nat, (σX.1 15 j).toInt = (σM.1 2 j).toInt) ∧ (∀ j : Nat, (σX.1 16 j).toInt = (σM.1 3 j).toInt) ∧ (∀ j : Nat, zl_R (σX.1 37 j) (σM.1 24 j)) ∧ (∀ j : Nat, (σX.1 38 j).toInt = (σM.1 25 j).toInt)
theorem lc_0 {K : zc_K} {G : zc_X} {Z : zl_T} (hG : zl_G K G Z) {σX σM : zc_S} {i : Int32} {ni : Nat} (hi : i.toInt = (ni : Int)) (h9 : ni + 9 ≤ zt_L Z) (hv : zl_v σX σM) (kk : ∀ σX' σM', zl_v σX' σM' → zc_V 4 K G (zl_I K G Z σX' σM') [(3, .int i), (2, .ref (zt_M Z 0)), (1, .ref (zt_X Z 0)), (0, .ref (zt_b Z))] 1780 []) : zc_V 4 K G (zl_I K G Z σX σM) [(3, .int i), (2, .ref (zt_M Z 0)), (1, .ref (zt_X Z 0)), (0, .ref (zt_b Z))] 176 [] := by
  obtain ⟨hOX, hOM, hT, hN, hL, hF, hD, hSL, hSN⟩ := hv
  have hB := hG.1
  have hZ := hG.2.2.2.2.2.2.1
  refine zr_aload_n hB 2 dL_law_176 rfl ?_
  refine zr_aload_n hB 3 dL_law_177 rfl ?_
  refine zr_iload_n hB 0 dL_law_178 rfl ?_
  refine zr_iconst hB dL_law_179 rfl (fun z1 hz1 => ?_)
  refine zr_iadd hB dL_law_180 (by omega) (by omega) (fun z2 hz2 => ?_)
  refine zl_sld hG (ni + 1) dL_law_181 (by omega) (by omega) ?_
  clear hz1 hz2
  refine zl_callX hG (As := [.int (zt_x Z (ni + 1))]) (rest := []) dL_law_182 wm_L_13 rfl (c_X8_now_0 (zl_K K (zt_X Z)) hG.2.2.2.2.2.2.2.2.2.1 σX (zt_x Z (ni + 1)) hOX ) rfl rfl (Nat.le_of_ble_eq_true rfl) ⟨(Nat.le_of_ble_eq_true rfl), (Nat.le_of_ble_eq_true rfl), rfl, rfl⟩ (fun r3 σ4 h5 => ?_)
  obtain ⟨hO6, hA7, r3a, r3b, g8⟩ := h5
  have hL10 : (σ4.1 2 1).toInt = (σM.1 0 6).toInt := by rw [(hA7 2 1 rfl).1]; exact hL
  have hF11 : ∀ j : Nat, (σ4.1 15 j).toInt = (σM.1 2 j).toInt := fun j => by rw [(hA7 15 j rfl).1]; exact hF j
  have hD12 : ∀ j : Nat, (σ4.1 16 j).toInt = (σM.1 3 j).toInt := fun j => by rw [(hA7 16 j rfl).1]; exact hD j
  have hSL13 : ∀ j : Nat, zl_R (σ4.1 37 j) (σM.1 24 j) := fun j => by rw [(hA7 37 j rfl).1]; exact hSL j
  have hSN14 : ∀ j : Nat, (σ4.1 38 j).toInt = (σM.1 25 j).toInt := fun j => by rw [(hA7 38 j rfl).1]; exact hSN j
  refine zr_pop hB dL_law_185 rfl ?_
  refine zr_aload_n hB 1 dL_law_186 rfl ?_
  refine zr_aload_n hB 3 dL_law_187 rfl ?_
  refine zr_iload_n hB 0 dL_law_188 rfl ?_
  refine zr_iconst hB dL_law_189 rfl (fun z15 hz15 => ?_)
  refine zr_iadd hB dL_law_190 (by omega) (by omega) (fun z16 hz16 => ?_)
  refine zl_sld hG (ni + 1) dL_law_191 (by omega) (by omega) ?_
  clear hz15 hz16
  refine zl_callM hG (As := [.int (zt_x Z (ni + 1))]) (rest := []) dL_law_192 wm_L_17 rfl (c_M_now (zl_K K (zt_M Z)) hG.2.2.2.2.2.2.2.2.2.2.1 σM (zt_x Z (ni + 1)) hOM ) rfl rfl (Nat.le_of_ble_eq_true rfl) ⟨(Nat.le_of_ble_eq_true rfl), (Nat.le_of_ble_eq_true rfl), rfl, rfl⟩ (fun r17 σ18 h19 => ?_)
  obtain ⟨hO20, hA21, r17a, r17b, g22⟩ := h19
  have hT23 := zm_T.ag hT hA21 rfl (fun _ => rfl) (fun _ => rfl)
  have hN24 : (σ4.1 1 0).toInt = (σ18.1 0 1).toInt := by omega
  have hL25 : (σ4.1 2 1).toInt = (σ18.1 0 6).toInt := by rw [(hA21 0 6 rfl).1]; exact hL10
  have hF26 : ∀ j : Nat, (σ4.1 15 j).toInt = (σ18.1 2 j).toInt := fun j => by rw [(hA21 2 j rfl).1]; exact hF11 j
  have hD27 : ∀ j : Nat, (σ4.1 16 j).toInt = (σ18.1 3 j).toInt := fun j => by rw [(hA21 3 j rfl).1]; exact hD12 j
  have hSL28 : ∀ j : Nat, zl_R (σ4.1 37 j) (σ18.1 24 j) := fun j => by rw [(hA21 24 j rfl).1]; exact hSL13 j
  have hSN29 : ∀ j : Nat, (σ4.1 38 j).toInt = (σ18.1 25 j).toInt := fun j => by rw [(hA21 25 j rfl).1]; exact hSN14 j
  refine zr_pop hB dL_law_195 rfl ?_
  refine zr_goto hB dL_law_196 (tgt := 1780) rfl ?_
  exact kk _ _ ⟨hO6, hO20, hT23, hN24, hL25, hF26, hD27, hSL28, hSN29⟩

theorem lc_1 {K : zc_K} {G : zc_X} {Z : zl_T} (hG : zl_G K G Z) {σX σM : zc_S} {i : Int32} {ni : Nat} (hi : i.toInt = (ni : Int)) (h9 : ni + 9 ≤ zt_L Z) (hv : zl_v σX σM) (kk : ∀ σX' σM', zl_v σX' σM' → zc_V 4 K G (zl_I K G Z σX' σM') [(3, .int i), (2, .ref (zt_M Z 0)), (1, .ref (zt_X Z 0)), (0, .ref (zt_b Z))] 1780 []) : zc_V 4 K G (zl_I K G Z σX σM) [(3, .int i), (2, .ref (zt_M Z 0)), (1, .ref (zt_X Z 0)), (0, .ref (zt_b Z))] 199 [] := by
  obtain ⟨hOX, hOM, hT, hN, hL, hF, hD, hSL, hSN⟩ := hv
  have hB := hG.1
  have hZ := hG.2.2.2.2.2.2.1
  refine zr_aload_n hB 2 dL_law_199 rfl ?_
  refine zr_aload_n hB 3 dL_law_200 rfl ?_
  refine zr_iload_n hB 0 dL_law_201 rfl ?_
  refine zr_iconst hB dL_law_202 rfl (fun z1 hz1 => ?_)
  refine zr_iadd hB dL_law_203 (by omega) (by omega) (fun z2 hz2 => ?_)
  refine zl_sld hG (ni + 1) dL_law_204 (by omega) (by omega) ?_
  clear hz1 hz2
  refine zr_aload_n hB 3 dL_law_205 rfl ?_
  refine zr_iload_n hB 0 dL_law_206 rfl ?_
  refine zr_iconst hB dL_law_207 rfl (fun z3 hz3 => ?_)
  refine zr_iadd hB dL_law_208 (by omega) (by omega) (fun z4 hz4 => ?_)
  refine zl_sld hG (ni + 2) dL_law_209 (by omega) (by omega) ?_
  clear hz3 hz4
  refine zr_aload_n hB 3 dL_law_210 rfl ?_
  refine zr_iload_n hB 0 dL_law_211 rfl ?_
  refine zr_iconst hB dL_law_212 rfl (fun z5 hz5 => ?_)
  refine zr_iadd hB dL_law_213 (by omega) (by omega) (fun z6 hz6 => ?_)
  refine zl_sld hG (ni + 3) dL_law_214 (by omega) (by omega) ?_
  clear hz5 hz6
  refine zl_callX hG (As := [.int (zt_x Z (ni + 1)), .int (zt_x Z (ni + 2)), .int (zt_x Z (ni + 3))]) (rest := []) dL_law_215 wm_L_18 rfl (c_X8_figure_0 (zl_K K (zt_X Z)) hG.2.2.2.2.2.2.2.2.2.1 σX (zt_x Z (ni + 1)) (zt_x Z (ni + 2)) (zt_x Z (ni + 3)) hOX ) rfl rfl (Nat.le_of_ble_eq_true rfl) ⟨(Nat.le_of_ble_eq_true rfl), (Nat.le_of_ble_eq_true rfl), rfl, rfl⟩ (fun r7 σ8 h9 => ?_)
  obtain ⟨hO10, hA11, r7a, r7b⟩ := h9
  have hN12 : (σ8.1 1 0).toInt = (σM.1 0 1).toInt := by rw [(hA11 1 0 rfl).1]; exact hN
  have hL13 : (σ8.1 2 1).toInt = (σM.1 0 6).toInt := by rw [(hA11 2 1 rfl).1]; exact hL
  have hF14 : ∀ j : Nat, (σ8.1 15 j).toInt = (σM.1 2 j).toInt := fun j => by rw [(hA11 15 j rfl).1]; exact hF j
  have hD15 : ∀ j : Nat, (σ8.1 16 j).toInt = (σM.1 3 j).toInt := fun j => by rw [(hA11 16 j rfl).1]; exact hD j
  have hSL16 : ∀ j : Nat, zl_R (σ8.1 37 j) (σM.1 24 j) := fun j => by rw [(hA11 37 j rfl).1]; exact hSL j
  have hSN17 : ∀ j : Nat, (σ8.1 38 j).toInt = (σM.1 25 j).toInt := fun j => by rw [(hA11 38 j rfl).1]; exact hSN j
  refine zr_pop hB dL_law_218 rfl ?_
  refine zr_aload_n hB 1 dL_law_219 rfl ?_
  refine zr_aload_n hB 3 dL_law_220 rfl ?_
  refine zr_iload_n hB 0 dL_law_221 rfl ?_
  refine zr_iconst hB dL_law_222 rfl (fun z18 hz18 => ?_)
  refine zr_iadd hB dL_law_223 (by omega) (by omega) (fun z19 hz19 => ?_)
  refine zl_sld hG (ni + 1) dL_law_224 (by omega) (by omega) ?_
  clear hz18 hz19
  refine zr_aload_n hB 3 dL_law_225 rfl ?_
  refine zr_iload_n hB 0 dL_law_226 rfl ?_
  refine zr_iconst hB dL_law_227 rfl (fun z20 hz20 => ?_)
  refine zr_iadd hB dL_law_228 (by omega) (by omega) (fun z21 hz21 => ?_)
  refine zl_sld hG (ni + 2) dL_law_229 (by omega) (by omega) ?_
  clear hz20 hz21
  refine zr_aload_n hB 3 dL_law_230 rfl ?_
  refine zr_iload_n hB 0 dL_law_231 rfl ?_
  refine zr_iconst hB dL_law_232 rfl (fun z22 hz22 => ?_)
  refine zr_iadd hB dL_law_233 (by omega) (by omega) (fun z23 hz23 => ?_)
  refine zl_sld hG (ni + 3) dL_law_234 (by omega) (by omega) ?_
  clear hz22 hz23
  refine zl_callM hG (As := [.int (zt_x Z (ni + 1)), .int (zt_x Z (ni + 2)), .int (zt_x Z (ni + 3))]) (rest := []) dL_law_235 wm_L_22 rfl (c_M_figure (zl_K K (zt_M Z)) hG.2.2.2.2.2.2.2.2.2.2.1 σM (zt_x Z (ni + 1)) (zt_x Z (ni + 2)) (zt_x Z (ni + 3)) hOM ) rfl rfl (Nat.le_of_ble_eq_true rfl) ⟨(Nat.le_of_ble_eq_true rfl), (Nat.le_of_ble_eq_true rfl), rfl, rfl⟩ (fun r24 σ25 h26 => ?_)
  obtain ⟨hO27, hA28, r24a, r24b⟩ := h26
  have hT29 := zm_T.ag hT hA28 rfl (fun _ => rfl) (fun _ => rfl)
  have hN30 : (σ8.1 1 0).toInt = (σ25.1 0 1).toInt := by rw [(hA28 0 1 rfl).1]; exact hN12
  have hL31 : (σ8.1 2 1).toInt = (σ25.1 0 6).toInt := by rw [(hA28 0 6 rfl).1]; exact hL13
  have hF32 : ∀ j : Nat, (σ8.1 15 j).toInt = (σ25.1 2 j).toInt := fun j => by rw [(hA28 2 j rfl).1]; exact hF14 j
  have hD33 : ∀ j : Nat, (σ8.1 16 j).toInt = (σ25.1 3 j).toInt := fun j => by rw [(hA28 3 j rfl).1]; exact hD15 j
  have hSL34 : ∀ j : Nat, zl_R (σ8.1 37 j) (σ25.1 24 j) := fun j => by rw [(hA28 24 j rfl).1]; exact hSL16 j
  have hSN35 : ∀ j : Nat, (σ8.1 38 j).toInt = (σ25.1 25 j).toInt := fun j => by rw [(hA28 25 j rfl).1]; exact hSN17 j
  refine zr_pop hB dL_law_238 rfl ?_
  refine zr_goto hB dL_law_239 (tgt := 1780) rfl ?_
  exact kk _ _ ⟨hO10, hO27, hT29, hN30, hL31, hF32, hD33, hSL34, hSN35⟩

theorem lc_2 {K : zc_K} {G : zc_X} {Z : zl_T} (hG : zl_G K G Z) {σX σM : zc_S} {i : Int32} {ni : Nat} (hi : i.toInt = (ni : Int)) (h9 : ni + 9 ≤ zt_L Z) (hv : zl_v σX σM) (kk : ∀ σX' σM', zl_v σX' σM' → zc_V 4 K G (zl_I K G Z σX' σM') [(3, .int i), (2, .ref (zt_M Z 0)), (1, .ref (zt_X Z 0)), (0, .ref (zt_b Z))] 1780 []) : zc_V 4 K G (zl_I K G Z σX σM) [(3, .int i), (2, .ref (zt_M Z 0)), (1, .ref (zt_X Z 0)), (0, .ref (zt_b Z))] 242 [] := by
  obtain ⟨hOX, hOM, hT, hN, hL, hF, hD, hSL, hSN⟩ := hv
  have hB := hG.1
  have hZ := hG.2.2.2.2.2.2.1
  refine zr_aload_n hB 2 dL_law_242 rfl ?_
  refine zr_aload_n hB 3 dL_law_243 rfl ?_
  refine zr_iload_n hB 0 dL_law_244 rfl ?_
  refine zr_iconst hB dL_law_245 rfl (fun z1 hz1 => ?_)
  refine zr_iadd hB dL_law_246 (by omega) (by omega) (fun z2 hz2 => ?_)
  refine zl_sld hG (ni + 1) dL_law_247 (by omega) (by omega) ?_
  clear hz1 hz2
  refine zr_aload_n hB 3 dL_law_248 rfl ?_
  refine zr_iload_n hB 0 dL_law_249 rfl ?_
  refine zr_iconst hB dL_law_250 rfl (fun z3 hz3 => ?_)
  refine zr_iadd hB dL_law_251 (by omega) (by omega) (fun z4 hz4 => ?_)
  refine zl_sld hG (ni + 2) dL_law_252 (by omega) (by omega) ?_
  clear hz3 hz4
  refine zr_aload_n hB 3 dL_law_253 rfl ?_
  refine zr_iload_n hB 0 dL_law_254 rfl ?_
  refine zr_iconst hB dL_law_255 rfl (fun z5 hz5 => ?_)
  refine zr_iadd hB dL_law_256 (by omega) (by omega) (fun z6 hz6 => ?_)
  refine zl_sld hG (ni + 3) dL_law_257 (by omega) (by omega) ?_
  clear hz5 hz6
  refine zl_callX hG (As := [.int (zt_x Z (ni + 1)), .int (zt_x Z (ni + 2)), .int (zt_x Z (ni + 3))]) (rest := []) dL_law_258 wm_L_23 rfl (c_X8_known_0 (zl_K K (zt_X Z)) hG.2.2.2.2.2.2.2.2.2.1 σX (zt_x Z (ni + 1)) (zt_x Z (ni + 2)) (zt_x Z (ni + 3)) hOX ) rfl rfl (Nat.le_of_ble_eq_true rfl) ⟨(Nat.le_of_ble_eq_true rfl), (Nat.le_of_ble_eq_true rfl), rfl, rfl⟩ (fun r7 σ8 h9 => ?_)
  obtain ⟨rfl, r7a, r7b⟩ := h9
  refine zr_pop hB dL_law_261 rfl ?_
  refine zr_aload_n hB 1 dL_law_262 rfl ?_
  refine zr_aload_n hB 3 dL_law_263 rfl ?_
  refine zr_iload_n hB 0 dL_law_264 rfl ?_
  refine zr_iconst hB dL_law_265 rfl (fun z10 hz10 => ?_)
  refine zr_iadd hB dL_law_266 (by omega) (by omega) (fun z11 hz11 => ?_)
  refine zl_sld hG (ni + 1) dL_law_267 (by omega) (by omega) ?_
  clear hz10 hz11
  refine zr_aload_n hB 3 dL_law_268 rfl ?_
  refine zr_iload_n hB 0 dL_law_269 rfl ?_
  refine zr_iconst hB dL_law_270 rfl (fun z12 hz12 => ?_)
  refine zr_iadd hB dL_law_271 (by omega) (by omega) (fun z13 hz13 => ?_)
  refine zl_sld hG (ni + 2) dL_law_272 (by omega) (by omega) ?_
  clear hz12 hz13
  refine zr_aload_n hB 3 dL_law_273 rfl ?_
  refine zr_iload_n hB 0 dL_law_274 rfl ?_
  refine zr_iconst hB dL_law_275 rfl (fun z14 hz14 => ?_)
  refine zr_iadd hB dL_law_276 (by omega) (by omega) (fun z15 hz15 => ?_)
  refine zl_sld hG (ni + 3) dL_law_277 (by omega) (by omega) ?_
  clear hz14 hz15
  refine zl_callM hG (As := [.int (zt_x Z (ni + 1)), .int (zt_x Z (ni + 2)), .int (zt_x Z (ni + 3))]) (rest := []) dL_law_278 wm_L_26 rfl (c_M_known (zl_K K (zt_M Z)) hG.2.2.2.2.2.2.2.2.2.2.1 σM (zt_x Z (ni + 1)) (zt_x Z (ni + 2)) (zt_x Z (ni + 3)) hOM ) rfl rfl (Nat.le_of_ble_eq_true rfl) ⟨(Nat.le_of_ble_eq_true rfl), (Nat.le_of_ble_eq_true rfl), rfl, rfl⟩ (fun r16 σ17 h18 => ?_)
  obtain ⟨rfl, r16a, r16b⟩ := h18
  refine zr_pop hB dL_law_281 rfl ?_
  refine zr_goto hB dL_law_282 (tgt := 1780) rfl ?_
  exact kk _ _ ⟨hOX, hOM, hT, hN, hL, hF, hD, hSL, hSN⟩

theorem lc_3 {K : zc_K} {G : zc_X} {Z : zl_T} (hG : zl_G K G Z) {σX σM : zc_S} {i : Int32} {ni : Nat} (hi : i.toInt = (ni : Int)) (h9 : ni + 9 ≤ zt_L Z) (hv : zl_v σX σM) (kk : ∀ σX' σM', zl_v σX' σM' → zc_V 4 K G (zl_I K G Z σX' σM') [(3, .int i), (2, .ref (zt_M Z 0)), (1, .ref (zt_X Z 0)), (0, .ref (zt_b Z))] 1780 []) : zc_V 4 K G (zl_I K G Z σX σM) [(3, .int i), (2, .ref (zt_M Z 0)), (1, .ref (zt_X Z 0)), (0, .ref (zt_b Z))] 285 [] := by
  obtain ⟨hOX, hOM, hT, hN, hL, hF, hD, hSL, hSN⟩ := hv
  have hB := hG.1
  have hZ := hG.2.2.2.2.2.2.1
  refine zr_aload_n hB 2 dL_law_285 rfl ?_
  refine zr_aload_n hB 3 dL_law_286 rfl ?_
  refine zr_iload_n hB 0 dL_law_287 rfl ?_
  refine zr_iconst hB dL_law_288 rfl (fun z1 hz1 => ?_)
  refine zr_iadd hB dL_law_289 (by omega) (by omega) (fun z2 hz2 => ?_)
  refine zl_sld hG (ni + 1) dL_law_290 (by omega) (by omega) ?_
  clear hz1 hz2
  refine zr_aload_n hB 3 dL_law_291 rfl ?_
  refine zr_iload_n hB 0 dL_law_292 rfl ?_
  refine zr_iconst hB dL_law_293 rfl (fun z3 hz3 => ?_)
  refine zr_iadd hB dL_law_294 (by omega) (by omega) (fun z4 hz4 => ?_)
  refine zl_sld hG (ni + 2) dL_law_295 (by omega) (by omega) ?_
  clear hz3 hz4
  refine zr_aload_n hB 3 dL_law_296 rfl ?_
  refine zr_iload_n hB 0 dL_law_297 rfl ?_
  refine zr_iconst hB dL_law_298 rfl (fun z5 hz5 => ?_)
  refine zr_iadd hB dL_law_299 (by omega) (by omega) (fun z6 hz6 => ?_)
  refine zl_sld hG (ni + 3) dL_law_300 (by omega) (by omega) ?_
  clear hz5 hz6
  refine zr_if_eq hB dL_law_301 (tgt := 308) rfl (fun h7 => ?_) (fun h7 => ?_)
  · skip
    refine zr_iconst hB dL_law_308 rfl (fun z8 hz8 => ?_)
    refine zl_callX hG (As := [.int (zt_x Z (ni + 1)), .int (zt_x Z (ni + 2)), .int z8]) (rest := []) dL_law_309 wm_L_27 rfl (c_X8_mark_0 (zl_K K (zt_X Z)) hG.2.2.2.2.2.2.2.2.2.1 σX (zt_x Z (ni + 1)) (zt_x Z (ni + 2)) z8 hOX (by omega) (by omega)) rfl rfl (Nat.le_of_ble_eq_true rfl) ⟨(Nat.le_of_ble_eq_true rfl), (Nat.le_of_ble_eq_true rfl), rfl, rfl⟩ (fun r9 σ10 h11 => ?_)
    obtain ⟨hO12, hA13, r9a, r9b, g14⟩ := h11
    have hN15 : (σ10.1 1 0).toInt = (σM.1 0 1).toInt := by rw [(hA13 1 0 rfl).1]; exact hN
    have hL16 : (σ10.1 2 1).toInt = (σM.1 0 6).toInt := by rw [(hA13 2 1 rfl).1]; exact hL
    have hSL19 : ∀ j : Nat, zl_R (σ10.1 37 j) (σM.1 24 j) := fun j => by rw [(hA13 37 j rfl).1]; exact hSL j
    have hSN20 : ∀ j : Nat, (σ10.1 38 j).toInt = (σM.1 25 j).toInt := fun j => by rw [(hA13 38 j rfl).1]; exact hSN j
    refine zr_pop hB dL_law_312 rfl ?_
    refine zr_aload_n hB 1 dL_law_313 rfl ?_
    refine zr_aload_n hB 3 dL_law_314 rfl ?_
    refine zr_iload_n hB 0 dL_law_315 rfl ?_
    refine zr_iconst hB dL_law_316 rfl (fun z21 hz21 => ?_)
    refine zr_iadd hB dL_law_317 (by omega) (by omega) (fun z22 hz22 => ?_)
    refine zl_sld hG (ni + 1) dL_law_318 (by omega) (by omega) ?_
    clear hz21 hz22
    refine zr_aload_n hB 3 dL_law_319 rfl ?_
    refine zr_iload_n hB 0 dL_law_320 rfl ?_
    refine zr_iconst hB dL_law_321 rfl (fun z23 hz23 => ?_)
    refine zr_iadd hB dL_law_322 (by omega) (by omega) (fun z24 hz24 => ?_)
    refine zl_sld hG (ni + 2) dL_law_323 (by omega) (by omega) ?_
    clear hz23 hz24
    refine zr_aload_n hB 3 dL_law_324 rfl ?_
    refine zr_iload_n hB 0 dL_law_325 rfl ?_
    refine zr_iconst hB dL_law_326 rfl (fun z25 hz25 => ?_)
    refine zr_iadd hB dL_law_327 (by omega) (by omega) (fun z26 hz26 => ?_)
    refine zl_sld hG (ni + 3) dL_law_328 (by omega) (by omega) ?_
    clear hz25 hz26
    refine zr_if_eq hB dL_law_329 (tgt := 336) rfl (fun h28 => ?_) (fun h28 => absurd h7 h28)
    refine zr_iconst hB dL_law_336 rfl (fun z29 hz29 => ?_)
    refine zl_callM hG (As := [.int (zt_x Z (ni + 1)), .int (zt_x Z (ni + 2)), .int z29]) (rest := []) dL_law_337 wm_L_31 rfl (c_M_mark (zl_K K (zt_M Z)) hG.2.2.2.2.2.2.2.2.2.2.1 σM (zt_x Z (ni + 1)) (zt_x Z (ni + 2)) z29 hOM (by omega) (by omega)) rfl rfl (Nat.le_of_ble_eq_true rfl) ⟨(Nat.le_of_ble_eq_true rfl), (Nat.le_of_ble_eq_true rfl), rfl, rfl⟩ (fun r30 σ31 h32 => ?_)
    obtain ⟨hO33, hA34, r30a, r30b, g35⟩ := h32
    have hT36 := zm_T.ag hT hA34 rfl (fun _ => rfl) (fun _ => rfl)
    have hN37 : (σ10.1 1 0).toInt = (σ31.1 0 1).toInt := by rw [(hA34 0 1 rfl).1]; exact hN15
    have hL38 : (σ10.1 2 1).toInt = (σ31.1 0 6).toInt := by rw [(hA34 0 6 rfl).1]; exact hL16
    have hF39 : ∀ j : Nat, (σ10.1 15 j).toInt = (σ31.1 2 j).toInt := by rcases g14 with ⟨a1, a2, a3⟩ | ⟨a1, a2, a0, a4, a3⟩ | ⟨a1, a2, a0, a4, a3⟩ <;> rcases g35 with ⟨b1, b2, b3⟩ | ⟨b1, b2, b0, b4, b3⟩ | ⟨b1, b2, b0, b4, b3⟩ <;> first | (exfalso; omega) | (rw [a3, b3]; exact hF) | (rw [a3, b3]; exact zl_fu hF (by omega)) | (rw [a3, b3]; exact zl_fn hF (by decide) (by decide))
    have hD40 : ∀ j : Nat, (σ10.1 16 j).toInt = (σ31.1 3 j).toInt := by rcases g14 with ⟨a1, a2, a3⟩ | ⟨a1, a2, a0, a4, a3⟩ | ⟨a1, a2, a0, a4, a3⟩ <;> rcases g35 with ⟨b1, b2, b3⟩ | ⟨b1, b2, b0, b4, b3⟩ | ⟨b1, b2, b0, b4, b3⟩ <;> first | (exfalso; omega) | (rw [a3, b3]; exact hD) | (rw [a3, b3]; exact zl_fu hD (by omega)) | (rw [a3, b3]; exact zl_fn hD (by decide) (by decide))
    have hSL41 : ∀ j : Nat, zl_R (σ10.1 37 j) (σ31.1 24 j) := fun j => by rw [(hA34 24 j rfl).1]; exact hSL19 j
    have hSN42 : ∀ j : Nat, (σ10.1 38 j).toInt = (σ31.1 25 j).toInt := fun j => by rw [(hA34 25 j rfl).1]; exact hSN20 j
    refine zr_pop hB dL_law_340 rfl ?_
    refine zr_goto hB dL_law_341 (tgt := 1780) rfl ?_
    exact kk _ _ ⟨hO12, hO33, hT36, hN37, hL38, hF39, hD40, hSL41, hSN42⟩
  · skip
    refine zr_iconst hB dL_law_304 rfl (fun z43 hz43 => ?_)
    refine zr_goto hB dL_law_305 (tgt := 309) rfl ?_
    refine zl_callX hG (As := [.int (zt_x Z (ni + 1)), .int (zt_x Z (ni + 2)), .int z43]) (rest := []) dL_law_309 wm_L_27 rfl (c_X8_mark_0 (zl_K K (zt_X Z)) hG.2.2.2.2.2.2.2.2.2.1 σX (zt_x Z (ni + 1)) (zt_x Z (ni + 2)) z43 hOX (by omega) (by omega)) rfl rfl (Nat.le_of_ble_eq_true rfl) ⟨(Nat.le_of_ble_eq_true rfl), (Nat.le_of_ble_eq_true rfl), rfl, rfl⟩ (fun r44 σ45 h46 => ?_)
    obtain ⟨hO47, hA48, r44a, r44b, g49⟩ := h46
    have hN50 : (σ45.1 1 0).toInt = (σM.1 0 1).toInt := by rw [(hA48 1 0 rfl).1]; exact hN
    have hL51 : (σ45.1 2 1).toInt = (σM.1 0 6).toInt := by rw [(hA48 2 1 rfl).1]; exact hL
    have hSL54 : ∀ j : Nat, zl_R (σ45.1 37 j) (σM.1 24 j) := fun j => by rw [(hA48 37 j rfl).1]; exact hSL j
    have hSN55 : ∀ j : Nat, (σ45.1 38 j).toInt = (σM.1 25 j).toInt := fun j => by rw [(hA48 38 j rfl).1]; exact hSN j
    refine zr_pop hB dL_law_312 rfl ?_
    refine zr_aload_n hB 1 dL_law_313 rfl ?_
    refine zr_aload_n hB 3 dL_law_314 rfl ?_
    refine zr_iload_n hB 0 dL_law_315 rfl ?_
    refine zr_iconst hB dL_law_316 rfl (fun z56 hz56 => ?_)
    refine zr_iadd hB dL_law_317 (by omega) (by omega) (fun z57 hz57 => ?_)
    refine zl_sld hG (ni + 1) dL_law_318 (by omega) (by omega) ?_
    clear hz56 hz57
    refine zr_aload_n hB 3 dL_law_319 rfl ?_
    refine zr_iload_n hB 0 dL_law_320 rfl ?_
    refine zr_iconst hB dL_law_321 rfl (fun z58 hz58 => ?_)
    refine zr_iadd hB dL_law_322 (by omega) (by omega) (fun z59 hz59 => ?_)
    refine zl_sld hG (ni + 2) dL_law_323 (by omega) (by omega) ?_
    clear hz58 hz59
    refine zr_aload_n hB 3 dL_law_324 rfl ?_
    refine zr_iload_n hB 0 dL_law_325 rfl ?_
    refine zr_iconst hB dL_law_326 rfl (fun z60 hz60 => ?_)
    refine zr_iadd hB dL_law_327 (by omega) (by omega) (fun z61 hz61 => ?_)
    refine zl_sld hG (ni + 3) dL_law_328 (by omega) (by omega) ?_
    clear hz60 hz61
    refine zr_if_eq hB dL_law_329 (tgt := 336) rfl (fun h63 => absurd h63 h7) (fun h63 => ?_)
    refine zr_iconst hB dL_law_332 rfl (fun z64 hz64 => ?_)
    refine zr_goto hB dL_law_333 (tgt := 337) rfl ?_
    refine zl_callM hG (As := [.int (zt_x Z (ni + 1)), .int (zt_x Z (ni + 2)), .int z64]) (rest := []) dL_law_337 wm_L_31 rfl (c_M_mark (zl_K K (zt_M Z)) hG.2.2.2.2.2.2.2.2.2.2.1 σM (zt_x Z (ni + 1)) (zt_x Z (ni + 2)) z64 hOM (by omega) (by omega)) rfl rfl (Nat.le_of_ble_eq_true rfl) ⟨(Nat.le_of_ble_eq_true rfl), (Nat.le_of_ble_eq_true rfl), rfl, rfl⟩ (fun r65 σ66 h67 => ?_)
    obtain ⟨hO68, hA69, r65a, r65b, g70⟩ := h67
    have hT71 := zm_T.ag hT hA69 rfl (fun _ => rfl) (fun _ => rfl)
    have hN72 : (σ45.1 1 0).toInt = (σ66.1 0 1).toInt := by rw [(hA69 0 1 rfl).1]; exact hN50
    have hL73 : (σ45.1 2 1).toInt = (σ66.1 0 6).toInt := by rw [(hA69 0 6 rfl).1]; exact hL51
    have hF74 : ∀ j : Nat, (σ45.1 15 j).toInt = (σ66.1 2 j).toInt := by rcases g49 with ⟨a1, a2, a3⟩ | ⟨a1, a2, a0, a4, a3⟩ | ⟨a1, a2, a0, a4, a3⟩ <;> rcases g70 with ⟨b1, b2, b3⟩ | ⟨b1, b2, b0, b4, b3⟩ | ⟨b1, b2, b0, b4, b3⟩ <;> first | (exfalso; omega) | (rw [a3, b3]; exact hF) | (rw [a3, b3]; exact zl_fu hF (by omega)) | (rw [a3, b3]; exact zl_fn hF (by decide) (by decide))
    have hD75 : ∀ j : Nat, (σ45.1 16 j).toInt = (σ66.1 3 j).toInt := by rcases g49 with ⟨a1, a2, a3⟩ | ⟨a1, a2, a0, a4, a3⟩ | ⟨a1, a2, a0, a4, a3⟩ <;> rcases g70 with ⟨b1, b2, b3⟩ | ⟨b1, b2, b0, b4, b3⟩ | ⟨b1, b2, b0, b4, b3⟩ <;> first | (exfalso; omega) | (rw [a3, b3]; exact hD) | (rw [a3, b3]; exact zl_fu hD (by omega)) | (rw [a3, b3]; exact zl_fn hD (by decide) (by decide))
    have hSL76 : ∀ j : Nat, zl_R (σ45.1 37 j) (σ66.1 24 j) := fun j => by rw [(hA69 24 j rfl).1]; exact hSL54 j
    have hSN77 : ∀ j : Nat, (σ45.1 38 j).toInt = (σ66.1 25 j).toInt := fun j => by rw [(hA69 25 j rfl).1]; exact hSN55 j
    refine zr_pop hB dL_law_340 rfl ?_
    refine zr_goto hB dL_law_341 (tgt := 1780) rfl ?_
    exact kk _ _ ⟨hO47, hO68, hT71, hN72, hL73, hF74, hD75, hSL76, hSN77⟩

theorem lc_4 {K : zc_K} {G : zc_X} {Z : zl_T} (hG : zl_G K G Z) {σX σM : zc_S} {i : Int32} {ni : Nat} (hi : i.toInt = (ni : Int)) (h9 : ni + 9 ≤ zt_L Z) (hv : zl_v σX σM) (kk : ∀ σX' σM', zl_v σX' σM' → zc_V 4 K G (zl_I K G Z σX' σM') [(3, .int i), (2, .ref (zt_M Z 0)), (1, .ref (zt_X Z 0)), (0, .ref (zt_b Z))] 1780 []) : zc_V 4 K G (zl_I K G Z σX σM) [(3, .int i), (2, .ref (zt_M Z 0)), (1, .ref (zt_X Z 0)), (0, .ref (zt_b Z))] 344 [] := by
  obtain ⟨hOX, hOM, hT, hN, hL, hF, hD, hSL, hSN⟩ := hv
  have hB := hG.1
  have hZ := hG.2.2.2.2.2.2.1
  refine zr_aload_n hB 2 dL_law_344 rfl ?_
  refine zr_aload_n hB 3 dL_law_345 rfl ?_
  refine zr_iload_n hB 0 dL_law_346 rfl ?_
  refine zr_iconst hB dL_law_347 rfl (fun z1 hz1 => ?_)
  refine zr_iadd hB dL_law_348 (by omega) (by omega) (fun z2 hz2 => ?_)
  refine zl_sld hG (ni + 1) dL_law_349 (by omega) (by omega) ?_
  clear hz1 hz2
  refine zr_i2l hB dL_law_350 (fun l3 hl3 => ?_)
  refine zr_bipush hB dL_law_351 rfl (fun z4 hz4 => ?_)
  refine zr_lshl hB dL_law_353 (fun l5 hl5 => ?_)
  refine zr_aload_n hB 3 dL_law_354 rfl ?_
  refine zr_iload_n hB 0 dL_law_355 rfl ?_
  refine zr_iconst hB dL_law_356 rfl (fun z6 hz6 => ?_)
  refine zr_iadd hB dL_law_357 (by omega) (by omega) (fun z7 hz7 => ?_)
  refine zl_sld hG (ni + 2) dL_law_358 (by omega) (by omega) ?_
  clear hz6 hz7
  refine zr_i2l hB dL_law_359 (fun l8 hl8 => ?_)
  refine zr_ldc2 hB dL_law_360 wc_L_32 rfl (fun l9 hl9 => ?_)
  refine zr_land hB dL_law_363 (fun l10 hl10 => ?_)
  refine zr_lor hB dL_law_364 (fun l11 hl11 => ?_)
  refine zl_callX hG (As := [.long l11]) (rest := []) dL_law_365 wm_L_34 rfl (c_X8_feed_0 (zl_K K (zt_X Z)) hG.2.2.2.2.2.2.2.2.2.1 σX l11 hOX ) rfl rfl (Nat.le_of_ble_eq_true rfl) ⟨(Nat.le_of_ble_eq_true rfl), (Nat.le_of_ble_eq_true rfl), rfl, rfl⟩ (fun r12 σ13 h14 => ?_)
  obtain ⟨hO15, hA16, r12a, r12b, g17⟩ := h14
  have hN18 : (σ13.1 1 0).toInt = (σM.1 0 1).toInt := by rw [(hA16 1 0 rfl).1]; exact hN
  have hF20 : ∀ j : Nat, (σ13.1 15 j).toInt = (σM.1 2 j).toInt := fun j => by rw [(hA16 15 j rfl).1]; exact hF j
  have hD21 : ∀ j : Nat, (σ13.1 16 j).toInt = (σM.1 3 j).toInt := fun j => by rw [(hA16 16 j rfl).1]; exact hD j
  have hSL22 : ∀ j : Nat, zl_R (σ13.1 37 j) (σM.1 24 j) := fun j => by rw [(hA16 37 j rfl).1]; exact hSL j
  have hSN23 : ∀ j : Nat, (σ13.1 38 j).toInt = (σM.1 25 j).toInt := fun j => by rw [(hA16 38 j rfl).1]; exact hSN j
  refine zr_pop hB dL_law_368 rfl ?_
  refine zr_aload_n hB 1 dL_law_369 rfl ?_
  refine zr_aload_n hB 3 dL_law_370 rfl ?_
  refine zr_iload_n hB 0 dL_law_371 rfl ?_
  refine zr_iconst hB dL_law_372 rfl (fun z24 hz24 => ?_)
  refine zr_iadd hB dL_law_373 (by omega) (by omega) (fun z25 hz25 => ?_)
  refine zl_sld hG (ni + 1) dL_law_374 (by omega) (by omega) ?_
  clear hz24 hz25
  refine zr_i2l hB dL_law_375 (fun l26 hl26 => ?_)
  obtain rfl : l3 = l26 := Int64.toInt_inj.mp (hl3.trans hl26.symm)
  refine zr_bipush hB dL_law_376 rfl (fun z27 hz27 => ?_)
  obtain rfl : z4 = z27 := Int32.toInt_inj.mp (hz4.trans hz27.symm)
  refine zr_lshl hB dL_law_378 (fun l28 hl28 => ?_)
  obtain rfl : l5 = l28 := hl5.trans hl28.symm
  refine zr_aload_n hB 3 dL_law_379 rfl ?_
  refine zr_iload_n hB 0 dL_law_380 rfl ?_
  refine zr_iconst hB dL_law_381 rfl (fun z29 hz29 => ?_)
  refine zr_iadd hB dL_law_382 (by omega) (by omega) (fun z30 hz30 => ?_)
  refine zl_sld hG (ni + 2) dL_law_383 (by omega) (by omega) ?_
  clear hz29 hz30
  refine zr_i2l hB dL_law_384 (fun l31 hl31 => ?_)
  obtain rfl : l8 = l31 := Int64.toInt_inj.mp (hl8.trans hl31.symm)
  refine zr_ldc2 hB dL_law_385 wc_L_32 rfl (fun l32 hl32 => ?_)
  obtain rfl : l9 = l32 := Int64.toInt_inj.mp (hl9.trans hl32.symm)
  refine zr_land hB dL_law_388 (fun l33 hl33 => ?_)
  obtain rfl : l10 = l33 := hl10.trans hl33.symm
  refine zr_lor hB dL_law_389 (fun l34 hl34 => ?_)
  obtain rfl : l11 = l34 := hl11.trans hl34.symm
  refine zl_callM hG (As := [.long l11]) (rest := []) dL_law_390 wm_L_38 rfl (c_M_feed (zl_K K (zt_M Z)) hG.2.2.2.2.2.2.2.2.2.2.1 σM l11 hOM ) rfl rfl (Nat.le_of_ble_eq_true rfl) ⟨(Nat.le_of_ble_eq_true rfl), (Nat.le_of_ble_eq_true rfl), rfl, rfl⟩ (fun r35 σ36 h37 => ?_)
  obtain ⟨hO38, hA39, r35a, r35b, g40⟩ := h37
  have hT41 := zm_T.ag hT hA39 rfl (fun _ => rfl) (fun _ => rfl)
  have hN42 : (σ13.1 1 0).toInt = (σ36.1 0 1).toInt := by rw [(hA39 0 1 rfl).1]; exact hN18
  have hL43 : (σ13.1 2 1).toInt = (σ36.1 0 6).toInt := by omega
  have hF44 : ∀ j : Nat, (σ13.1 15 j).toInt = (σ36.1 2 j).toInt := fun j => by rw [(hA39 2 j rfl).1]; exact hF20 j
  have hD45 : ∀ j : Nat, (σ13.1 16 j).toInt = (σ36.1 3 j).toInt := fun j => by rw [(hA39 3 j rfl).1]; exact hD21 j
  have hSL46 : ∀ j : Nat, zl_R (σ13.1 37 j) (σ36.1 24 j) := fun j => by rw [(hA39 24 j rfl).1]; exact hSL22 j
  have hSN47 : ∀ j : Nat, (σ13.1 38 j).toInt = (σ36.1 25 j).toInt := fun j => by rw [(hA39 25 j rfl).1]; exact hSN23 j
  refine zr_pop hB dL_law_393 rfl ?_
  refine zr_goto hB dL_law_394 (tgt := 1780) rfl ?_
  exact kk _ _ ⟨hO15, hO38, hT41, hN42, hL43, hF44, hD45, hSL46, hSN47⟩

theorem lc_5 {K : zc_K} {G : zc_X} {Z : zl_T} (hG : zl_G K G Z) {σX σM : zc_S} {i : Int32} {ni : Nat} (hi : i.toInt = (ni : Int)) (h9 : ni + 9 ≤ zt_L Z) (hv : zl_v σX σM) (kk : ∀ σX' σM', zl_v σX' σM' → zc_V 4 K G (zl_I K G Z σX' σM') [(3, .int i), (2, .ref (zt_M Z 0)), (1, .ref (zt_X Z 0)), (0, .ref (zt_b Z))] 1780 []) : zc_V 4 K G (zl_I K G Z σX σM) [(3, .int i), (2, .ref (zt_M Z 0)), (1, .ref (zt_X Z 0)), (0, .ref (zt_b Z))] 397 [] := by
  obtain ⟨hOX, hOM, hT, hN, hL, hF, hD, hSL, hSN⟩ := hv
  have hB := hG.1
  have hZ := hG.2.2.2.2.2.2.1
  refine zr_aload_n hB 2 dL_law_397 rfl ?_
  refine zr_aload_n hB 3 dL_law_398 rfl ?_
  refine zr_iload_n hB 0 dL_law_399 rfl ?_
  refine zr_iconst hB dL_law_400 rfl (fun z1 hz1 => ?_)
  refine zr_iadd hB dL_law_401 (by omega) (by omega) (fun z2 hz2 => ?_)
  refine zl_sld hG (ni + 1) dL_law_402 (by omega) (by omega) ?_
  clear hz1 hz2
  refine zl_callX hG (As := [.int (zt_x Z (ni + 1))]) (rest := []) dL_law_403 wm_L_39 rfl (c_X8_end_0 (zl_K K (zt_X Z)) hG.2.2.2.2.2.2.2.2.2.1 σX (zt_x Z (ni + 1)) hOX ) rfl rfl (Nat.le_of_ble_eq_true rfl) ⟨(Nat.le_of_ble_eq_true rfl), (Nat.le_of_ble_eq_true rfl), rfl, rfl⟩ (fun r3 σ4 h5 => ?_)
  obtain ⟨hO6, hA7, r3a, r3b, g8⟩ := h5
  have hN9 : (σ4.1 1 0).toInt = (σM.1 0 1).toInt := by rw [(hA7 1 0 rfl).1]; exact hN
  have hF11 : ∀ j : Nat, (σ4.1 15 j).toInt = (σM.1 2 j).toInt := fun j => by rw [(hA7 15 j rfl).1]; exact hF j
  have hD12 : ∀ j : Nat, (σ4.1 16 j).toInt = (σM.1 3 j).toInt := fun j => by rw [(hA7 16 j rfl).1]; exact hD j
  have hSL13 : ∀ j : Nat, zl_R (σ4.1 37 j) (σM.1 24 j) := fun j => by rw [(hA7 37 j rfl).1]; exact hSL j
  have hSN14 : ∀ j : Nat, (σ4.1 38 j).toInt = (σM.1 25 j).toInt := fun j => by rw [(hA7 38 j rfl).1]; exact hSN j
  refine zr_pop hB dL_law_406 rfl ?_
  refine zr_aload_n hB 1 dL_law_407 rfl ?_
  refine zr_aload_n hB 3 dL_law_408 rfl ?_
  refine zr_iload_n hB 0 dL_law_409 rfl ?_
  refine zr_iconst hB dL_law_410 rfl (fun z15 hz15 => ?_)
  refine zr_iadd hB dL_law_411 (by omega) (by omega) (fun z16 hz16 => ?_)
  refine zl_sld hG (ni + 1) dL_law_412 (by omega) (by omega) ?_
  clear hz15 hz16
  refine zl_callM hG (As := [.int (zt_x Z (ni + 1))]) (rest := []) dL_law_413 wm_L_42 rfl (c_M_end (zl_K K (zt_M Z)) hG.2.2.2.2.2.2.2.2.2.2.1 σM (zt_x Z (ni + 1)) hOM ) rfl rfl (Nat.le_of_ble_eq_true rfl) ⟨(Nat.le_of_ble_eq_true rfl), (Nat.le_of_ble_eq_true rfl), rfl, rfl⟩ (fun r17 σ18 h19 => ?_)
  obtain ⟨hO20, hA21, r17a, r17b, g22⟩ := h19
  have hT23 := zm_T.ag hT hA21 rfl (fun _ => rfl) (fun _ => rfl)
  have hN24 : (σ4.1 1 0).toInt = (σ18.1 0 1).toInt := by rw [(hA21 0 1 rfl).1]; exact hN9
  have hL25 : (σ4.1 2 1).toInt = (σ18.1 0 6).toInt := by omega
  have hF26 : ∀ j : Nat, (σ4.1 15 j).toInt = (σ18.1 2 j).toInt := fun j => by rw [(hA21 2 j rfl).1]; exact hF11 j
  have hD27 : ∀ j : Nat, (σ4.1 16 j).toInt = (σ18.1 3 j).toInt := fun j => by rw [(hA21 3 j rfl).1]; exact hD12 j
  have hSL28 : ∀ j : Nat, zl_R (σ4.1 37 j) (σ18.1 24 j) := fun j => by rw [(hA21 24 j rfl).1]; exact hSL13 j
  have hSN29 : ∀ j : Nat, (σ4.1 38 j).toInt = (σ18.1 25 j).toInt := fun j => by rw [(hA21 25 j rfl).1]; exact hSN14 j
  refine zr_pop hB dL_law_416 rfl ?_
  refine zr_goto hB dL_law_417 (tgt := 1780) rfl ?_
  exact kk _ _ ⟨hO6, hO20, hT23, hN24, hL25, hF26, hD27, hSL28, hSN29⟩

theorem lc_6 {K : zc_K} {G : zc_X} {Z : zl_T} (hG : zl_G K G Z) {σX σM : zc_S} {i : Int32} {ni : Nat} (hi : i.toInt = (ni : Int)) (h9 : ni + 9 ≤ zt_L Z) (hv : zl_v σX σM) (kk : ∀ σX' σM', zl_v σX' σM' → zc_V 4 K G (zl_I K G Z σX' σM') [(3, .int i), (2, .ref (zt_M Z 0)), (1, .ref (zt_X Z 0)), (0, .ref (zt_b Z))] 1780 []) : zc_V 4 K G (zl_I K G Z σX σM) [(3, .int i), (2, .ref (zt_M Z 0)), (1, .ref (zt_X Z 0)), (0, .ref (zt_b Z))] 420 [] := by
  obtain ⟨hOX, hOM, hT, hN, hL, hF, hD, hSL, hSN⟩ := hv
  have hB := hG.1
  have hZ := hG.2.2.2.2.2.2.1
  refine zr_aload_n hB 2 dL_law_420 rfl ?_
  refine zl_callX hG (As := []) (rest := []) dL_law_421 wm_L_43 rfl (c_X8_text_0 (zl_K K (zt_X Z)) hG.2.2.2.2.2.2.2.2.2.1 σX  hOX ) rfl rfl (Nat.le_of_ble_eq_true rfl) ⟨(Nat.le_of_ble_eq_true rfl), (Nat.le_of_ble_eq_true rfl), rfl, rfl⟩ (fun r1 σ2 h3 => ?_)
  obtain ⟨hO4, hA5, r1a, r1b, g6⟩ := h3
  have hN7 : (σ2.1 1 0).toInt = (σM.1 0 1).toInt := by rw [(hA5 1 0 rfl).1]; exact hN
  have hF9 : ∀ j : Nat, (σ2.1 15 j).toInt = (σM.1 2 j).toInt := fun j => by rw [(hA5 15 j rfl).1]; exact hF j
  have hD10 : ∀ j : Nat, (σ2.1 16 j).toInt = (σM.1 3 j).toInt := fun j => by rw [(hA5 16 j rfl).1]; exact hD j
  have hSL11 : ∀ j : Nat, zl_R (σ2.1 37 j) (σM.1 24 j) := fun j => by rw [(hA5 37 j rfl).1]; exact hSL j
  have hSN12 : ∀ j : Nat, (σ2.1 38 j).toInt = (σM.1 25 j).toInt := fun j => by rw [(hA5 38 j rfl).1]; exact hSN j
  refine zr_pop hB dL_law_424 rfl ?_
  refine zr_aload_n hB 1 dL_law_425 rfl ?_
  refine zl_callM hG (As := []) (rest := []) dL_law_426 wm_L_47 rfl (c_M_text (zl_K K (zt_M Z)) hG.2.2.2.2.2.2.2.2.2.2.1 σM  hOM hT) rfl rfl (Nat.le_of_ble_eq_true rfl) ⟨(Nat.le_of_ble_eq_true rfl), (Nat.le_of_ble_eq_true rfl), rfl, rfl⟩ (fun r13 σ14 h15 => ?_)
  obtain ⟨hO16, hA17, r13a, r13b, g18, g19⟩ := h15
  have hT20 := g19
  have hN21 : (σ2.1 1 0).toInt = (σ14.1 0 1).toInt := by rw [(hA17 0 1 rfl).1]; exact hN7
  have hL22 : (σ2.1 2 1).toInt = (σ14.1 0 6).toInt := by omega
  have hF23 : ∀ j : Nat, (σ2.1 15 j).toInt = (σ14.1 2 j).toInt := fun j => by rw [(hA17 2 j rfl).1]; exact hF9 j
  have hD24 : ∀ j : Nat, (σ2.1 16 j).toInt = (σ14.1 3 j).toInt := fun j => by rw [(hA17 3 j rfl).1]; exact hD10 j
  have hSL25 : ∀ j : Nat, zl_R (σ2.1 37 j) (σ14.1 24 j) := fun j => by rw [(hA17 24 j rfl).1]; exact hSL11 j
  have hSN26 : ∀ j : Nat, (σ2.1 38 j).toInt = (σ14.1 25 j).toInt := fun j => by rw [(hA17 25 j rfl).1]; exact hSN12 j
  refine zr_pop hB dL_law_429 rfl ?_
  refine zr_goto hB dL_law_430 (tgt := 1780) rfl ?_
  exact kk _ _ ⟨hO4, hO16, hT20, hN21, hL22, hF23, hD24, hSL25, hSN26⟩

theorem lc_7 {K : zc_K} {G : zc_X} {Z : zl_T} (hG : zl_G K G Z) {σX σM : zc_S} {i : Int32} {ni : Nat} (hi : i.toInt = (ni : Int)) (h9 : ni + 9 ≤ zt_L Z) (hv : zl_v σX σM) (kk : ∀ σX' σM', zl_v σX' σM' → zc_V 4 K G (zl_I K G Z σX' σM') [(3, .int i), (2, .ref (zt_M Z 0)), (1, .ref (zt_X Z 0)), (0, .ref (zt_b Z))] 1780 []) : zc_V 4 K G (zl_I K G Z σX σM) [(3, .int i), (2, .ref (zt_M Z 0)), (1, .ref (zt_X Z 0)), (0, .ref (zt_b Z))] 433 [] := by
  obtain ⟨hOX, hOM, hT, hN, hL, hF, hD, hSL, hSN⟩ := hv
  have hB := hG.1
  have hZ := hG.2.2.2.2.2.2.1
  refine zr_aload_n hB 2 dL_law_433 rfl ?_
  refine zl_callX hG (As := []) (rest := []) dL_law_434 wm_L_48 rfl (c_X8_fault_0 (zl_K K (zt_X Z)) hG.2.2.2.2.2.2.2.2.2.1 σX  hOX ) rfl rfl (Nat.le_of_ble_eq_true rfl) ⟨(Nat.le_of_ble_eq_true rfl), (Nat.le_of_ble_eq_true rfl), rfl, rfl⟩ (fun r1 σ2 h3 => ?_)
  obtain ⟨rfl, r1a, r1b⟩ := h3
  refine zr_pop hB dL_law_437 rfl ?_
  refine zr_aload_n hB 1 dL_law_438 rfl ?_
  refine zl_callM hG (As := []) (rest := []) dL_law_439 wm_L_51 rfl (c_M_fault (zl_K K (zt_M Z)) hG.2.2.2.2.2.2.2.2.2.2.1 σM  hOM ) rfl rfl (Nat.le_of_ble_eq_true rfl) ⟨(Nat.le_of_ble_eq_true rfl), (Nat.le_of_ble_eq_true rfl), rfl, rfl⟩ (fun r4 σ5 h6 => ?_)
  obtain ⟨rfl, r4a, r4b⟩ := h6
  refine zr_pop hB dL_law_442 rfl ?_
  refine zr_goto hB dL_law_443 (tgt := 1780) rfl ?_
  exact kk _ _ ⟨hOX, hOM, hT, hN, hL, hF, hD, hSL, hSN⟩

