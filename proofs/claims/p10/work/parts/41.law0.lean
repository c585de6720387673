def zl_v (σX σM : zc_S) : Prop := zc_O okX σX ∧ zc_O okM σM ∧ zm_T σM ∧ ((σX.1 1 0).toInt = (σM.1 0 1).toInt) ∧ ((σX.1 2 1).toInt = (σM.1 0 6).toInt) ∧ (∀ j : Nat, (σX.1 15 j).toInt = (σM.1 2 j).toInt) ∧ (∀ j : Nat, (σX.1 16 j).toInt = (σM.1 3 j).toInt) ∧ (∀ j : Nat, zl_R (σX.1 37 j) (σM.1 24 j)) ∧ (∀ j : Nat, (σX.1 38 j).toInt = (σM.1 25 j).toInt) ∧ (zl_B σX σM) ∧ ((σX.1 2 3).toInt = (σM.1 0 7).toInt) ∧ (zl_E σX σM) ∧ (zw_K σM)
theorem lc_0 {K : zc_K} {G : zc_X} {Z : zl_T} (hG : zl_G K G Z) {σX σM : zc_S} {i : Int32} {ni : Nat} (hi : i.toInt = (ni : Int)) (h9 : ni + 9 ≤ zt_L Z) (hv : zl_v σX σM) (kk : ∀ σX' σM', zl_v σX' σM' → zc_V 4 K G (zl_I K G Z σX' σM') [(3, .int i), (2, .ref (zt_M Z 0)), (1, .ref (zt_X Z 0)), (0, .ref (zt_b Z))] 1780 []) : zc_V 4 K G (zl_I K G Z σX σM) [(3, .int i), (2, .ref (zt_M Z 0)), (1, .ref (zt_X Z 0)), (0, .ref (zt_b Z))] 176 [] := by
  obtain ⟨hOX, hOM, hT, hN, hL, hF, hD, hSL, hSN, hBY, hFA, hE, hK⟩ := hv
  have hB := hG.1
  have hZ := hG.2.2.2.2.2.2.1
  refine zr_aload_n hB 2 dL_law_176 rfl ?_
  refine zr_aload_n hB 3 dL_law_177 rfl ?_
  refine zr_iload_n hB 0 dL_law_178 rfl ?_
  refine zr_iconst hB dL_law_179 rfl (fun z1 hz1 => ?_)
  refine zr_iadd hB dL_law_180 (by omega) (by omega) (fun z2 hz2 => ?_)
  refine zl_sld hG (ni + 1) dL_law_181 (by omega) (by omega) ?_
  clear hz1 hz2
  refine zl_callX hG (As := [.int (zt_x Z (ni + 1))]) (rest := []) dL_law_182 wm_L_13 rfl (c_X8_now_0 (zl_K K (zt_X Z)) hG.2.2.2.2.2.2.2.2.2.1 σX (zt_x Z (ni + 1)) hOX ) rfl rfl (Nat.le_of_ble_eq_true rfl) ⟨(Nat.le_of_ble_eq_true rfl), (Nat.le_of_ble_eq_true rfl), rfl, rfl⟩ (fun r3 σ4 h5 => ?_)
  obtain ⟨hO6, hA7, r3a, r3b, g8⟩ := h5
  have hL10 : (σ4.1 2 1).toInt = (σM.1 0 6).toInt := by rw [(hA7 2 1 rfl).1]; exact hL
  have hF11 : ∀ j : Nat, (σ4.1 15 j).toInt = (σM.1 2 j).toInt := fun j => by rw [(hA7 15 j rfl).1]; exact hF j
  have hD12 : ∀ j : Nat, (σ4.1 16 j).toInt = (σM.1 3 j).toInt := fun j => by rw [(hA7 16 j rfl).1]; exact hD j
  have hSL13 : ∀ j : Nat, zl_R (σ4.1 37 j) (σM.1 24 j) := fun j => by rw [(hA7 37 j rfl).1]; exact hSL j
  have hSN14 : ∀ j : Nat, (σ4.1 38 j).toInt = (σM.1 25 j).toInt := fun j => by rw [(hA7 38 j rfl).1]; exact hSN j
  have hBY15 : zl_B σ4 σM := hBY.x hA7 rfl (fun _ => rfl)
  have hFA16 : (σ4.1 2 3).toInt = (σM.1 0 7).toInt := by rw [(hA7 2 3 rfl).1]; exact hFA
  have hE17 : zl_E σ4 σM := hE.x hA7 rfl (fun _ => rfl) (fun _ => rfl) (fun _ => rfl)
  have hK18 : zw_K σM := hK
  refine zr_pop hB dL_law_185 rfl ?_
  refine zr_aload_n hB 1 dL_law_186 rfl ?_
  refine zr_aload_n hB 3 dL_law_187 rfl ?_
  refine zr_iload_n hB 0 dL_law_188 rfl ?_
  refine zr_iconst hB dL_law_189 rfl (fun z19 hz19 => ?_)
  refine zr_iadd hB dL_law_190 (by omega) (by omega) (fun z20 hz20 => ?_)
  refine zl_sld hG (ni + 1) dL_law_191 (by omega) (by omega) ?_
  clear hz19 hz20
  refine zl_callM hG (As := [.int (zt_x Z (ni + 1))]) (rest := []) dL_law_192 wm_L_17 rfl (c_M_now (zl_K K (zt_M Z)) hG.2.2.2.2.2.2.2.2.2.2.1 σM (zt_x Z (ni + 1)) hOM ) rfl rfl (Nat.le_of_ble_eq_true rfl) ⟨(Nat.le_of_ble_eq_true rfl), (Nat.le_of_ble_eq_true rfl), rfl, rfl⟩ (fun r21 σ22 h23 => ?_)
  obtain ⟨hO24, hA25, r21a, r21b, g26⟩ := h23
  have hT27 := zm_T.ag hT hA25 rfl (fun _ => rfl) (fun _ => rfl)
  have hN28 : (σ4.1 1 0).toInt = (σ22.1 0 1).toInt := by omega
  have hL29 : (σ4.1 2 1).toInt = (σ22.1 0 6).toInt := by rw [(hA25 0 6 rfl).1]; exact hL10
  have hF30 : ∀ j : Nat, (σ4.1 15 j).toInt = (σ22.1 2 j).toInt := fun j => by rw [(hA25 2 j rfl).1]; exact hF11 j
  have hD31 : ∀ j : Nat, (σ4.1 16 j).toInt = (σ22.1 3 j).toInt := fun j => by rw [(hA25 3 j rfl).1]; exact hD12 j
  have hSL32 : ∀ j : Nat, zl_R (σ4.1 37 j) (σ22.1 24 j) := fun j => by rw [(hA25 24 j rfl).1]; exact hSL13 j
  have hSN33 : ∀ j : Nat, (σ4.1 38 j).toInt = (σ22.1 25 j).toInt := fun j => by rw [(hA25 25 j rfl).1]; exact hSN14 j
  have hBY34 : zl_B σ4 σ22 := hBY15.m hA25 (fun _ => rfl)
  have hFA35 : (σ4.1 2 3).toInt = (σ22.1 0 7).toInt := by rw [(hA25 0 7 rfl).1]; exact hFA16
  have hE36 : zl_E σ4 σ22 := hE17.m hA25 rfl (fun _ => rfl) (fun _ => rfl) (fun _ => rfl)
  have hK37 : zw_K σ22 := zw_K.ag hK18 hA25 rfl (fun _ => rfl) (fun _ => rfl)
  refine zr_pop hB dL_law_195 rfl ?_
  refine zr_goto hB dL_law_196 (tgt := 1780) rfl ?_
  exact kk _ _ ⟨hO6, hO24, hT27, hN28, hL29, hF30, hD31, hSL32, hSN33, hBY34, hFA35, hE36, hK37⟩

theorem lc_1 {K : zc_K} {G : zc_X} {Z : zl_T} (hG : zl_G K G Z) {σX σM : zc_S} {i : Int32} {ni : Nat} (hi : i.toInt = (ni : Int)) (h9 : ni + 9 ≤ zt_L Z) (hv : zl_v σX σM) (kk : ∀ σX' σM', zl_v σX' σM' → zc_V 4 K G (zl_I K G Z σX' σM') [(3, .int i), (2, .ref (zt_M Z 0)), (1, .ref (zt_X Z 0)), (0, .ref (zt_b Z))] 1780 []) : zc_V 4 K G (zl_I K G Z σX σM) [(3, .int i), (2, .ref (zt_M Z 0)), (1, .ref (zt_X Z 0)), (0, .ref (zt_b Z))] 199 [] := by
  obtain ⟨hOX, hOM, hT, hN, hL, hF, hD, hSL, hSN, hBY, hFA, hE, hK⟩ := hv
  have hB := hG.1
  have hZ := hG.2.2.2.2.2.2.1
  refine zr_aload_n hB 2 dL_law_199 rfl ?_
  refine zr_aload_n hB 3 dL_law_200 rfl ?_
  refine zr_iload_n hB 0 dL_law_201 rfl ?_
  refine zr_iconst hB dL_law_202 rfl (fun z1 hz1 => ?_)
  refine zr_iadd hB dL_law_203 (by omega) (by omega) (fun z2 hz2 => ?_)
  refine zl_sld hG (ni + 1) dL_law_204 (by omega) (by omega) ?_
  clear hz1 hz2
  refine zr_aload_n hB 3 dL_law_205 rfl ?_
  refine zr_iload_n hB 0 dL_law_206 rfl ?_
  refine zr_iconst hB dL_law_207 rfl (fun z3 hz3 => ?_)
  refine zr_iadd hB dL_law_208 (by omega) (by omega) (fun z4 hz4 => ?_)
  refine zl_sld hG (ni + 2) dL_law_209 (by omega) (by omega) ?_
  clear hz3 hz4
  refine zr_aload_n hB 3 dL_law_210 rfl ?_
  refine zr_iload_n hB 0 dL_law_211 rfl ?_
  refine zr_iconst hB dL_law_212 rfl (fun z5 hz5 => ?_)
  refine zr_iadd hB dL_law_213 (by omega) (by omega) (fun z6 hz6 => ?_)
  refine zl_sld hG (ni + 3) dL_law_214 (by omega) (by omega) ?_
  clear hz5 hz6
  refine zl_callX hG (As := [.int (zt_x Z (ni + 1)), .int (zt_x Z (ni + 2)), .int (zt_x Z (ni + 3))]) (rest := []) dL_law_215 wm_L_18 rfl (c_X8_figure_0 (zl_K K (zt_X Z)) hG.2.2.2.2.2.2.2.2.2.1 σX (zt_x Z (ni + 1)) (zt_x Z (ni + 2)) (zt_x Z (ni + 3)) hOX ) rfl rfl (Nat.le_of_ble_eq_true rfl) ⟨(Nat.le_of_ble_eq_true rfl), (Nat.le_of_ble_eq_true rfl), rfl, rfl⟩ (fun r7 σ8 h9 => ?_)
  obtain ⟨hO10, hA11, r7a, r7b⟩ := h9
  have hN12 : (σ8.1 1 0).toInt = (σM.1 0 1).toInt := by rw [(hA11 1 0 rfl).1]; exact hN
  have hL13 : (σ8.1 2 1).toInt = (σM.1 0 6).toInt := by rw [(hA11 2 1 rfl).1]; exact hL
  have hF14 : ∀ j : Nat, (σ8.1 15 j).toInt = (σM.1 2 j).toInt := fun j => by rw [(hA11 15 j rfl).1]; exact hF j
  have hD15 : ∀ j : Nat, (σ8.1 16 j).toInt = (σM.1 3 j).toInt := fun j => by rw [(hA11 16 j rfl).1]; exact hD j
  have hSL16 : ∀ j : Nat, zl_R (σ8.1 37 j) (σM.1 24 j) := fun j => by rw [(hA11 37 j rfl).1]; exact hSL j
  have hSN17 : ∀ j : Nat, (σ8.1 38 j).toInt = (σM.1 25 j).toInt := fun j => by rw [(hA11 38 j rfl).1]; exact hSN j
  have hBY18 : zl_B σ8 σM := hBY.x hA11 rfl (fun _ => rfl)
  have hFA19 : (σ8.1 2 3).toInt = (σM.1 0 7).toInt := by rw [(hA11 2 3 rfl).1]; exact hFA
  have hE20 : zl_E σ8 σM := hE.x hA11 rfl (fun _ => rfl) (fun _ => rfl) (fun _ => rfl)
  have hK21 : zw_K σM := hK
  refine zr_pop hB dL_law_218 rfl ?_
  refine zr_aload_n hB 1 dL_law_219 rfl ?_
  refine zr_aload_n hB 3 dL_law_220 rfl ?_
  refine zr_iload_n hB 0 dL_law_221 rfl ?_
  refine zr_iconst hB dL_law_222 rfl (fun z22 hz22 => ?_)
  refine zr_iadd hB dL_law_223 (by omega) (by omega) (fun z23 hz23 => ?_)
  refine zl_sld hG (ni + 1) dL_law_224 (by omega) (by omega) ?_
  clear hz22 hz23
  refine zr_aload_n hB 3 dL_law_225 rfl ?_
  refine zr_iload_n hB 0 dL_law_226 rfl ?_
  refine zr_iconst hB dL_law_227 rfl (fun z24 hz24 => ?_)
  refine zr_iadd hB dL_law_228 (by omega) (by omega) (fun z25 hz25 => ?_)
  refine zl_sld hG (ni + 2) dL_law_229 (by omega) (by omega) ?_
  clear hz24 hz25
  refine zr_aload_n hB 3 dL_law_230 rfl ?_
  refine zr_iload_n hB 0 dL_law_231 rfl ?_
  refine zr_iconst hB dL_law_232 rfl (fun z26 hz26 => ?_)
  refine zr_iadd hB dL_law_233 (by omega) (by omega) (fun z27 hz27 => ?_)
  refine zl_sld hG (ni + 3) dL_law_234 (by omega) (by omega) ?_
  clear hz26 hz27
  refine zl_callM hG (As := [.int (zt_x Z (ni + 1)), .int (zt_x Z (ni + 2)), .int (zt_x Z (ni + 3))]) (rest := []) dL_law_235 wm_L_22 rfl (c_M_figure (zl_K K (zt_M Z)) hG.2.2.2.2.2.2.2.2.2.2.1 σM (zt_x Z (ni + 1)) (zt_x Z (ni + 2)) (zt_x Z (ni + 3)) hOM ) rfl rfl (Nat.le_of_ble_eq_true rfl) ⟨(Nat.le_of_ble_eq_true rfl), (Nat.le_of_ble_eq_true rfl), rfl, rfl⟩ (fun r28 σ29 h30 => ?_)
  obtain ⟨hO31, hA32, r28a, r28b⟩ := h30
  have hT33 := zm_T.ag hT hA32 rfl (fun _ => rfl) (fun _ => rfl)
  have hN34 : (σ8.1 1 0).toInt = (σ29.1 0 1).toInt := by rw [(hA32 0 1 rfl).1]; exact hN12
  have hL35 : (σ8.1 2 1).toInt = (σ29.1 0 6).toInt := by rw [(hA32 0 6 rfl).1]; exact hL13
  have hF36 : ∀ j : Nat, (σ8.1 15 j).toInt = (σ29.1 2 j).toInt := fun j => by rw [(hA32 2 j rfl).1]; exact hF14 j
  have hD37 : ∀ j : Nat, (σ8.1 16 j).toInt = (σ29.1 3 j).toInt := fun j => by rw [(hA32 3 j rfl).1]; exact hD15 j
  have hSL38 : ∀ j : Nat, zl_R (σ8.1 37 j) (σ29.1 24 j) := fun j => by rw [(hA32 24 j rfl).1]; exact hSL16 j
  have hSN39 : ∀ j : Nat, (σ8.1 38 j).toInt = (σ29.1 25 j).toInt := fun j => by rw [(hA32 25 j rfl).1]; exact hSN17 j
  have hBY40 : zl_B σ8 σ29 := hBY18.m hA32 (fun _ => rfl)
  have hFA41 : (σ8.1 2 3).toInt = (σ29.1 0 7).toInt := by rw [(hA32 0 7 rfl).1]; exact hFA19
  have hE42 : zl_E σ8 σ29 := hE20.m hA32 rfl (fun _ => rfl) (fun _ => rfl) (fun _ => rfl)
  have hK43 : zw_K σ29 := zw_K.ag hK21 hA32 rfl (fun _ => rfl) (fun _ => rfl)
  refine zr_pop hB dL_law_238 rfl ?_
  refine zr_goto hB dL_law_239 (tgt := 1780) rfl ?_
  exact kk _ _ ⟨hO10, hO31, hT33, hN34, hL35, hF36, hD37, hSL38, hSN39, hBY40, hFA41, hE42, hK43⟩

theorem lc_2 {K : zc_K} {G : zc_X} {Z : zl_T} (hG : zl_G K G Z) {σX σM : zc_S} {i : Int32} {ni : Nat} (hi : i.toInt = (ni : Int)) (h9 : ni + 9 ≤ zt_L Z) (hv : zl_v σX σM) (kk : ∀ σX' σM', zl_v σX' σM' → zc_V 4 K G (zl_I K G Z σX' σM') [(3, .int i), (2, .ref (zt_M Z 0)), (1, .ref (zt_X Z 0)), (0, .ref (zt_b Z))] 1780 []) : zc_V 4 K G (zl_I K G Z σX σM) [(3, .int i), (2, .ref (zt_M Z 0)), (1, .ref (zt_X Z 0)), (0, .ref (zt_b Z))] 242 [] := by
  obtain ⟨hOX, hOM, hT, hN, hL, hF, hD, hSL, hSN, hBY, hFA, hE, hK⟩ := hv
  have hB := hG.1
  have hZ := hG.2.2.2.2.2.2.1
  refine zr_aload_n hB 2 dL_law_242 rfl ?_
  refine zr_aload_n hB 3 dL_law_243 rfl ?_
  refine zr_iload_n hB 0 dL_law_244 rfl ?_
  refine zr_iconst hB dL_law_245 rfl (fun z1 hz1 => ?_)
  refine zr_iadd hB dL_law_246 (by omega) (by omega) (fun z2 hz2 => ?_)
  refine zl_sld hG (ni + 1) dL_law_247 (by omega) (by omega) ?_
  clear hz1 hz2
  refine zr_aload_n hB 3 dL_law_248 rfl ?_
  refine zr_iload_n hB 0 dL_law_249 rfl ?_
  refine zr_iconst hB dL_law_250 rfl (fun z3 hz3 => ?_)
  refine zr_iadd hB dL_law_251 (by omega) (by omega) (fun z4 hz4 => ?_)
  refine zl_sld hG (ni + 2) dL_law_252 (by omega) (by omega) ?_
  clear hz3 hz4
  refine zr_aload_n hB 3 dL_law_253 rfl ?_
  refine zr_iload_n hB 0 dL_law_254 rfl ?_
  refine zr_iconst hB dL_law_255 rfl (fun z5 hz5 => ?_)
  refine zr_iadd hB dL_law_256 (by omega) (by omega) (fun z6 hz6 => ?_)
  refine zl_sld hG (ni + 3) dL_law_257 (by omega) (by omega) ?_
  clear hz5 hz6
  refine zl_callX hG (As := [.int (zt_x Z (ni + 1)), .int (zt_x Z (ni + 2)), .int (zt_x Z (ni + 3))]) (rest := []) dL_law_258 wm_L_23 rfl (c_X8_known_0 (zl_K K (zt_X Z)) hG.2.2.2.2.2.2.2.2.2.1 σX (zt_x Z (ni + 1)) (zt_x Z (ni + 2)) (zt_x Z (ni + 3)) hOX ) rfl rfl (Nat.le_of_ble_eq_true rfl) ⟨(Nat.le_of_ble_eq_true rfl), (Nat.le_of_ble_eq_true rfl), rfl, rfl⟩ (fun r7 σ8 h9 => ?_)
  obtain ⟨rfl, r7a, r7b⟩ := h9
  refine zr_pop hB dL_law_261 rfl ?_
  refine zr_aload_n hB 1 dL_law_262 rfl ?_
  refine zr_aload_n hB 3 dL_law_263 rfl ?_
  refine zr_iload_n hB 0 dL_law_264 rfl ?_
  refine zr_iconst hB dL_law_265 rfl (fun z10 hz10 => ?_)
  refine zr_iadd hB dL_law_266 (by omega) (by omega) (fun z11 hz11 => ?_)
  refine zl_sld hG (ni + 1) dL_law_267 (by omega) (by omega) ?_
  clear hz10 hz11
  refine zr_aload_n hB 3 dL_law_268 rfl ?_
  refine zr_iload_n hB 0 dL_law_269 rfl ?_
  refine zr_iconst hB dL_law_270 rfl (fun z12 hz12 => ?_)
  refine zr_iadd hB dL_law_271 (by omega) (by omega) (fun z13 hz13 => ?_)
  refine zl_sld hG (ni + 2) dL_law_272 (by omega) (by omega) ?_
  clear hz12 hz13
  refine zr_aload_n hB 3 dL_law_273 rfl ?_
  refine zr_iload_n hB 0 dL_law_274 rfl ?_
  refine zr_iconst hB dL_law_275 rfl (fun z14 hz14 => ?_)
  refine zr_iadd hB dL_law_276 (by omega) (by omega) (fun z15 hz15 => ?_)
  refine zl_sld hG (ni + 3) dL_law_277 (by omega) (by omega) ?_
  clear hz14 hz15
  refine zl_callM hG (As := [.int (zt_x Z (ni + 1)), .int (zt_x Z (ni + 2)), .int (zt_x Z (ni + 3))]) (rest := []) dL_law_278 wm_L_26 rfl (c_M_known (zl_K K (zt_M Z)) hG.2.2.2.2.2.2.2.2.2.2.1 σM (zt_x Z (ni + 1)) (zt_x Z (ni + 2)) (zt_x Z (ni + 3)) hOM ) rfl rfl (Nat.le_of_ble_eq_true rfl) ⟨(Nat.le_of_ble_eq_true rfl), (Nat.le_of_ble_eq_true rfl), rfl, rfl⟩ (fun r16 σ17 h18 => ?_)
  obtain ⟨rfl, r16a, r16b⟩ := h18
  refine zr_pop hB dL_law_281 rfl ?_
  refine zr_goto hB dL_law_282 (tgt := 1780) rfl ?_
  exact kk _ _ ⟨hOX, hOM, hT, hN, hL, hF, hD, hSL, hSN, hBY, hFA, hE, hK⟩

theorem lc_3 {K : zc_K} {G : zc_X} {Z : zl_T} (hG : zl_G K G Z) {σX σM : zc_S} {i : Int32} {ni : Nat} (hi : i.toInt = (ni : Int)) (h9 : ni + 9 ≤ zt_L Z) (hv : zl_v σX σM) (kk : ∀ σX' σM', zl_v σX' σM' → zc_V 4 K G (zl_I K G Z σX' σM') [(3, .int i), (2, .ref (zt_M Z 0)), (1, .ref (zt_X Z 0)), (0, .ref (zt_b Z))] 1780 []) : zc_V 4 K G (zl_I K G Z σX σM) [(3, .int i), (2, .ref (zt_M Z 0)), (1, .ref (zt_X Z 0)), (0, .ref (zt_b Z))] 285 [] := by
  obtain ⟨hOX, hOM, hT, hN, hL, hF, hD, hSL, hSN, hBY, hFA, hE, hK⟩ := hv
  have hB := hG.1
  have hZ := hG.2.2.2.2.2.2.1
  refine zr_aload_n hB 2 dL_law_285 rfl ?_
  refine zr_aload_n hB 3 dL_law_286 rfl ?_
  refine zr_iload_n hB 0 dL_law_287 rfl ?_
  refine zr_iconst hB dL_law_288 rfl (fun z1 hz1 => ?_)
  refine zr_iadd hB dL_law_289 (by omega) (by omega) (fun z2 hz2 => ?_)
  refine zl_sld hG (ni + 1) dL_law_290 (by omega) (by omega) ?_
  clear hz1 hz2
  refine zr_aload_n hB 3 dL_law_291 rfl ?_
  refine zr_iload_n hB 0 dL_law_292 rfl ?_
  refine zr_iconst hB dL_law_293 rfl (fun z3 hz3 => ?_)
  refine zr_iadd hB dL_law_294 (by omega) (by omega) (fun z4 hz4 => ?_)
  refine zl_sld hG (ni + 2) dL_law_295 (by omega) (by omega) ?_
  clear hz3 hz4
  refine zr_aload_n hB 3 dL_law_296 rfl ?_
  refine zr_iload_n hB 0 dL_law_297 rfl ?_
  refine zr_iconst hB dL_law_298 rfl (fun z5 hz5 => ?_)
  refine zr_iadd hB dL_law_299 (by omega) (by omega) (fun z6 hz6 => ?_)
  refine zl_sld hG (ni + 3) dL_law_300 (by omega) (by omega) ?_
  clear hz5 hz6
  refine zr_if_eq hB dL_law_301 (tgt := 308) rfl (fun h7 => ?_) (fun h7 => ?_)
  · skip
    refine zr_iconst hB dL_law_308 rfl (fun z8 hz8 => ?_)
    refine zl_callX hG (As := [.int (zt_x Z (ni + 1)), .int (zt_x Z (ni + 2)), .int z8]) (rest := []) dL_law_309 wm_L_27 rfl (c_X8_mark_0 (zl_K K (zt_X Z)) hG.2.2.2.2.2.2.2.2.2.1 σX (zt_x Z (ni + 1)) (zt_x Z (ni + 2)) z8 hOX (by omega) (by omega)) rfl rfl (Nat.le_of_ble_eq_true rfl) ⟨(Nat.le_of_ble_eq_true rfl), (Nat.le_of_ble_eq_true rfl), rfl, rfl⟩ (fun r9 σ10 h11 => ?_)
    obtain ⟨hO12, hA13, r9a, r9b, g14⟩ := h11
    have hN15 : (σ10.1 1 0).toInt = (σM.1 0 1).toInt := by rw [(hA13 1 0 rfl).1]; exact hN
    have hL16 : (σ10.1 2 1).toInt = (σM.1 0 6).toInt := by rw [(hA13 2 1 rfl).1]; exact hL
    have hSL19 : ∀ j : Nat, zl_R (σ10.1 37 j) (σM.1 24 j) := fun j => by rw [(hA13 37 j rfl).1]; exact hSL j
    have hSN20 : ∀ j : Nat, (σ10.1 38 j).toInt = (σM.1 25 j).toInt := fun j => by rw [(hA13 38 j rfl).1]; exact hSN j
    have hBY21 : zl_B σ10 σM := hBY.x hA13 rfl (fun _ => rfl)
    have hFA22 : (σ10.1 2 3).toInt = (σM.1 0 7).toInt := by rw [(hA13 2 3 rfl).1]; exact hFA
    have hE23 : zl_E σ10 σM := hE.x hA13 rfl (fun _ => rfl) (fun _ => rfl) (fun _ => rfl)
    have hK24 : zw_K σM := hK
    refine zr_pop hB dL_law_312 rfl ?_
    refine zr_aload_n hB 1 dL_law_313 rfl ?_
    refine zr_aload_n hB 3 dL_law_314 rfl ?_
    refine zr_iload_n hB 0 dL_law_315 rfl ?_
    refine zr_iconst hB dL_law_316 rfl (fun z25 hz25 => ?_)
    refine zr_iadd hB dL_law_317 (by omega) (by omega) (fun z26 hz26 => ?_)
    refine zl_sld hG (ni + 1) dL_law_318 (by omega) (by omega) ?_
    clear hz25 hz26
    refine zr_aload_n hB 3 dL_law_319 rfl ?_
    refine zr_iload_n hB 0 dL_law_320 rfl ?_
    refine zr_iconst hB dL_law_321 rfl (fun z27 hz27 => ?_)
    refine zr_iadd hB dL_law_322 (by omega) (by omega) (fun z28 hz28 => ?_)
    refine zl_sld hG (ni + 2) dL_law_323 (by omega) (by omega) ?_
    clear hz27 hz28
    refine zr_aload_n hB 3 dL_law_324 rfl ?_
    refine zr_iload_n hB 0 dL_law_325 rfl ?_
    refine zr_iconst hB dL_law_326 rfl (fun z29 hz29 => ?_)
    refine zr_iadd hB dL_law_327 (by omega) (by omega) (fun z30 hz30 => ?_)
    refine zl_sld hG (ni + 3) dL_law_328 (by omega) (by omega) ?_
    clear hz29 hz30
    refine zr_if_eq hB dL_law_329 (tgt := 336) rfl (fun h32 => ?_) (fun h32 => absurd h7 h32)
    refine zr_iconst hB dL_law_336 rfl (fun z33 hz33 => ?_)
    refine zl_callM hG (As := [.int (zt_x Z (ni + 1)), .int (zt_x Z (ni + 2)), .int z33]) (rest := []) dL_law_337 wm_L_31 rfl (c_M_mark (zl_K K (zt_M Z)) hG.2.2.2.2.2.2.2.2.2.2.1 σM (zt_x Z (ni + 1)) (zt_x Z (ni + 2)) z33 hOM (by omega) (by omega)) rfl rfl (Nat.le_of_ble_eq_true rfl) ⟨(Nat.le_of_ble_eq_true rfl), (Nat.le_of_ble_eq_true rfl), rfl, rfl⟩ (fun r34 σ35 h36 => ?_)
    obtain ⟨hO37, hA38, r34a, r34b, g39⟩ := h36
    have hT40 := zm_T.ag hT hA38 rfl (fun _ => rfl) (fun _ => rfl)
    have hN41 : (σ10.1 1 0).toInt = (σ35.1 0 1).toInt := by rw [(hA38 0 1 rfl).1]; exact hN15
    have hL42 : (σ10.1 2 1).toInt = (σ35.1 0 6).toInt := by rw [(hA38 0 6 rfl).1]; exact hL16
    have hF43 : ∀ j : Nat, (σ10.1 15 j).toInt = (σ35.1 2 j).toInt := by rcases g14 with ⟨a1, a2, a3⟩ | ⟨a1, a2, a0, a4, a3⟩ | ⟨a1, a2, a0, a4, a3⟩ <;> rcases g39 with ⟨b1, b2, b3⟩ | ⟨b1, b2, b0, b4, b3⟩ | ⟨b1, b2, b0, b4, b3⟩ <;> first | (exfalso; omega) | (rw [a3, b3]; exact hF) | (rw [a3, b3]; exact zl_fu hF (by omega)) | (rw [a3, b3]; exact zl_fn hF (by decide) (by decide))
    have hD44 : ∀ j : Nat, (σ10.1 16 j).toInt = (σ35.1 3 j).toInt := by rcases g14 with ⟨a1, a2, a3⟩ | ⟨a1, a2, a0, a4, a3⟩ | ⟨a1, a2, a0, a4, a3⟩ <;> rcases g39 with ⟨b1, b2, b3⟩ | ⟨b1, b2, b0, b4, b3⟩ | ⟨b1, b2, b0, b4, b3⟩ <;> first | (exfalso; omega) | (rw [a3, b3]; exact hD) | (rw [a3, b3]; exact zl_fu hD (by omega)) | (rw [a3, b3]; exact zl_fn hD (by decide) (by decide))
    have hSL45 : ∀ j : Nat, zl_R (σ10.1 37 j) (σ35.1 24 j) := fun j => by rw [(hA38 24 j rfl).1]; exact hSL19 j
    have hSN46 : ∀ j : Nat, (σ10.1 38 j).toInt = (σ35.1 25 j).toInt := fun j => by rw [(hA38 25 j rfl).1]; exact hSN20 j
    have hBY47 : zl_B σ10 σ35 := hBY21.m hA38 (fun _ => rfl)
    have hFA48 : (σ10.1 2 3).toInt = (σ35.1 0 7).toInt := by rw [(hA38 0 7 rfl).1]; exact hFA22
    have hE49 : zl_E σ10 σ35 := hE23.m hA38 rfl (fun _ => rfl) (fun _ => rfl) (fun _ => rfl)
    have hK50 : zw_K σ35 := zw_K.ag hK24 hA38 rfl (fun _ => rfl) (fun _ => rfl)
    refine zr_pop hB dL_law_340 rfl ?_
    refine zr_goto hB dL_law_341 (tgt := 1780) rfl ?_
    exact kk _ _ ⟨hO12, hO37, hT40, hN41, hL42, hF43, hD44, hSL45, hSN46, hBY47, hFA48, hE49, hK50⟩
  · skip
    refine zr_iconst hB dL_law_304 rfl (fun z51 hz51 => ?_)
    refine zr_goto hB dL_law_305 (tgt := 309) rfl ?_
    refine zl_callX hG (As := [.int (zt_x Z (ni + 1)), .int (zt_x Z (ni + 2)), .int z51]) (rest := []) dL_law_309 wm_L_27 rfl (c_X8_mark_0 (zl_K K (zt_X Z)) hG.2.2.2.2.2.2.2.2.2.1 σX (zt_x Z (ni + 1)) (zt_x Z (ni + 2)) z51 hOX (by omega) (by omega)) rfl rfl (Nat.le_of_ble_eq_true rfl) ⟨(Nat.le_of_ble_eq_true rfl), (Nat.le_of_ble_eq_true rfl), rfl, rfl⟩ (fun r52 σ53 h54 => ?_)
    obtain ⟨hO55, hA56, r52a, r52b, g57⟩ := h54
    have hN58 : (σ53.1 1 0).toInt = (σM.1 0 1).toInt := by rw [(hA56 1 0 rfl).1]; exact hN
    have hL59 : (σ53.1 2 1).toInt = (σM.1 0 6).toInt := by rw [(hA56 2 1 rfl).1]; exact hL
    have hSL62 : ∀ j : Nat, zl_R (σ53.1 37 j) (σM.1 24 j) := fun j => by rw [(hA56 37 j rfl).1]; exact hSL j
    have hSN63 : ∀ j : Nat, (σ53.1 38 j).toInt = (σM.1 25 j).toInt := fun j => by rw [(hA56 38 j rfl).1]; exact hSN j
    have hBY64 : zl_B σ53 σM := hBY.x hA56 rfl (fun _ => rfl)
    have hFA65 : (σ53.1 2 3).toInt = (σM.1 0 7).toInt := by rw [(hA56 2 3 rfl).1]; exact hFA
    have hE66 : zl_E σ53 σM := hE.x hA56 rfl (fun _ => rfl) (fun _ => rfl) (fun _ => rfl)
    have hK67 : zw_K σM := hK
    refine zr_pop hB dL_law_312 rfl ?_
    refine zr_aload_n hB 1 dL_law_313 rfl ?_
    refine zr_aload_n hB 3 dL_law_314 rfl ?_
    refine zr_iload_n hB 0 dL_law_315 rfl ?_
    refine zr_iconst hB dL_law_316 rfl (fun z68 hz68 => ?_)
    refine zr_iadd hB dL_law_317 (by omega) (by omega) (fun z69 hz69 => ?_)
    refine zl_sld hG (ni + 1) dL_law_318 (by omega) (by omega) ?_
    clear hz68 hz69
    refine zr_aload_n hB 3 dL_law_319 rfl ?_
    refine zr_iload_n hB 0 dL_law_320 rfl ?_
    refine zr_iconst hB dL_law_321 rfl (fun z70 hz70 => ?_)
    refine zr_iadd hB dL_law_322 (by omega) (by omega) (fun z71 hz71 => ?_)
    refine zl_sld hG (ni + 2) dL_law_323 (by omega) (by omega) ?_
    clear hz70 hz71
    refine zr_aload_n hB 3 dL_law_324 rfl ?_
    refine zr_iload_n hB 0 dL_law_325 rfl ?_
    refine zr_iconst hB dL_law_326 rfl (fun z72 hz72 => ?_)
    refine zr_iadd hB dL_law_327 (by omega) (by omega) (fun z73 hz73 => ?_)
    refine zl_sld hG (ni + 3) dL_law_328 (by omega) (by omega) ?_
    clear hz72 hz73
    refine zr_if_eq hB dL_law_329 (tgt := 336) rfl (fun h75 => absurd h75 h7) (fun h75 => ?_)
    refine zr_iconst hB dL_law_332 rfl (fun z76 hz76 => ?_)
    refine zr_goto hB dL_law_333 (tgt := 337) rfl ?_
    refine zl_callM hG (As := [.int (zt_x Z (ni + 1)), .int (zt_x Z (ni + 2)), .int z76]) (rest := []) dL_law_337 wm_L_31 rfl (c_M_mark (zl_K K (zt_M Z)) hG.2.2.2.2.2.2.2.2.2.2.1 σM (zt_x Z (ni + 1)) (zt_x Z (ni + 2)) z76 hOM (by omega) (by omega)) rfl rfl (Nat.le_of_ble_eq_true rfl) ⟨(Nat.le_of_ble_eq_true rfl), (Nat.le_of_ble_eq_true rfl), rfl, rfl⟩ (fun r77 σ78 h79 => ?_)
    obtain ⟨hO80, hA81, r77a, r77b, g82⟩ := h79
    have hT83 := zm_T.ag hT hA81 rfl (fun _ => rfl) (fun _ => rfl)
    have hN84 : (σ53.1 1 0).toInt = (σ78.1 0 1).toInt := by rw [(hA81 0 1 rfl).1]; exact hN58
    have hL85 : (σ53.1 2 1).toInt = (σ78.1 0 6).toInt := by rw [(hA81 0 6 rfl).1]; exact hL59
    have hF86 : ∀ j : Nat, (σ53.1 15 j).toInt = (σ78.1 2 j).toInt := by rcases g57 with ⟨a1, a2, a3⟩ | ⟨a1, a2, a0, a4, a3⟩ | ⟨a1, a2, a0, a4, a3⟩ <;> rcases g82 with ⟨b1, b2, b3⟩ | ⟨b1, b2, b0, b4, b3⟩ | ⟨b1, b2, b0, b4, b3⟩ <;> first | (exfalso; omega) | (rw [a3, b3]; exact hF) | (rw [a3, b3]; exact zl_fu hF (by omega)) | (rw [a3, b3]; exact zl_fn hF (by decide) (by decide))
    have hD87 : ∀ j : Nat, (σ53.1 16 j).toInt = (σ78.1 3 j).toInt := by rcases g57 with ⟨a1, a2, a3⟩ | ⟨a1, a2, a0, a4, a3⟩ | ⟨a1, a2, a0, a4, a3⟩ <;> rcases g82 with ⟨b1, b2, b3⟩ | ⟨b1, b2, b0, b4, b3⟩ | ⟨b1, b2, b0, b4, b3⟩ <;> first | (exfalso; omega) | (rw [a3, b3]; exact hD) | (rw [a3, b3]; exact zl_fu hD (by omega)) | (rw [a3, b3]; exact zl_fn hD (by decide) (by decide))
    have hSL88 : ∀ j : Nat, zl_R (σ53.1 37 j) (σ78.1 24 j) := fun j => by rw [(hA81 24 j rfl).1]; exact hSL62 j
    have hSN89 : ∀ j : Nat, (σ53.1 38 j).toInt = (σ78.1 25 j).toInt := fun j => by rw [(hA81 25 j rfl).1]; exact hSN63 j
    have hBY90 : zl_B σ53 σ78 := hBY64.m hA81 (fun _ => rfl)
    have hFA91 : (σ53.1 2 3).toInt = (σ78.1 0 7).toInt := by rw [(hA81 0 7 rfl).1]; exact hFA65
    have hE92 : zl_E σ53 σ78 := hE66.m hA81 rfl (fun _ => rfl) (fun _ => rfl) (fun _ => rfl)
    have hK93 : zw_K σ78 := zw_K.ag hK67 hA81 rfl (fun _ => rfl) (fun _ => rfl)
    refine zr_pop hB dL_law_340 rfl ?_
    refine zr_goto hB dL_law_341 (tgt := 1780) rfl ?_
    exact kk _ _ ⟨hO55, hO80, hT83, hN84, hL85, hF86, hD87, hSL88, hSN89, hBY90, hFA91, hE92, hK93⟩

theorem lc_4 {K : zc_K} {G : zc_X} {Z : zl_T} (hG : zl_G K G Z) {σX σM : zc_S} {i : Int32} {ni : Nat} (hi : i.toInt = (ni : Int)) (h9 : ni + 9 ≤ zt_L Z) (hv : zl_v σX σM) (kk : ∀ σX' σM', zl_v σX' σM' → zc_V 4 K G (zl_I K G Z σX' σM') [(3, .int i), (2, .ref (zt_M Z 0)), (1, .ref (zt_X Z 0)), (0, .ref (zt_b Z))] 1780 []) : zc_V 4 K G (zl_I K G Z σX σM) [(3, .int i), (2, .ref (zt_M Z 0)), (1, .ref (zt_X Z 0)), (0, .ref (zt_b Z))] 344 [] := by
  obtain ⟨hOX, hOM, hT, hN, hL, hF, hD, hSL, hSN, hBY, hFA, hE, hK⟩ := hv
  have hB := hG.1
  have hZ := hG.2.2.2.2.2.2.1
  refine zr_aload_n hB 2 dL_law_344 rfl ?_
  refine zr_aload_n hB 3 dL_law_345 rfl ?_
  refine zr_iload_n hB 0 dL_law_346 rfl ?_
  refine zr_iconst hB dL_law_347 rfl (fun z1 hz1 => ?_)
  refine zr_iadd hB dL_law_348 (by omega) (by omega) (fun z2 hz2 => ?_)
  refine zl_sld hG (ni + 1) dL_law_349 (by omega) (by omega) ?_
  clear hz1 hz2
  refine zr_i2l hB dL_law_350 (fun l3 hl3 => ?_)
  refine zr_bipush hB dL_law_351 rfl (fun z4 hz4 => ?_)
  refine zr_lshl hB dL_law_353 (fun l5 hl5 => ?_)
  refine zr_aload_n hB 3 dL_law_354 rfl ?_
  refine zr_iload_n hB 0 dL_law_355 rfl ?_
  refine zr_iconst hB dL_law_356 rfl (fun z6 hz6 => ?_)
  refine zr_iadd hB dL_law_357 (by omega) (by omega) (fun z7 hz7 => ?_)
  refine zl_sld hG (ni + 2) dL_law_358 (by omega) (by omega) ?_
  clear hz6 hz7
  refine zr_i2l hB dL_law_359 (fun l8 hl8 => ?_)
  refine zr_ldc2 hB dL_law_360 wc_L_32 rfl (fun l9 hl9 => ?_)
  refine zr_land hB dL_law_363 (fun l10 hl10 => ?_)
  refine zr_lor hB dL_law_364 (fun l11 hl11 => ?_)
  refine zl_callX hG (As := [.long l11]) (rest := []) dL_law_365 wm_L_34 rfl (c_X8_feed_0 (zl_K K (zt_X Z)) hG.2.2.2.2.2.2.2.2.2.1 σX l11 hOX ) rfl rfl (Nat.le_of_ble_eq_true rfl) ⟨(Nat.le_of_ble_eq_true rfl), (Nat.le_of_ble_eq_true rfl), rfl, rfl⟩ (fun r12 σ13 h14 => ?_)
  obtain ⟨hO15, hA16, r12a, r12b, g17, g18⟩ := h14
  have hN19 : (σ13.1 1 0).toInt = (σM.1 0 1).toInt := by rw [(hA16 1 0 rfl).1]; exact hN
  have hF21 : ∀ j : Nat, (σ13.1 15 j).toInt = (σM.1 2 j).toInt := fun j => by rw [(hA16 15 j rfl).1]; exact hF j
  have hD22 : ∀ j : Nat, (σ13.1 16 j).toInt = (σM.1 3 j).toInt := fun j => by rw [(hA16 16 j rfl).1]; exact hD j
  have hSL23 : ∀ j : Nat, zl_R (σ13.1 37 j) (σM.1 24 j) := fun j => by rw [(hA16 37 j rfl).1]; exact hSL j
  have hSN24 : ∀ j : Nat, (σ13.1 38 j).toInt = (σM.1 25 j).toInt := fun j => by rw [(hA16 38 j rfl).1]; exact hSN j
  have hFA26 : (σ13.1 2 3).toInt = (σM.1 0 7).toInt := by rw [(hA16 2 3 rfl).1]; exact hFA
  have hE27 : zl_E σ13 σM := hE.x hA16 rfl (fun _ => rfl) (fun _ => rfl) (fun _ => rfl)
  have hK28 : zw_K σM := hK
  refine zr_pop hB dL_law_368 rfl ?_
  refine zr_aload_n hB 1 dL_law_369 rfl ?_
  refine zr_aload_n hB 3 dL_law_370 rfl ?_
  refine zr_iload_n hB 0 dL_law_371 rfl ?_
  refine zr_iconst hB dL_law_372 rfl (fun z29 hz29 => ?_)
  refine zr_iadd hB dL_law_373 (by omega) (by omega) (fun z30 hz30 => ?_)
  refine zl_sld hG (ni + 1) dL_law_374 (by omega) (by omega) ?_
  clear hz29 hz30
  refine zr_i2l hB dL_law_375 (fun l31 hl31 => ?_)
  obtain rfl : l3 = l31 := Int64.toInt_inj.mp (hl3.trans hl31.symm)
  refine zr_bipush hB dL_law_376 rfl (fun z32 hz32 => ?_)
  obtain rfl : z4 = z32 := Int32.toInt_inj.mp (hz4.trans hz32.symm)
  refine zr_lshl hB dL_law_378 (fun l33 hl33 => ?_)
  obtain rfl : l5 = l33 := hl5.trans hl33.symm
  refine zr_aload_n hB 3 dL_law_379 rfl ?_
  refine zr_iload_n hB 0 dL_law_380 rfl ?_
  refine zr_iconst hB dL_law_381 rfl (fun z34 hz34 => ?_)
  refine zr_iadd hB dL_law_382 (by omega) (by omega) (fun z35 hz35 => ?_)
  refine zl_sld hG (ni + 2) dL_law_383 (by omega) (by omega) ?_
  clear hz34 hz35
  refine zr_i2l hB dL_law_384 (fun l36 hl36 => ?_)
  obtain rfl : l8 = l36 := Int64.toInt_inj.mp (hl8.trans hl36.symm)
  refine zr_ldc2 hB dL_law_385 wc_L_32 rfl (fun l37 hl37 => ?_)
  obtain rfl : l9 = l37 := Int64.toInt_inj.mp (hl9.trans hl37.symm)
  refine zr_land hB dL_law_388 (fun l38 hl38 => ?_)
  obtain rfl : l10 = l38 := hl10.trans hl38.symm
  refine zr_lor hB dL_law_389 (fun l39 hl39 => ?_)
  obtain rfl : l11 = l39 := hl11.trans hl39.symm
  refine zl_callM hG (As := [.long l11]) (rest := []) dL_law_390 wm_L_38 rfl (c_M_feed (zl_K K (zt_M Z)) hG.2.2.2.2.2.2.2.2.2.2.1 σM l11 hOM ) rfl rfl (Nat.le_of_ble_eq_true rfl) ⟨(Nat.le_of_ble_eq_true rfl), (Nat.le_of_ble_eq_true rfl), rfl, rfl⟩ (fun r40 σ41 h42 => ?_)
  obtain ⟨hO43, hA44, r40a, r40b, g45, g46⟩ := h42
  have hT47 := zm_T.ag hT hA44 rfl (fun _ => rfl) (fun _ => rfl)
  have hN48 : (σ13.1 1 0).toInt = (σ41.1 0 1).toInt := by rw [(hA44 0 1 rfl).1]; exact hN19
  have hL49 : (σ13.1 2 1).toInt = (σ41.1 0 6).toInt := by omega
  have hF50 : ∀ j : Nat, (σ13.1 15 j).toInt = (σ41.1 2 j).toInt := fun j => by rw [(hA44 2 j rfl).1]; exact hF21 j
  have hD51 : ∀ j : Nat, (σ13.1 16 j).toInt = (σ41.1 3 j).toInt := fun j => by rw [(hA44 3 j rfl).1]; exact hD22 j
  have hSL52 : ∀ j : Nat, zl_R (σ13.1 37 j) (σ41.1 24 j) := fun j => by rw [(hA44 24 j rfl).1]; exact hSL23 j
  have hSN53 : ∀ j : Nat, (σ13.1 38 j).toInt = (σ41.1 25 j).toInt := fun j => by rw [(hA44 25 j rfl).1]; exact hSN24 j
  have hBY54 : zl_B σ13 σ41 := zl_Bf hBY hL g18 g46 (by omega)
  have hFA55 : (σ13.1 2 3).toInt = (σ41.1 0 7).toInt := by rw [(hA44 0 7 rfl).1]; exact hFA26
  have hE56 : zl_E σ13 σ41 := hE27.m hA44 rfl (fun _ => rfl) (fun _ => rfl) (fun _ => rfl)
  have hK57 : zw_K σ41 := zw_K.ag hK28 hA44 rfl (fun _ => rfl) (fun _ => rfl)
  refine zr_pop hB dL_law_393 rfl ?_
  refine zr_goto hB dL_law_394 (tgt := 1780) rfl ?_
  exact kk _ _ ⟨hO15, hO43, hT47, hN48, hL49, hF50, hD51, hSL52, hSN53, hBY54, hFA55, hE56, hK57⟩

theorem lc_5 {K : zc_K} {G : zc_X} {Z : zl_T} (hG : zl_G K G Z) {σX σM : zc_S} {i : Int32} {ni : Nat} (hi : i.toInt = (ni : Int)) (h9 : ni + 9 ≤ zt_L Z) (hv : zl_v σX σM) (kk : ∀ σX' σM', zl_v σX' σM' → zc_V 4 K G (zl_I K G Z σX' σM') [(3, .int i), (2, .ref (zt_M Z 0)), (1, .ref (zt_X Z 0)), (0, .ref (zt_b Z))] 1780 []) : zc_V 4 K G (zl_I K G Z σX σM) [(3, .int i), (2, .ref (zt_M Z 0)), (1, .ref (zt_X Z 0)), (0, .ref (zt_b Z))] 397 [] := by
  obtain ⟨hOX, hOM, hT, hN, hL, hF, hD, hSL, hSN, hBY, hFA, hE, hK⟩ := hv
  have hB := hG.1
  have hZ := hG.2.2.2.2.2.2.1
  refine zr_aload_n hB 2 dL_law_397 rfl ?_
  refine zr_aload_n hB 3 dL_law_398 rfl ?_
  refine zr_iload_n hB 0 dL_law_399 rfl ?_
  refine zr_iconst hB dL_law_400 rfl (fun z1 hz1 => ?_)
  refine zr_iadd hB dL_law_401 (by omega) (by omega) (fun z2 hz2 => ?_)
  refine zl_sld hG (ni + 1) dL_law_402 (by omega) (by omega) ?_
  clear hz1 hz2
  refine zl_callX hG (As := [.int (zt_x Z (ni + 1))]) (rest := []) dL_law_403 wm_L_39 rfl (c_X8_end_0 (zl_K K (zt_X Z)) hG.2.2.2.2.2.2.2.2.2.1 σX (zt_x Z (ni + 1)) hOX ) rfl rfl (Nat.le_of_ble_eq_true rfl) ⟨(Nat.le_of_ble_eq_true rfl), (Nat.le_of_ble_eq_true rfl), rfl, rfl⟩ (fun r3 σ4 h5 => ?_)
  obtain ⟨hO6, hA7, r3a, r3b, g8⟩ := h5
  have hN9 : (σ4.1 1 0).toInt = (σM.1 0 1).toInt := by rw [(hA7 1 0 rfl).1]; exact hN
  have hF11 : ∀ j : Nat, (σ4.1 15 j).toInt = (σM.1 2 j).toInt := fun j => by rw [(hA7 15 j rfl).1]; exact hF j
  have hD12 : ∀ j : Nat, (σ4.1 16 j).toInt = (σM.1 3 j).toInt := fun j => by rw [(hA7 16 j rfl).1]; exact hD j
  have hSL13 : ∀ j : Nat, zl_R (σ4.1 37 j) (σM.1 24 j) := fun j => by rw [(hA7 37 j rfl).1]; exact hSL j
  have hSN14 : ∀ j : Nat, (σ4.1 38 j).toInt = (σM.1 25 j).toInt := fun j => by rw [(hA7 38 j rfl).1]; exact hSN j
  have hFA16 : (σ4.1 2 3).toInt = (σM.1 0 7).toInt := by rw [(hA7 2 3 rfl).1]; exact hFA
  have hE17 : zl_E σ4 σM := hE.x hA7 rfl (fun _ => rfl) (fun _ => rfl) (fun _ => rfl)
  have hK18 : zw_K σM := hK
  refine zr_pop hB dL_law_406 rfl ?_
  refine zr_aload_n hB 1 dL_law_407 rfl ?_
  refine zr_aload_n hB 3 dL_law_408 rfl ?_
  refine zr_iload_n hB 0 dL_law_409 rfl ?_
  refine zr_iconst hB dL_law_410 rfl (fun z19 hz19 => ?_)
  refine zr_iadd hB dL_law_411 (by omega) (by omega) (fun z20 hz20 => ?_)
  refine zl_sld hG (ni + 1) dL_law_412 (by omega) (by omega) ?_
  clear hz19 hz20
  refine zl_callM hG (As := [.int (zt_x Z (ni + 1))]) (rest := []) dL_law_413 wm_L_42 rfl (c_M_end (zl_K K (zt_M Z)) hG.2.2.2.2.2.2.2.2.2.2.1 σM (zt_x Z (ni + 1)) hOM ) rfl rfl (Nat.le_of_ble_eq_true rfl) ⟨(Nat.le_of_ble_eq_true rfl), (Nat.le_of_ble_eq_true rfl), rfl, rfl⟩ (fun r21 σ22 h23 => ?_)
  obtain ⟨hO24, hA25, r21a, r21b, g26⟩ := h23
  have hT27 := zm_T.ag hT hA25 rfl (fun _ => rfl) (fun _ => rfl)
  have hN28 : (σ4.1 1 0).toInt = (σ22.1 0 1).toInt := by rw [(hA25 0 1 rfl).1]; exact hN9
  have hL29 : (σ4.1 2 1).toInt = (σ22.1 0 6).toInt := by omega
  have hF30 : ∀ j : Nat, (σ4.1 15 j).toInt = (σ22.1 2 j).toInt := fun j => by rw [(hA25 2 j rfl).1]; exact hF11 j
  have hD31 : ∀ j : Nat, (σ4.1 16 j).toInt = (σ22.1 3 j).toInt := fun j => by rw [(hA25 3 j rfl).1]; exact hD12 j
  have hSL32 : ∀ j : Nat, zl_R (σ4.1 37 j) (σ22.1 24 j) := fun j => by rw [(hA25 24 j rfl).1]; exact hSL13 j
  have hSN33 : ∀ j : Nat, (σ4.1 38 j).toInt = (σ22.1 25 j).toInt := fun j => by rw [(hA25 25 j rfl).1]; exact hSN14 j
  have hBY34 : zl_B σ4 σ22 := zl_B.e hBY hA7 hA25 (by omega) (fun _ => rfl) (fun _ => rfl)
  have hFA35 : (σ4.1 2 3).toInt = (σ22.1 0 7).toInt := by rw [(hA25 0 7 rfl).1]; exact hFA16
  have hE36 : zl_E σ4 σ22 := hE17.m hA25 rfl (fun _ => rfl) (fun _ => rfl) (fun _ => rfl)
  have hK37 : zw_K σ22 := zw_K.ag hK18 hA25 rfl (fun _ => rfl) (fun _ => rfl)
  refine zr_pop hB dL_law_416 rfl ?_
  refine zr_goto hB dL_law_417 (tgt := 1780) rfl ?_
  exact kk _ _ ⟨hO6, hO24, hT27, hN28, hL29, hF30, hD31, hSL32, hSN33, hBY34, hFA35, hE36, hK37⟩

theorem lc_6 {K : zc_K} {G : zc_X} {Z : zl_T} (hG : zl_G K G Z) {σX σM : zc_S} {i : Int32} {ni : Nat} (hi : i.toInt = (ni : Int)) (h9 : ni + 9 ≤ zt_L Z) (hv : zl_v σX σM) (kk : ∀ σX' σM', zl_v σX' σM' → zc_V 4 K G (zl_I K G Z σX' σM') [(3, .int i), (2, .ref (zt_M Z 0)), (1, .ref (zt_X Z 0)), (0, .ref (zt_b Z))] 1780 []) : zc_V 4 K G (zl_I K G Z σX σM) [(3, .int i), (2, .ref (zt_M Z 0)), (1, .ref (zt_X Z 0)), (0, .ref (zt_b Z))] 420 [] := by
  obtain ⟨hOX, hOM, hT, hN, hL, hF, hD, hSL, hSN, hBY, hFA, hE, hK⟩ := hv
  have hB := hG.1
  have hZ := hG.2.2.2.2.2.2.1
  refine zr_aload_n hB 2 dL_law_420 rfl ?_
  refine zl_callX hG (As := []) (rest := []) dL_law_421 wm_L_43 rfl (c_X8_text_0 (zl_K K (zt_X Z)) hG.2.2.2.2.2.2.2.2.2.1 σX  hOX ) rfl rfl (Nat.le_of_ble_eq_true rfl) ⟨(Nat.le_of_ble_eq_true rfl), (Nat.le_of_ble_eq_true rfl), rfl, rfl⟩ (fun r1 σ2 h3 => ?_)
  obtain ⟨hO4, hA5, r1a, r1b, g6, g7, g8⟩ := h3
  have hN9 : (σ2.1 1 0).toInt = (σM.1 0 1).toInt := by rw [(hA5 1 0 rfl).1]; exact hN
  have hF11 : ∀ j : Nat, (σ2.1 15 j).toInt = (σM.1 2 j).toInt := fun j => by rw [(hA5 15 j rfl).1]; exact hF j
  have hD12 : ∀ j : Nat, (σ2.1 16 j).toInt = (σM.1 3 j).toInt := fun j => by rw [(hA5 16 j rfl).1]; exact hD j
  have hSL13 : ∀ j : Nat, zl_R (σ2.1 37 j) (σM.1 24 j) := fun j => by rw [(hA5 37 j rfl).1]; exact hSL j
  have hSN14 : ∀ j : Nat, (σ2.1 38 j).toInt = (σM.1 25 j).toInt := fun j => by rw [(hA5 38 j rfl).1]; exact hSN j
  have hK18 : zw_K σM := hK
  refine zr_pop hB dL_law_424 rfl ?_
  refine zr_aload_n hB 1 dL_law_425 rfl ?_
  refine zl_callM hG (As := []) (rest := []) dL_law_426 wm_L_47 rfl (c_M_text (zl_K K (zt_M Z)) hG.2.2.2.2.2.2.2.2.2.2.1 σM  hOM hT hK18) rfl rfl (Nat.le_of_ble_eq_true rfl) ⟨(Nat.le_of_ble_eq_true rfl), (Nat.le_of_ble_eq_true rfl), rfl, rfl⟩ (fun r19 σ20 h21 => ?_)
  obtain ⟨hO22, hA23, r19a, r19b, g24, g25, g26, g27⟩ := h21
  have hT28 := g25
  have hN29 : (σ2.1 1 0).toInt = (σ20.1 0 1).toInt := by rw [(hA23 0 1 rfl).1]; exact hN9
  have hL30 : (σ2.1 2 1).toInt = (σ20.1 0 6).toInt := by omega
  have hF31 : ∀ j : Nat, (σ2.1 15 j).toInt = (σ20.1 2 j).toInt := fun j => by rw [(hA23 2 j rfl).1]; exact hF11 j
  have hD32 : ∀ j : Nat, (σ2.1 16 j).toInt = (σ20.1 3 j).toInt := fun j => by rw [(hA23 3 j rfl).1]; exact hD12 j
  have hSL33 : ∀ j : Nat, zl_R (σ2.1 37 j) (σ20.1 24 j) := fun j => by rw [(hA23 24 j rfl).1]; exact hSL13 j
  have hSN34 : ∀ j : Nat, (σ2.1 38 j).toInt = (σ20.1 25 j).toInt := fun j => by rw [(hA23 25 j rfl).1]; exact hSN14 j
  have hBY35 : zl_B σ2 σ20 := fun i9 h9 => by exfalso; omega
  have hFA36 : (σ2.1 2 3).toInt = (σ20.1 0 7).toInt := by rw [g7, g26, (zw_same (zw_bq hL hBY)).1]
  have hE37 : zl_E σ2 σ20 := zl_Et hE (zw_bq hL hBY) g8 g27
  have hK38 : zw_K σ20 := zw_K.ag hK18 hA23 rfl (fun _ => rfl) (fun _ => rfl)
  refine zr_pop hB dL_law_429 rfl ?_
  refine zr_goto hB dL_law_430 (tgt := 1780) rfl ?_
  exact kk _ _ ⟨hO4, hO22, hT28, hN29, hL30, hF31, hD32, hSL33, hSN34, hBY35, hFA36, hE37, hK38⟩

theorem lc_7 {K : zc_K} {G : zc_X} {Z : zl_T} (hG : zl_G K G Z) {σX σM : zc_S} {i : Int32} {ni : Nat} (hi : i.toInt = (ni : Int)) (h9 : ni + 9 ≤ zt_L Z) (hv : zl_v σX σM) (kk : ∀ σX' σM', zl_v σX' σM' → zc_V 4 K G (zl_I K G Z σX' σM') [(3, .int i), (2, .ref (zt_M Z 0)), (1, .ref (zt_X Z 0)), (0, .ref (zt_b Z))] 1780 []) : zc_V 4 K G (zl_I K G Z σX σM) [(3, .int i), (2, .ref (zt_M Z 0)), (1, .ref (zt_X Z 0)), (0, .ref (zt_b Z))] 433 [] := by
  obtain ⟨hOX, hOM, hT, hN, hL, hF, hD, hSL, hSN, hBY, hFA, hE, hK⟩ := hv
  have hB := hG.1
  have hZ := hG.2.2.2.2.2.2.1
  refine zr_aload_n hB 2 dL_law_433 rfl ?_
  refine zl_callX hG (As := []) (rest := []) dL_law_434 wm_L_48 rfl (c_X8_fault_0 (zl_K K (zt_X Z)) hG.2.2.2.2.2.2.2.2.2.1 σX  hOX ) rfl rfl (Nat.le_of_ble_eq_true rfl) ⟨(Nat.le_of_ble_eq_true rfl), (Nat.le_of_ble_eq_true rfl), rfl, rfl⟩ (fun r1 σ2 h3 => ?_)
  obtain ⟨rfl, r1a, r1b, g4⟩ := h3
  refine zr_pop hB dL_law_437 rfl ?_
  refine zr_aload_n hB 1 dL_law_438 rfl ?_
  refine zl_callM hG (As := []) (rest := []) dL_law_439 wm_L_51 rfl (c_M_fault (zl_K K (zt_M Z)) hG.2.2.2.2.2.2.2.2.2.2.1 σM  hOM ) rfl rfl (Nat.le_of_ble_eq_true rfl) ⟨(Nat.le_of_ble_eq_true rfl), (Nat.le_of_ble_eq_true rfl), rfl, rfl⟩ (fun r5 σ6 h7 => ?_)
  obtain ⟨rfl, r5a, r5b, g8⟩ := h7
  refine zr_pop hB dL_law_442 rfl ?_
  refine zr_goto hB dL_law_443 (tgt := 1780) rfl ?_
  exact kk _ _ ⟨hOX, hOM, hT, hN, hL, hF, hD, hSL, hSN, hBY, hFA, hE, hK⟩

