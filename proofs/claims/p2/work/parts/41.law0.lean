def zl_v (σX σM : zc_S) : Prop := zc_O okX σX ∧ zc_O okM σM ∧ zm_T σM ∧ ((σX.1 1 0).toInt = (σM.1 0 1).toInt)
theorem lc_0 {K : zc_K} {G : zc_X} {Z : zl_T} (hG : zl_G K G Z) {σX σM : zc_S} {i : Int32} {ni : Nat} (hi : i.toInt = (ni : Int)) (h9 : ni + 9 ≤ zt_L Z) (hv : zl_v σX σM) (kk : ∀ σX' σM', zl_v σX' σM' → zc_V 4 K G (zl_I K G Z σX' σM') [(3, .int i), (2, .ref (zt_M Z 0)), (1, .ref (zt_X Z 0)), (0, .ref (zt_b Z))] 1780 []) : zc_V 4 K G (zl_I K G Z σX σM) [(3, .int i), (2, .ref (zt_M Z 0)), (1, .ref (zt_X Z 0)), (0, .ref (zt_b Z))] 176 [] := by
  obtain ⟨hOX, hOM, hT, hN⟩ := hv
  have hB := hG.1
  have hZ := hG.2.2.2.2.2.2.1
  refine zr_aload_n hB 2 dL_law_176 rfl ?_
  refine zr_aload_n hB 3 dL_law_177 rfl ?_
  refine zr_iload_n hB 0 dL_law_178 rfl ?_
  refine zr_iconst hB dL_law_179 rfl (fun z1 hz1 => ?_)
  refine zr_iadd hB dL_law_180 (by omega) (by omega) (fun z2 hz2 => ?_)
  refine zl_sld hG (ni + 1) dL_law_181 (by omega) (by omega) ?_
  clear hz1 hz2
  refine zl_callX hG (As := [.int (zt_x Z (ni + 1))]) (rest := []) dL_law_182 wm_L_13 rfl (c_X8_now_0 (zl_K K (zt_X Z)) hG.2.2.2.2.2.2.2.2.2.1 σX (zt_x Z (ni + 1)) hOX ) rfl rfl (Nat.le_of_ble_eq_true rfl) ⟨(Nat.le_of_ble_eq_true rfl), (Nat.le_of_ble_eq_true rfl), rfl, rfl⟩ (fun r3 σ4 h5 => ?_)
  obtain ⟨hO6, hA7, r3a, r3b, g8⟩ := h5
  refine zr_aload_n hB 1 dL_law_185 rfl ?_
  refine zr_aload_n hB 3 dL_law_186 rfl ?_
  refine zr_iload_n hB 0 dL_law_187 rfl ?_
  refine zr_iconst hB dL_law_188 rfl (fun z10 hz10 => ?_)
  refine zr_iadd hB dL_law_189 (by omega) (by omega) (fun z11 hz11 => ?_)
  refine zl_sld hG (ni + 1) dL_law_190 (by omega) (by omega) ?_
  clear hz10 hz11
  refine zl_callM hG (As := [.int (zt_x Z (ni + 1))]) (rest := [.int r3]) dL_law_191 wm_L_17 rfl (c_M_now (zl_K K (zt_M Z)) hG.2.2.2.2.2.2.2.2.2.2.1 σM (zt_x Z (ni + 1)) hOM ) rfl rfl (Nat.le_of_ble_eq_true rfl) ⟨(Nat.le_of_ble_eq_true rfl), (Nat.le_of_ble_eq_true rfl), rfl, rfl⟩ (fun r12 σ13 h14 => ?_)
  obtain ⟨hO15, hA16, r12a, r12b, g17⟩ := h14
  have hT18 := zm_T.ag hT hA16 rfl (fun _ => rfl) (fun _ => rfl)
  have hN19 : (σ4.1 1 0).toInt = (σ13.1 0 1).toInt := by omega
  refine zr_icmp_eq hB dL_law_194 (tgt := 1780) rfl (fun h20 => ?_) (fun h20 => absurd (by omega) h20)
  exact kk _ _ ⟨hO6, hO15, hT18, hN19⟩

theorem lc_1 {K : zc_K} {G : zc_X} {Z : zl_T} (hG : zl_G K G Z) {σX σM : zc_S} {i : Int32} {ni : Nat} (hi : i.toInt = (ni : Int)) (h9 : ni + 9 ≤ zt_L Z) (hv : zl_v σX σM) (kk : ∀ σX' σM', zl_v σX' σM' → zc_V 4 K G (zl_I K G Z σX' σM') [(3, .int i), (2, .ref (zt_M Z 0)), (1, .ref (zt_X Z 0)), (0, .ref (zt_b Z))] 1780 []) : zc_V 4 K G (zl_I K G Z σX σM) [(3, .int i), (2, .ref (zt_M Z 0)), (1, .ref (zt_X Z 0)), (0, .ref (zt_b Z))] 199 [] := by
  obtain ⟨hOX, hOM, hT, hN⟩ := hv
  have hB := hG.1
  have hZ := hG.2.2.2.2.2.2.1
  refine zr_aload_n hB 2 dL_law_199 rfl ?_
  refine zr_aload_n hB 3 dL_law_200 rfl ?_
  refine zr_iload_n hB 0 dL_law_201 rfl ?_
  refine zr_iconst hB dL_law_202 rfl (fun z1 hz1 => ?_)
  refine zr_iadd hB dL_law_203 (by omega) (by omega) (fun z2 hz2 => ?_)
  refine zl_sld hG (ni + 1) dL_law_204 (by omega) (by omega) ?_
  clear hz1 hz2
  refine zr_aload_n hB 3 dL_law_205 rfl ?_
  refine zr_iload_n hB 0 dL_law_206 rfl ?_
  refine zr_iconst hB dL_law_207 rfl (fun z3 hz3 => ?_)
  refine zr_iadd hB dL_law_208 (by omega) (by omega) (fun z4 hz4 => ?_)
  refine zl_sld hG (ni + 2) dL_law_209 (by omega) (by omega) ?_
  clear hz3 hz4
  refine zr_aload_n hB 3 dL_law_210 rfl ?_
  refine zr_iload_n hB 0 dL_law_211 rfl ?_
  refine zr_iconst hB dL_law_212 rfl (fun z5 hz5 => ?_)
  refine zr_iadd hB dL_law_213 (by omega) (by omega) (fun z6 hz6 => ?_)
  refine zl_sld hG (ni + 3) dL_law_214 (by omega) (by omega) ?_
  clear hz5 hz6
  refine zl_callX hG (As := [.int (zt_x Z (ni + 1)), .int (zt_x Z (ni + 2)), .int (zt_x Z (ni + 3))]) (rest := []) dL_law_215 wm_L_18 rfl (c_X8_figure_0 (zl_K K (zt_X Z)) hG.2.2.2.2.2.2.2.2.2.1 σX (zt_x Z (ni + 1)) (zt_x Z (ni + 2)) (zt_x Z (ni + 3)) hOX ) rfl rfl (Nat.le_of_ble_eq_true rfl) ⟨(Nat.le_of_ble_eq_true rfl), (Nat.le_of_ble_eq_true rfl), rfl, rfl⟩ (fun r7 σ8 h9 => ?_)
  obtain ⟨hO10, hA11, r7a, r7b⟩ := h9
  have hN12 : (σ8.1 1 0).toInt = (σM.1 0 1).toInt := by rw [(hA11 1 0 rfl).1]; exact hN
  refine zr_pop hB dL_law_218 rfl ?_
  refine zr_aload_n hB 1 dL_law_219 rfl ?_
  refine zr_aload_n hB 3 dL_law_220 rfl ?_
  refine zr_iload_n hB 0 dL_law_221 rfl ?_
  refine zr_iconst hB dL_law_222 rfl (fun z13 hz13 => ?_)
  refine zr_iadd hB dL_law_223 (by omega) (by omega) (fun z14 hz14 => ?_)
  refine zl_sld hG (ni + 1) dL_law_224 (by omega) (by omega) ?_
  clear hz13 hz14
  refine zr_aload_n hB 3 dL_law_225 rfl ?_
  refine zr_iload_n hB 0 dL_law_226 rfl ?_
  refine zr_iconst hB dL_law_227 rfl (fun z15 hz15 => ?_)
  refine zr_iadd hB dL_law_228 (by omega) (by omega) (fun z16 hz16 => ?_)
  refine zl_sld hG (ni + 2) dL_law_229 (by omega) (by omega) ?_
  clear hz15 hz16
  refine zr_aload_n hB 3 dL_law_230 rfl ?_
  refine zr_iload_n hB 0 dL_law_231 rfl ?_
  refine zr_iconst hB dL_law_232 rfl (fun z17 hz17 => ?_)
  refine zr_iadd hB dL_law_233 (by omega) (by omega) (fun z18 hz18 => ?_)
  refine zl_sld hG (ni + 3) dL_law_234 (by omega) (by omega) ?_
  clear hz17 hz18
  refine zl_callM hG (As := [.int (zt_x Z (ni + 1)), .int (zt_x Z (ni + 2)), .int (zt_x Z (ni + 3))]) (rest := []) dL_law_235 wm_L_22 rfl (c_M_figure (zl_K K (zt_M Z)) hG.2.2.2.2.2.2.2.2.2.2.1 σM (zt_x Z (ni + 1)) (zt_x Z (ni + 2)) (zt_x Z (ni + 3)) hOM ) rfl rfl (Nat.le_of_ble_eq_true rfl) ⟨(Nat.le_of_ble_eq_true rfl), (Nat.le_of_ble_eq_true rfl), rfl, rfl⟩ (fun r19 σ20 h21 => ?_)
  obtain ⟨hO22, hA23, r19a, r19b⟩ := h21
  have hT24 := zm_T.ag hT hA23 rfl (fun _ => rfl) (fun _ => rfl)
  have hN25 : (σ8.1 1 0).toInt = (σ20.1 0 1).toInt := by rw [(hA23 0 1 rfl).1]; exact hN12
  refine zr_pop hB dL_law_238 rfl ?_
  refine zr_goto hB dL_law_239 (tgt := 1780) rfl ?_
  exact kk _ _ ⟨hO10, hO22, hT24, hN25⟩

theorem lc_2 {K : zc_K} {G : zc_X} {Z : zl_T} (hG : zl_G K G Z) {σX σM : zc_S} {i : Int32} {ni : Nat} (hi : i.toInt = (ni : Int)) (h9 : ni + 9 ≤ zt_L Z) (hv : zl_v σX σM) (kk : ∀ σX' σM', zl_v σX' σM' → zc_V 4 K G (zl_I K G Z σX' σM') [(3, .int i), (2, .ref (zt_M Z 0)), (1, .ref (zt_X Z 0)), (0, .ref (zt_b Z))] 1780 []) : zc_V 4 K G (zl_I K G Z σX σM) [(3, .int i), (2, .ref (zt_M Z 0)), (1, .ref (zt_X Z 0)), (0, .ref (zt_b Z))] 242 [] := by
  obtain ⟨hOX, hOM, hT, hN⟩ := hv
  have hB := hG.1
  have hZ := hG.2.2.2.2.2.2.1
  refine zr_aload_n hB 2 dL_law_242 rfl ?_
  refine zr_aload_n hB 3 dL_law_243 rfl ?_
  refine zr_iload_n hB 0 dL_law_244 rfl ?_
  refine zr_iconst hB dL_law_245 rfl (fun z1 hz1 => ?_)
  refine zr_iadd hB dL_law_246 (by omega) (by omega) (fun z2 hz2 => ?_)
  refine zl_sld hG (ni + 1) dL_law_247 (by omega) (by omega) ?_
  clear hz1 hz2
  refine zr_aload_n hB 3 dL_law_248 rfl ?_
  refine zr_iload_n hB 0 dL_law_249 rfl ?_
  refine zr_iconst hB dL_law_250 rfl (fun z3 hz3 => ?_)
  refine zr_iadd hB dL_law_251 (by omega) (by omega) (fun z4 hz4 => ?_)
  refine zl_sld hG (ni + 2) dL_law_252 (by omega) (by omega) ?_
  clear hz3 hz4
  refine zr_aload_n hB 3 dL_law_253 rfl ?_
  refine zr_iload_n hB 0 dL_law_254 rfl ?_
  refine zr_iconst hB dL_law_255 rfl (fun z5 hz5 => ?_)
  refine zr_iadd hB dL_law_256 (by omega) (by omega) (fun z6 hz6 => ?_)
  refine zl_sld hG (ni + 3) dL_law_257 (by omega) (by omega) ?_
  clear hz5 hz6
  refine zl_callX hG (As := [.int (zt_x Z (ni + 1)), .int (zt_x Z (ni + 2)), .int (zt_x Z (ni + 3))]) (rest := []) dL_law_258 wm_L_23 rfl (c_X8_known_0 (zl_K K (zt_X Z)) hG.2.2.2.2.2.2.2.2.2.1 σX (zt_x Z (ni + 1)) (zt_x Z (ni + 2)) (zt_x Z (ni + 3)) hOX ) rfl rfl (Nat.le_of_ble_eq_true rfl) ⟨(Nat.le_of_ble_eq_true rfl), (Nat.le_of_ble_eq_true rfl), rfl, rfl⟩ (fun r7 σ8 h9 => ?_)
  obtain ⟨rfl, r7a, r7b⟩ := h9
  refine zr_pop hB dL_law_261 rfl ?_
  refine zr_aload_n hB 1 dL_law_262 rfl ?_
  refine zr_aload_n hB 3 dL_law_263 rfl ?_
  refine zr_iload_n hB 0 dL_law_264 rfl ?_
  refine zr_iconst hB dL_law_265 rfl (fun z10 hz10 => ?_)
  refine zr_iadd hB dL_law_266 (by omega) (by omega) (fun z11 hz11 => ?_)
  refine zl_sld hG (ni + 1) dL_law_267 (by omega) (by omega) ?_
  clear hz10 hz11
  refine zr_aload_n hB 3 dL_law_268 rfl ?_
  refine zr_iload_n hB 0 dL_law_269 rfl ?_
  refine zr_iconst hB dL_law_270 rfl (fun z12 hz12 => ?_)
  refine zr_iadd hB dL_law_271 (by omega) (by omega) (fun z13 hz13 => ?_)
  refine zl_sld hG (ni + 2) dL_law_272 (by omega) (by omega) ?_
  clear hz12 hz13
  refine zr_aload_n hB 3 dL_law_273 rfl ?_
  refine zr_iload_n hB 0 dL_law_274 rfl ?_
  refine zr_iconst hB dL_law_275 rfl (fun z14 hz14 => ?_)
  refine zr_iadd hB dL_law_276 (by omega) (by omega) (fun z15 hz15 => ?_)
  refine zl_sld hG (ni + 3) dL_law_277 (by omega) (by omega) ?_
  clear hz14 hz15
  refine zl_callM hG (As := [.int (zt_x Z (ni + 1)), .int (zt_x Z (ni + 2)), .int (zt_x Z (ni + 3))]) (rest := []) dL_law_278 wm_L_26 rfl (c_M_known (zl_K K (zt_M Z)) hG.2.2.2.2.2.2.2.2.2.2.1 σM (zt_x Z (ni + 1)) (zt_x Z (ni + 2)) (zt_x Z (ni + 3)) hOM ) rfl rfl (Nat.le_of_ble_eq_true rfl) ⟨(Nat.le_of_ble_eq_true rfl), (Nat.le_of_ble_eq_true rfl), rfl, rfl⟩ (fun r16 σ17 h18 => ?_)
  obtain ⟨rfl, r16a, r16b⟩ := h18
  refine zr_pop hB dL_law_281 rfl ?_
  refine zr_goto hB dL_law_282 (tgt := 1780) rfl ?_
  exact kk _ _ ⟨hOX, hOM, hT, hN⟩

theorem lc_3 {K : zc_K} {G : zc_X} {Z : zl_T} (hG : zl_G K G Z) {σX σM : zc_S} {i : Int32} {ni : Nat} (hi : i.toInt = (ni : Int)) (h9 : ni + 9 ≤ zt_L Z) (hv : zl_v σX σM) (kk : ∀ σX' σM', zl_v σX' σM' → zc_V 4 K G (zl_I K G Z σX' σM') [(3, .int i), (2, .ref (zt_M Z 0)), (1, .ref (zt_X Z 0)), (0, .ref (zt_b Z))] 1780 []) : zc_V 4 K G (zl_I K G Z σX σM) [(3, .int i), (2, .ref (zt_M Z 0)), (1, .ref (zt_X Z 0)), (0, .ref (zt_b Z))] 285 [] := by
  obtain ⟨hOX, hOM, hT, hN⟩ := hv
  have hB := hG.1
  have hZ := hG.2.2.2.2.2.2.1
  refine zr_aload_n hB 2 dL_law_285 rfl ?_
  refine zr_aload_n hB 3 dL_law_286 rfl ?_
  refine zr_iload_n hB 0 dL_law_287 rfl ?_
  refine zr_iconst hB dL_law_288 rfl (fun z1 hz1 => ?_)
  refine zr_iadd hB dL_law_289 (by omega) (by omega) (fun z2 hz2 => ?_)
  refine zl_sld hG (ni + 1) dL_law_290 (by omega) (by omega) ?_
  clear hz1 hz2
  refine zr_aload_n hB 3 dL_law_291 rfl ?_
  refine zr_iload_n hB 0 dL_law_292 rfl ?_
  refine zr_iconst hB dL_law_293 rfl (fun z3 hz3 => ?_)
  refine zr_iadd hB dL_law_294 (by omega) (by omega) (fun z4 hz4 => ?_)
  refine zl_sld hG (ni + 2) dL_law_295 (by omega) (by omega) ?_
  clear hz3 hz4
  refine zr_aload_n hB 3 dL_law_296 rfl ?_
  refine zr_iload_n hB 0 dL_law_297 rfl ?_
  refine zr_iconst hB dL_law_298 rfl (fun z5 hz5 => ?_)
  refine zr_iadd hB dL_law_299 (by omega) (by omega) (fun z6 hz6 => ?_)
  refine zl_sld hG (ni + 3) dL_law_300 (by omega) (by omega) ?_
  clear hz5 hz6
  refine zr_if_eq hB dL_law_301 (tgt := 308) rfl (fun h7 => ?_) (fun h7 => ?_)
  · skip
    refine zr_iconst hB dL_law_308 rfl (fun z8 hz8 => ?_)
    refine zl_callX hG (As := [.int (zt_x Z (ni + 1)), .int (zt_x Z (ni + 2)), .int z8]) (rest := []) dL_law_309 wm_L_27 rfl (c_X8_mark_0 (zl_K K (zt_X Z)) hG.2.2.2.2.2.2.2.2.2.1 σX (zt_x Z (ni + 1)) (zt_x Z (ni + 2)) z8 hOX (by omega) (by omega)) rfl rfl (Nat.le_of_ble_eq_true rfl) ⟨(Nat.le_of_ble_eq_true rfl), (Nat.le_of_ble_eq_true rfl), rfl, rfl⟩ (fun r9 σ10 h11 => ?_)
    obtain ⟨hO12, hA13, r9a, r9b⟩ := h11
    have hN14 : (σ10.1 1 0).toInt = (σM.1 0 1).toInt := by rw [(hA13 1 0 rfl).1]; exact hN
    refine zr_pop hB dL_law_312 rfl ?_
    refine zr_aload_n hB 1 dL_law_313 rfl ?_
    refine zr_aload_n hB 3 dL_law_314 rfl ?_
    refine zr_iload_n hB 0 dL_law_315 rfl ?_
    refine zr_iconst hB dL_law_316 rfl (fun z15 hz15 => ?_)
    refine zr_iadd hB dL_law_317 (by omega) (by omega) (fun z16 hz16 => ?_)
    refine zl_sld hG (ni + 1) dL_law_318 (by omega) (by omega) ?_
    clear hz15 hz16
    refine zr_aload_n hB 3 dL_law_319 rfl ?_
    refine zr_iload_n hB 0 dL_law_320 rfl ?_
    refine zr_iconst hB dL_law_321 rfl (fun z17 hz17 => ?_)
    refine zr_iadd hB dL_law_322 (by omega) (by omega) (fun z18 hz18 => ?_)
    refine zl_sld hG (ni + 2) dL_law_323 (by omega) (by omega) ?_
    clear hz17 hz18
    refine zr_aload_n hB 3 dL_law_324 rfl ?_
    refine zr_iload_n hB 0 dL_law_325 rfl ?_
    refine zr_iconst hB dL_law_326 rfl (fun z19 hz19 => ?_)
    refine zr_iadd hB dL_law_327 (by omega) (by omega) (fun z20 hz20 => ?_)
    refine zl_sld hG (ni + 3) dL_law_328 (by omega) (by omega) ?_
    clear hz19 hz20
    refine zr_if_eq hB dL_law_329 (tgt := 336) rfl (fun h22 => ?_) (fun h22 => absurd h7 h22)
    refine zr_iconst hB dL_law_336 rfl (fun z23 hz23 => ?_)
    refine zl_callM hG (As := [.int (zt_x Z (ni + 1)), .int (zt_x Z (ni + 2)), .int z23]) (rest := []) dL_law_337 wm_L_31 rfl (c_M_mark (zl_K K (zt_M Z)) hG.2.2.2.2.2.2.2.2.2.2.1 σM (zt_x Z (ni + 1)) (zt_x Z (ni + 2)) z23 hOM (by omega) (by omega)) rfl rfl (Nat.le_of_ble_eq_true rfl) ⟨(Nat.le_of_ble_eq_true rfl), (Nat.le_of_ble_eq_true rfl), rfl, rfl⟩ (fun r24 σ25 h26 => ?_)
    obtain ⟨hO27, hA28, r24a, r24b⟩ := h26
    have hT29 := zm_T.ag hT hA28 rfl (fun _ => rfl) (fun _ => rfl)
    have hN30 : (σ10.1 1 0).toInt = (σ25.1 0 1).toInt := by rw [(hA28 0 1 rfl).1]; exact hN14
    refine zr_pop hB dL_law_340 rfl ?_
    refine zr_goto hB dL_law_341 (tgt := 1780) rfl ?_
    exact kk _ _ ⟨hO12, hO27, hT29, hN30⟩
  · skip
    refine zr_iconst hB dL_law_304 rfl (fun z31 hz31 => ?_)
    refine zr_goto hB dL_law_305 (tgt := 309) rfl ?_
    refine zl_callX hG (As := [.int (zt_x Z (ni + 1)), .int (zt_x Z (ni + 2)), .int z31]) (rest := []) dL_law_309 wm_L_27 rfl (c_X8_mark_0 (zl_K K (zt_X Z)) hG.2.2.2.2.2.2.2.2.2.1 σX (zt_x Z (ni + 1)) (zt_x Z (ni + 2)) z31 hOX (by omega) (by omega)) rfl rfl (Nat.le_of_ble_eq_true rfl) ⟨(Nat.le_of_ble_eq_true rfl), (Nat.le_of_ble_eq_true rfl), rfl, rfl⟩ (fun r32 σ33 h34 => ?_)
    obtain ⟨hO35, hA36, r32a, r32b⟩ := h34
    have hN37 : (σ33.1 1 0).toInt = (σM.1 0 1).toInt := by rw [(hA36 1 0 rfl).1]; exact hN
    refine zr_pop hB dL_law_312 rfl ?_
    refine zr_aload_n hB 1 dL_law_313 rfl ?_
    refine zr_aload_n hB 3 dL_law_314 rfl ?_
    refine zr_iload_n hB 0 dL_law_315 rfl ?_
    refine zr_iconst hB dL_law_316 rfl (fun z38 hz38 => ?_)
    refine zr_iadd hB dL_law_317 (by omega) (by omega) (fun z39 hz39 => ?_)
    refine zl_sld hG (ni + 1) dL_law_318 (by omega) (by omega) ?_
    clear hz38 hz39
    refine zr_aload_n hB 3 dL_law_319 rfl ?_
    refine zr_iload_n hB 0 dL_law_320 rfl ?_
    refine zr_iconst hB dL_law_321 rfl (fun z40 hz40 => ?_)
    refine zr_iadd hB dL_law_322 (by omega) (by omega) (fun z41 hz41 => ?_)
    refine zl_sld hG (ni + 2) dL_law_323 (by omega) (by omega) ?_
    clear hz40 hz41
    refine zr_aload_n hB 3 dL_law_324 rfl ?_
    refine zr_iload_n hB 0 dL_law_325 rfl ?_
    refine zr_iconst hB dL_law_326 rfl (fun z42 hz42 => ?_)
    refine zr_iadd hB dL_law_327 (by omega) (by omega) (fun z43 hz43 => ?_)
    refine zl_sld hG (ni + 3) dL_law_328 (by omega) (by omega) ?_
    clear hz42 hz43
    refine zr_if_eq hB dL_law_329 (tgt := 336) rfl (fun h45 => absurd h45 h7) (fun h45 => ?_)
    refine zr_iconst hB dL_law_332 rfl (fun z46 hz46 => ?_)
    refine zr_goto hB dL_law_333 (tgt := 337) rfl ?_
    refine zl_callM hG (As := [.int (zt_x Z (ni + 1)), .int (zt_x Z (ni + 2)), .int z46]) (rest := []) dL_law_337 wm_L_31 rfl (c_M_mark (zl_K K (zt_M Z)) hG.2.2.2.2.2.2.2.2.2.2.1 σM (zt_x Z (ni + 1)) (zt_x Z (ni + 2)) z46 hOM (by omega) (by omega)) rfl rfl (Nat.le_of_ble_eq_true rfl) ⟨(Nat.le_of_ble_eq_true rfl), (Nat.le_of_ble_eq_true rfl), rfl, rfl⟩ (fun r47 σ48 h49 => ?_)
    obtain ⟨hO50, hA51, r47a, r47b⟩ := h49
    have hT52 := zm_T.ag hT hA51 rfl (fun _ => rfl) (fun _ => rfl)
    have hN53 : (σ33.1 1 0).toInt = (σ48.1 0 1).toInt := by rw [(hA51 0 1 rfl).1]; exact hN37
    refine zr_pop hB dL_law_340 rfl ?_
    refine zr_goto hB dL_law_341 (tgt := 1780) rfl ?_
    exact kk _ _ ⟨hO35, hO50, hT52, hN53⟩

theorem lc_4 {K : zc_K} {G : zc_X} {Z : zl_T} (hG : zl_G K G Z) {σX σM : zc_S} {i : Int32} {ni : Nat} (hi : i.toInt = (ni : Int)) (h9 : ni + 9 ≤ zt_L Z) (hv : zl_v σX σM) (kk : ∀ σX' σM', zl_v σX' σM' → zc_V 4 K G (zl_I K G Z σX' σM') [(3, .int i), (2, .ref (zt_M Z 0)), (1, .ref (zt_X Z 0)), (0, .ref (zt_b Z))] 1780 []) : zc_V 4 K G (zl_I K G Z σX σM) [(3, .int i), (2, .ref (zt_M Z 0)), (1, .ref (zt_X Z 0)), (0, .ref (zt_b Z))] 344 [] := by
  obtain ⟨hOX, hOM, hT, hN⟩ := hv
  have hB := hG.1
  have hZ := hG.2.2.2.2.2.2.1
  refine zr_aload_n hB 2 dL_law_344 rfl ?_
  refine zr_aload_n hB 3 dL_law_345 rfl ?_
  refine zr_iload_n hB 0 dL_law_346 rfl ?_
  refine zr_iconst hB dL_law_347 rfl (fun z1 hz1 => ?_)
  refine zr_iadd hB dL_law_348 (by omega) (by omega) (fun z2 hz2 => ?_)
  refine zl_sld hG (ni + 1) dL_law_349 (by omega) (by omega) ?_
  clear hz1 hz2
  refine zr_i2l hB dL_law_350 (fun l3 hl3 => ?_)
  refine zr_bipush hB dL_law_351 rfl (fun z4 hz4 => ?_)
  refine zr_lshl hB dL_law_353 (fun l5 hl5 => ?_)
  refine zr_aload_n hB 3 dL_law_354 rfl ?_
  refine zr_iload_n hB 0 dL_law_355 rfl ?_
  refine zr_iconst hB dL_law_356 rfl (fun z6 hz6 => ?_)
  refine zr_iadd hB dL_law_357 (by omega) (by omega) (fun z7 hz7 => ?_)
  refine zl_sld hG (ni + 2) dL_law_358 (by omega) (by omega) ?_
  clear hz6 hz7
  refine zr_i2l hB dL_law_359 (fun l8 hl8 => ?_)
  refine zr_ldc2 hB dL_law_360 wc_L_32 rfl (fun l9 hl9 => ?_)
  refine zr_land hB dL_law_363 (fun l10 hl10 => ?_)
  refine zr_lor hB dL_law_364 (fun l11 hl11 => ?_)
  refine zl_callX hG (As := [.long l11]) (rest := []) dL_law_365 wm_L_34 rfl (c_X8_feed_0 (zl_K K (zt_X Z)) hG.2.2.2.2.2.2.2.2.2.1 σX l11 hOX ) rfl rfl (Nat.le_of_ble_eq_true rfl) ⟨(Nat.le_of_ble_eq_true rfl), (Nat.le_of_ble_eq_true rfl), rfl, rfl⟩ (fun r12 σ13 h14 => ?_)
  obtain ⟨hO15, hA16, r12a, r12b⟩ := h14
  have hN17 : (σ13.1 1 0).toInt = (σM.1 0 1).toInt := by rw [(hA16 1 0 rfl).1]; exact hN
  refine zr_pop hB dL_law_368 rfl ?_
  refine zr_aload_n hB 1 dL_law_369 rfl ?_
  refine zr_aload_n hB 3 dL_law_370 rfl ?_
  refine zr_iload_n hB 0 dL_law_371 rfl ?_
  refine zr_iconst hB dL_law_372 rfl (fun z18 hz18 => ?_)
  refine zr_iadd hB dL_law_373 (by omega) (by omega) (fun z19 hz19 => ?_)
  refine zl_sld hG (ni + 1) dL_law_374 (by omega) (by omega) ?_
  clear hz18 hz19
  refine zr_i2l hB dL_law_375 (fun l20 hl20 => ?_)
  refine zr_bipush hB dL_law_376 rfl (fun z21 hz21 => ?_)
  refine zr_lshl hB dL_law_378 (fun l22 hl22 => ?_)
  refine zr_aload_n hB 3 dL_law_379 rfl ?_
  refine zr_iload_n hB 0 dL_law_380 rfl ?_
  refine zr_iconst hB dL_law_381 rfl (fun z23 hz23 => ?_)
  refine zr_iadd hB dL_law_382 (by omega) (by omega) (fun z24 hz24 => ?_)
  refine zl_sld hG (ni + 2) dL_law_383 (by omega) (by omega) ?_
  clear hz23 hz24
  refine zr_i2l hB dL_law_384 (fun l25 hl25 => ?_)
  refine zr_ldc2 hB dL_law_385 wc_L_32 rfl (fun l26 hl26 => ?_)
  refine zr_land hB dL_law_388 (fun l27 hl27 => ?_)
  refine zr_lor hB dL_law_389 (fun l28 hl28 => ?_)
  refine zl_callM hG (As := [.long l28]) (rest := []) dL_law_390 wm_L_38 rfl (c_M_feed (zl_K K (zt_M Z)) hG.2.2.2.2.2.2.2.2.2.2.1 σM l28 hOM ) rfl rfl (Nat.le_of_ble_eq_true rfl) ⟨(Nat.le_of_ble_eq_true rfl), (Nat.le_of_ble_eq_true rfl), rfl, rfl⟩ (fun r29 σ30 h31 => ?_)
  obtain ⟨hO32, hA33, r29a, r29b⟩ := h31
  have hT34 := zm_T.ag hT hA33 rfl (fun _ => rfl) (fun _ => rfl)
  have hN35 : (σ13.1 1 0).toInt = (σ30.1 0 1).toInt := by rw [(hA33 0 1 rfl).1]; exact hN17
  refine zr_pop hB dL_law_393 rfl ?_
  refine zr_goto hB dL_law_394 (tgt := 1780) rfl ?_
  exact kk _ _ ⟨hO15, hO32, hT34, hN35⟩

theorem lc_5 {K : zc_K} {G : zc_X} {Z : zl_T} (hG : zl_G K G Z) {σX σM : zc_S} {i : Int32} {ni : Nat} (hi : i.toInt = (ni : Int)) (h9 : ni + 9 ≤ zt_L Z) (hv : zl_v σX σM) (kk : ∀ σX' σM', zl_v σX' σM' → zc_V 4 K G (zl_I K G Z σX' σM') [(3, .int i), (2, .ref (zt_M Z 0)), (1, .ref (zt_X Z 0)), (0, .ref (zt_b Z))] 1780 []) : zc_V 4 K G (zl_I K G Z σX σM) [(3, .int i), (2, .ref (zt_M Z 0)), (1, .ref (zt_X Z 0)), (0, .ref (zt_b Z))] 397 [] := by
  obtain ⟨hOX, hOM, hT, hN⟩ := hv
  have hB := hG.1
  have hZ := hG.2.2.2.2.2.2.1
  refine zr_aload_n hB 2 dL_law_397 rfl ?_
  refine zr_aload_n hB 3 dL_law_398 rfl ?_
  refine zr_iload_n hB 0 dL_law_399 rfl ?_
  refine zr_iconst hB dL_law_400 rfl (fun z1 hz1 => ?_)
  refine zr_iadd hB dL_law_401 (by omega) (by omega) (fun z2 hz2 => ?_)
  refine zl_sld hG (ni + 1) dL_law_402 (by omega) (by omega) ?_
  clear hz1 hz2
  refine zl_callX hG (As := [.int (zt_x Z (ni + 1))]) (rest := []) dL_law_403 wm_L_39 rfl (c_X8_end_0 (zl_K K (zt_X Z)) hG.2.2.2.2.2.2.2.2.2.1 σX (zt_x Z (ni + 1)) hOX ) rfl rfl (Nat.le_of_ble_eq_true rfl) ⟨(Nat.le_of_ble_eq_true rfl), (Nat.le_of_ble_eq_true rfl), rfl, rfl⟩ (fun r3 σ4 h5 => ?_)
  obtain ⟨hO6, hA7, r3a, r3b⟩ := h5
  have hN8 : (σ4.1 1 0).toInt = (σM.1 0 1).toInt := by rw [(hA7 1 0 rfl).1]; exact hN
  refine zr_pop hB dL_law_406 rfl ?_
  refine zr_aload_n hB 1 dL_law_407 rfl ?_
  refine zr_aload_n hB 3 dL_law_408 rfl ?_
  refine zr_iload_n hB 0 dL_law_409 rfl ?_
  refine zr_iconst hB dL_law_410 rfl (fun z9 hz9 => ?_)
  refine zr_iadd hB dL_law_411 (by omega) (by omega) (fun z10 hz10 => ?_)
  refine zl_sld hG (ni + 1) dL_law_412 (by omega) (by omega) ?_
  clear hz9 hz10
  refine zl_callM hG (As := [.int (zt_x Z (ni + 1))]) (rest := []) dL_law_413 wm_L_42 rfl (c_M_end (zl_K K (zt_M Z)) hG.2.2.2.2.2.2.2.2.2.2.1 σM (zt_x Z (ni + 1)) hOM ) rfl rfl (Nat.le_of_ble_eq_true rfl) ⟨(Nat.le_of_ble_eq_true rfl), (Nat.le_of_ble_eq_true rfl), rfl, rfl⟩ (fun r11 σ12 h13 => ?_)
  obtain ⟨hO14, hA15, r11a, r11b⟩ := h13
  have hT16 := zm_T.ag hT hA15 rfl (fun _ => rfl) (fun _ => rfl)
  have hN17 : (σ4.1 1 0).toInt = (σ12.1 0 1).toInt := by rw [(hA15 0 1 rfl).1]; exact hN8
  refine zr_pop hB dL_law_416 rfl ?_
  refine zr_goto hB dL_law_417 (tgt := 1780) rfl ?_
  exact kk _ _ ⟨hO6, hO14, hT16, hN17⟩

theorem lc_6 {K : zc_K} {G : zc_X} {Z : zl_T} (hG : zl_G K G Z) {σX σM : zc_S} {i : Int32} {ni : Nat} (hi : i.toInt = (ni : Int)) (h9 : ni + 9 ≤ zt_L Z) (hv : zl_v σX σM) (kk : ∀ σX' σM', zl_v σX' σM' → zc_V 4 K G (zl_I K G Z σX' σM') [(3, .int i), (2, .ref (zt_M Z 0)), (1, .ref (zt_X Z 0)), (0, .ref (zt_b Z))] 1780 []) : zc_V 4 K G (zl_I K G Z σX σM) [(3, .int i), (2, .ref (zt_M Z 0)), (1, .ref (zt_X Z 0)), (0, .ref (zt_b Z))] 420 [] := by
  obtain ⟨hOX, hOM, hT, hN⟩ := hv
  have hB := hG.1
  have hZ := hG.2.2.2.2.2.2.1
  refine zr_aload_n hB 2 dL_law_420 rfl ?_
  refine zl_callX hG (As := []) (rest := []) dL_law_421 wm_L_43 rfl (c_X8_text_0 (zl_K K (zt_X Z)) hG.2.2.2.2.2.2.2.2.2.1 σX  hOX ) rfl rfl (Nat.le_of_ble_eq_true rfl) ⟨(Nat.le_of_ble_eq_true rfl), (Nat.le_of_ble_eq_true rfl), rfl, rfl⟩ (fun r1 σ2 h3 => ?_)
  obtain ⟨hO4, hA5, r1a, r1b⟩ := h3
  have hN6 : (σ2.1 1 0).toInt = (σM.1 0 1).toInt := by rw [(hA5 1 0 rfl).1]; exact hN
  refine zr_pop hB dL_law_424 rfl ?_
  refine zr_aload_n hB 1 dL_law_425 rfl ?_
  refine zl_callM hG (As := []) (rest := []) dL_law_426 wm_L_47 rfl (c_M_text (zl_K K (zt_M Z)) hG.2.2.2.2.2.2.2.2.2.2.1 σM  hOM hT) rfl rfl (Nat.le_of_ble_eq_true rfl) ⟨(Nat.le_of_ble_eq_true rfl), (Nat.le_of_ble_eq_true rfl), rfl, rfl⟩ (fun r7 σ8 h9 => ?_)
  obtain ⟨hO10, hA11, r7a, r7b, g12⟩ := h9
  have hT13 := g12
  have hN14 : (σ2.1 1 0).toInt = (σ8.1 0 1).toInt := by rw [(hA11 0 1 rfl).1]; exact hN6
  refine zr_pop hB dL_law_429 rfl ?_
  refine zr_goto hB dL_law_430 (tgt := 1780) rfl ?_
  exact kk _ _ ⟨hO4, hO10, hT13, hN14⟩

theorem lc_7 {K : zc_K} {G : zc_X} {Z : zl_T} (hG : zl_G K G Z) {σX σM : zc_S} {i : Int32} {ni : Nat} (hi : i.toInt = (ni : Int)) (h9 : ni + 9 ≤ zt_L Z) (hv : zl_v σX σM) (kk : ∀ σX' σM', zl_v σX' σM' → zc_V 4 K G (zl_I K G Z σX' σM') [(3, .int i), (2, .ref (zt_M Z 0)), (1, .ref (zt_X Z 0)), (0, .ref (zt_b Z))] 1780 []) : zc_V 4 K G (zl_I K G Z σX σM) [(3, .int i), (2, .ref (zt_M Z 0)), (1, .ref (zt_X Z 0)), (0, .ref (zt_b Z))] 433 [] := by
  obtain ⟨hOX, hOM, hT, hN⟩ := hv
  have hB := hG.1
  have hZ := hG.2.2.2.2.2.2.1
  refine zr_aload_n hB 2 dL_law_433 rfl ?_
  refine zl_callX hG (As := []) (rest := []) dL_law_434 wm_L_48 rfl (c_X8_fault_0 (zl_K K (zt_X Z)) hG.2.2.2.2.2.2.2.2.2.1 σX  hOX ) rfl rfl (Nat.le_of_ble_eq_true rfl) ⟨(Nat.le_of_ble_eq_true rfl), (Nat.le_of_ble_eq_true rfl), rfl, rfl⟩ (fun r1 σ2 h3 => ?_)
  obtain ⟨rfl, r1a, r1b⟩ := h3
  refine zr_pop hB dL_law_437 rfl ?_
  refine zr_aload_n hB 1 dL_law_438 rfl ?_
  refine zl_callM hG (As := []) (rest := []) dL_law_439 wm_L_51 rfl (c_M_fault (zl_K K (zt_M Z)) hG.2.2.2.2.2.2.2.2.2.2.1 σM  hOM ) rfl rfl (Nat.le_of_ble_eq_true rfl) ⟨(Nat.le_of_ble_eq_true rfl), (Nat.le_of_ble_eq_true rfl), rfl, rfl⟩ (fun r4 σ5 h6 => ?_)
  obtain ⟨rfl, r4a, r4b⟩ := h6
  refine zr_pop hB dL_law_442 rfl ?_
  refine zr_goto hB dL_law_443 (tgt := 1780) rfl ?_
  exact kk _ _ ⟨hOX, hOM, hT, hN⟩

