section
variable {x : sm_Cx} {A : Nat → Prop} {b L i : Nat} {t : Nat → Int32} {wx wm : sm_Wc} {c0 s0 : Nat} {Q : State → Prop} {X S : sm_St}
theorem lw_c0 (K : lw_K x A b L t wx wm) (hi : i + 6 ≤ L) (hc : c0 ≤ 600000) (hs : s0 ≤ 7302250) (hR : R X S) (kk : ∀ X' S', R X' S' → al_W x A (lw_W wx wm X' S') c0 s0 Q 1032 (lw_V b wx wm (nI i)) []) : al_W x A (lw_W wx wm X S) c0 s0 Q 164 (lw_V b wx wm (nI i)) [] := by
  obtain ⟨r, X', S', hx, hm, hR'⟩ := c_cloth (N := 4000) (v1 := (t (i + 1))) (v2 := (t (i + 2))) (v3 := (t (i + 3))) (Nat.le_refl 4000) hR
  refine al_aload_n 2 K.1 d_law_164 rfl ?_
  refine lw_el (j := 1) 1 K d_law_165 d_law_166 d_law_167 d_law_168 d_law_169 (by decide) (by omega) ?_
  refine lw_el (j := 2) 2 K d_law_170 d_law_171 d_law_172 d_law_173 d_law_174 (by decide) (by omega) ?_
  refine lw_el (j := 3) 3 K d_law_175 d_law_176 d_law_177 d_law_178 d_law_179 (by decide) (by omega) ?_
  refine lw_cx (As := [.int (t (i + 1)), .int (t (i + 2)), .int (t (i + 3))]) K d_law_180 (cx_L_cloth K.2.2.2.2.2.2.1 4000 X (t (i + 1)) (t (i + 2)) (t (i + 3)) (r, X') hx) rfl wd_443 mwx_L_cloth (by decide) (by decide) rfl rfl (Nat.le_of_ble_eq_true rfl) hc hs ?_
  refine al_swap ?_
  refine al_aload_n 1 K.1 d_law_183 rfl ?_
  refine lw_el (j := 1) 1 K d_law_184 d_law_185 d_law_186 d_law_187 d_law_188 (by decide) (by omega) ?_
  refine lw_el (j := 2) 2 K d_law_189 d_law_190 d_law_191 d_law_192 d_law_193 (by decide) (by omega) ?_
  refine lw_el (j := 3) 3 K d_law_194 d_law_195 d_law_196 d_law_197 d_law_198 (by decide) (by omega) ?_
  refine lw_cm (As := [.int (t (i + 1)), .int (t (i + 2)), .int (t (i + 3))]) K d_law_199 (cm_cloth K.2.2.2.2.2.2.2.1 4000 S (t (i + 1)) (t (i + 2)) (t (i + 3)) (r, S') hm) rfl wd_1100 mwm_cloth (by decide) (by decide) rfl rfl (Nat.le_of_ble_eq_true rfl) hc hs ?_
  refine al_swap ?_
  refine al_eqT 1032 K.1 d_law_202 (by decide) ?_
  exact kk X' S' hR'
theorem lw_c1 (K : lw_K x A b L t wx wm) (hi : i + 6 ≤ L) (hc : c0 ≤ 600000) (hs : s0 ≤ 7302250) (hR : R X S) (kk : ∀ X' S', R X' S' → al_W x A (lw_W wx wm X' S') c0 s0 Q 1032 (lw_V b wx wm (nI i)) []) : al_W x A (lw_W wx wm X S) c0 s0 Q 207 (lw_V b wx wm (nI i)) [] := by
  obtain ⟨r, X', S', hx, hm, hR'⟩ := c_thing (N := 4000) (v1 := (t (i + 1))) (Nat.le_refl 4000) hR
  refine al_aload_n 2 K.1 d_law_207 rfl ?_
  refine lw_el (j := 1) 1 K d_law_208 d_law_209 d_law_210 d_law_211 d_law_212 (by decide) (by omega) ?_
  refine lw_cx (As := [.int (t (i + 1))]) K d_law_213 (cx_L_thing K.2.2.2.2.2.2.1 4000 X (t (i + 1)) (r, X') hx) rfl wd_467 mwx_L_thing (by decide) (by decide) rfl rfl (Nat.le_of_ble_eq_true rfl) hc hs ?_
  refine al_swap ?_
  refine al_aload_n 1 K.1 d_law_216 rfl ?_
  refine lw_el (j := 1) 1 K d_law_217 d_law_218 d_law_219 d_law_220 d_law_221 (by decide) (by omega) ?_
  refine lw_cm (As := [.int (t (i + 1))]) K d_law_222 (cm_thing K.2.2.2.2.2.2.2.1 4000 S (t (i + 1)) (r, S') hm) rfl wd_1138 mwm_thing (by decide) (by decide) rfl rfl (Nat.le_of_ble_eq_true rfl) hc hs ?_
  refine al_swap ?_
  refine al_eqT 1032 K.1 d_law_225 (by decide) ?_
  exact kk X' S' hR'
theorem lw_c2 (K : lw_K x A b L t wx wm) (hi : i + 6 ≤ L) (hc : c0 ≤ 600000) (hs : s0 ≤ 7302250) (hR : R X S) (kk : ∀ X' S', R X' S' → al_W x A (lw_W wx wm X' S') c0 s0 Q 1032 (lw_V b wx wm (nI i)) []) : al_W x A (lw_W wx wm X S) c0 s0 Q 230 (lw_V b wx wm (nI i)) [] := by
  obtain ⟨r, X', S', hx, hm, hR'⟩ := c_touch (N := 4000) (v1 := (t (i + 1))) (v2 := (t (i + 2))) (v3 := (t (i + 3))) (Nat.le_refl 4000) hR
  refine al_aload_n 2 K.1 d_law_230 rfl ?_
  refine lw_el (j := 1) 1 K d_law_231 d_law_232 d_law_233 d_law_234 d_law_235 (by decide) (by omega) ?_
  refine lw_el (j := 2) 2 K d_law_236 d_law_237 d_law_238 d_law_239 d_law_240 (by decide) (by omega) ?_
  refine lw_el (j := 3) 3 K d_law_241 d_law_242 d_law_243 d_law_244 d_law_245 (by decide) (by omega) ?_
  refine lw_cx (As := [.int (t (i + 1)), .int (t (i + 2)), .int (t (i + 3))]) K d_law_246 (cx_L_touch K.2.2.2.2.2.2.1 4000 X (t (i + 1)) (t (i + 2)) (t (i + 3)) (r, X') hx) rfl wd_475 mwx_L_touch (by decide) (by decide) rfl rfl (Nat.le_of_ble_eq_true rfl) hc hs ?_
  refine al_swap ?_
  refine al_aload_n 1 K.1 d_law_249 rfl ?_
  refine lw_el (j := 1) 1 K d_law_250 d_law_251 d_law_252 d_law_253 d_law_254 (by decide) (by omega) ?_
  refine lw_el (j := 2) 2 K d_law_255 d_law_256 d_law_257 d_law_258 d_law_259 (by decide) (by omega) ?_
  refine lw_el (j := 3) 3 K d_law_260 d_law_261 d_law_262 d_law_263 d_law_264 (by decide) (by omega) ?_
  refine lw_cm (As := [.int (t (i + 1)), .int (t (i + 2)), .int (t (i + 3))]) K d_law_265 (cm_touch K.2.2.2.2.2.2.2.1 4000 S (t (i + 1)) (t (i + 2)) (t (i + 3)) (r, S') hm) rfl wd_1146 mwm_touch (by decide) (by decide) rfl rfl (Nat.le_of_ble_eq_true rfl) hc hs ?_
  refine al_swap ?_
  refine al_eqT 1032 K.1 d_law_268 (by decide) ?_
  exact kk X' S' hR'
theorem lw_c3 (K : lw_K x A b L t wx wm) (hi : i + 6 ≤ L) (hc : c0 ≤ 600000) (hs : s0 ≤ 7302250) (hR : R X S) (kk : ∀ X' S', R X' S' → al_W x A (lw_W wx wm X' S') c0 s0 Q 1032 (lw_V b wx wm (nI i)) []) : al_W x A (lw_W wx wm X S) c0 s0 Q 273 (lw_V b wx wm (nI i)) [] := by
  obtain ⟨r, X', S', hx, hm, hR'⟩ := c_colour (N := 4000) (v1 := (t (i + 1))) (v2 := (t (i + 2))) (Nat.le_refl 4000) hR
  refine al_aload_n 2 K.1 d_law_273 rfl ?_
  refine lw_el (j := 1) 1 K d_law_274 d_law_275 d_law_276 d_law_277 d_law_278 (by decide) (by omega) ?_
  refine lw_el (j := 2) 2 K d_law_279 d_law_280 d_law_281 d_law_282 d_law_283 (by decide) (by omega) ?_
  refine lw_cx (As := [.int (t (i + 1)), .int (t (i + 2))]) K d_law_284 (cx_L_colour K.2.2.2.2.2.2.1 4000 X (t (i + 1)) (t (i + 2)) (r, X') hx) rfl wd_494 mwx_L_colour (by decide) (by decide) rfl rfl (Nat.le_of_ble_eq_true rfl) hc hs ?_
  refine al_swap ?_
  refine al_aload_n 1 K.1 d_law_287 rfl ?_
  refine lw_el (j := 1) 1 K d_law_288 d_law_289 d_law_290 d_law_291 d_law_292 (by decide) (by omega) ?_
  refine lw_el (j := 2) 2 K d_law_293 d_law_294 d_law_295 d_law_296 d_law_297 (by decide) (by omega) ?_
  refine lw_cm (As := [.int (t (i + 1)), .int (t (i + 2))]) K d_law_298 (cm_colour K.2.2.2.2.2.2.2.1 4000 S (t (i + 1)) (t (i + 2)) (r, S') hm) rfl wd_1161 mwm_colour (by decide) (by decide) rfl rfl (Nat.le_of_ble_eq_true rfl) hc hs ?_
  refine al_swap ?_
  refine al_eqT 1032 K.1 d_law_301 (by decide) ?_
  exact kk X' S' hR'
theorem lw_c4 (K : lw_K x A b L t wx wm) (hi : i + 6 ≤ L) (hc : c0 ≤ 600000) (hs : s0 ≤ 7302250) (hR : R X S) (kk : ∀ X' S', R X' S' → al_W x A (lw_W wx wm X' S') c0 s0 Q 1032 (lw_V b wx wm (nI i)) []) : al_W x A (lw_W wx wm X S) c0 s0 Q 306 (lw_V b wx wm (nI i)) [] := by
  obtain ⟨r, X', S', hx, hm, hR'⟩ := c_type (N := 4000) (v1 := (lw_long (t (i + 1)) (t (i + 2)))) (v3 := (t (i + 3))) (Nat.le_refl 4000) hR
  refine al_aload_n 2 K.1 d_law_306 rfl ?_
  refine lw_el (j := 1) 1 K d_law_307 d_law_308 d_law_309 d_law_310 d_law_311 (by decide) (by omega) ?_
  refine al_i2l K.1 d_law_312 ?_
  refine al_bipush 32 K.1 d_law_313 (by decide) ?_
  refine al_lshl K.1 d_law_315 ?_
  refine lw_el (j := 2) 2 K d_law_316 d_law_317 d_law_318 d_law_319 d_law_320 (by decide) (by omega) ?_
  refine al_i2l K.1 d_law_321 ?_
  refine al_ldc2 (v := 4294967295) K.1 d_law_322 wd_1508 ?_
  refine al_land K.1 d_law_325 ?_
  refine al_lor K.1 d_law_326 ?_
  refine lw_el (j := 3) 3 K d_law_327 d_law_328 d_law_329 d_law_330 d_law_331 (by decide) (by omega) ?_
  refine lw_cx (As := [.long (lw_long (t (i + 1)) (t (i + 2))), .int (t (i + 3))]) K d_law_332 (cx_L_type K.2.2.2.2.2.2.1 4000 X (lw_long (t (i + 1)) (t (i + 2))) (t (i + 3)) (r, X') hx) rfl wd_499 mwx_L_type (by decide) (by decide) rfl rfl (Nat.le_of_ble_eq_true rfl) hc hs ?_
  refine al_swap ?_
  refine al_aload_n 1 K.1 d_law_335 rfl ?_
  refine lw_el (j := 1) 1 K d_law_336 d_law_337 d_law_338 d_law_339 d_law_340 (by decide) (by omega) ?_
  refine al_i2l K.1 d_law_341 ?_
  refine al_bipush 32 K.1 d_law_342 (by decide) ?_
  refine al_lshl K.1 d_law_344 ?_
  refine lw_el (j := 2) 2 K d_law_345 d_law_346 d_law_347 d_law_348 d_law_349 (by decide) (by omega) ?_
  refine al_i2l K.1 d_law_350 ?_
  refine al_ldc2 (v := 4294967295) K.1 d_law_351 wd_1508 ?_
  refine al_land K.1 d_law_354 ?_
  refine al_lor K.1 d_law_355 ?_
  refine lw_el (j := 3) 3 K d_law_356 d_law_357 d_law_358 d_law_359 d_law_360 (by decide) (by omega) ?_
  refine lw_cm (As := [.long (lw_long (t (i + 1)) (t (i + 2))), .int (t (i + 3))]) K d_law_361 (cm_type K.2.2.2.2.2.2.2.1 4000 S (lw_long (t (i + 1)) (t (i + 2))) (t (i + 3)) (r, S') hm) rfl wd_1401 mwm_type (by decide) (by decide) rfl rfl (Nat.le_of_ble_eq_true rfl) hc hs ?_
  refine al_swap ?_
  refine al_eqT 1032 K.1 d_law_364 (by decide) ?_
  exact kk X' S' hR'
theorem lw_c5 (K : lw_K x A b L t wx wm) (hi : i + 6 ≤ L) (hc : c0 ≤ 600000) (hs : s0 ≤ 7302250) (hR : R X S) (kk : ∀ X' S', R X' S' → al_W x A (lw_W wx wm X' S') c0 s0 Q 1032 (lw_V b wx wm (nI i)) []) : al_W x A (lw_W wx wm X S) c0 s0 Q 369 (lw_V b wx wm (nI i)) [] := by
  obtain ⟨r, X', S', hx, hm, hR'⟩ := c_clear (N := 4000) (Nat.le_refl 4000) hR
  refine al_aload_n 2 K.1 d_law_369 rfl ?_
  refine lw_cx (As := []) K d_law_370 (cx_L_clear K.2.2.2.2.2.2.1 4000 X (r, X') hx) rfl wd_508 mwx_L_clear (by decide) (by decide) rfl rfl (Nat.le_of_ble_eq_true rfl) hc hs ?_
  refine al_swap ?_
  refine al_aload_n 1 K.1 d_law_373 rfl ?_
  refine lw_cm (As := []) K d_law_374 (cm_clear K.2.2.2.2.2.2.2.1 4000 S (r, S') hm) rfl wd_1407 mwm_clear (by decide) (by decide) rfl rfl (Nat.le_of_ble_eq_true rfl) hc hs ?_
  refine al_swap ?_
  refine al_eqT 1032 K.1 d_law_377 (by decide) ?_
  exact kk X' S' hR'
theorem lw_c6 (K : lw_K x A b L t wx wm) (hi : i + 6 ≤ L) (hc : c0 ≤ 600000) (hs : s0 ≤ 7302250) (hR : R X S) (kk : ∀ X' S', R X' S' → al_W x A (lw_W wx wm X' S') c0 s0 Q 1032 (lw_V b wx wm (nI i)) []) : al_W x A (lw_W wx wm X S) c0 s0 Q 382 (lw_V b wx wm (nI i)) [] := by
  obtain ⟨r, X', S', hx, hm, hR'⟩ := c_read (N := 4000) (Nat.le_refl 4000) hR
  refine al_aload_n 2 K.1 d_law_382 rfl ?_
  refine lw_cx (As := []) K d_law_383 (cx_L_read K.2.2.2.2.2.2.1 4000 X (r, X') hx) rfl wd_512 mwx_L_read (by decide) (by decide) rfl rfl (Nat.le_of_ble_eq_true rfl) hc hs ?_
  refine al_swap ?_
  refine al_aload_n 1 K.1 d_law_386 rfl ?_
  refine lw_cm (As := []) K d_law_387 (cm_read K.2.2.2.2.2.2.2.1 4000 S (r, S') hm) rfl wd_1411 mwm_read (by decide) (by decide) rfl rfl (Nat.le_of_ble_eq_true rfl) hc hs ?_
  refine al_swap ?_
  refine al_eqT 1032 K.1 d_law_390 (by decide) ?_
  exact kk X' S' hR'
theorem lw_c7 (K : lw_K x A b L t wx wm) (hi : i + 6 ≤ L) (hc : c0 ≤ 600000) (hs : s0 ≤ 7302250) (hR : R X S) (kk : ∀ X' S', R X' S' → al_W x A (lw_W wx wm X' S') c0 s0 Q 1032 (lw_V b wx wm (nI i)) []) : al_W x A (lw_W wx wm X S) c0 s0 Q 395 (lw_V b wx wm (nI i)) [] := by
  obtain ⟨r, X', S', hx, hm, hR'⟩ := c_shade (N := 4000) (v1 := (t (i + 1))) (v2 := (t (i + 2))) (Nat.le_refl 4000) hR
  refine al_aload_n 2 K.1 d_law_395 rfl ?_
  refine lw_el (j := 1) 1 K d_law_396 d_law_397 d_law_398 d_law_399 d_law_400 (by decide) (by omega) ?_
  refine lw_el (j := 2) 2 K d_law_401 d_law_402 d_law_403 d_law_404 d_law_405 (by decide) (by omega) ?_
  refine lw_cx (As := [.int (t (i + 1)), .int (t (i + 2))]) K d_law_406 (cx_L_shade K.2.2.2.2.2.2.1 4000 X (t (i + 1)) (t (i + 2)) (r, X') hx) rfl wd_626 mwx_L_shade (by decide) (by decide) rfl rfl (Nat.le_of_ble_eq_true rfl) hc hs ?_
  refine al_swap ?_
  refine al_aload_n 1 K.1 d_law_409 rfl ?_
  refine lw_el (j := 1) 1 K d_law_410 d_law_411 d_law_412 d_law_413 d_law_414 (by decide) (by omega) ?_
  refine lw_el (j := 2) 2 K d_law_415 d_law_416 d_law_417 d_law_418 d_law_419 (by decide) (by omega) ?_
  refine lw_cm (As := [.int (t (i + 1)), .int (t (i + 2))]) K d_law_420 (cm_shade K.2.2.2.2.2.2.2.1 4000 S (t (i + 1)) (t (i + 2)) (r, S') hm) rfl wd_1169 mwm_shade (by decide) (by decide) rfl rfl (Nat.le_of_ble_eq_true rfl) hc hs ?_
  refine al_swap ?_
  refine al_eqT 1032 K.1 d_law_423 (by decide) ?_
  exact kk X' S' hR'
theorem lw_c8 (K : lw_K x A b L t wx wm) (hi : i + 6 ≤ L) (hc : c0 ≤ 600000) (hs : s0 ≤ 7302250) (hR : R X S) (kk : ∀ X' S', R X' S' → al_W x A (lw_W wx wm X' S') c0 s0 Q 1032 (lw_V b wx wm (nI i)) []) : al_W x A (lw_W wx wm X S) c0 s0 Q 428 (lw_V b wx wm (nI i)) [] := by
  obtain ⟨r, X', S', hx, hm, hR'⟩ := c_sleep (N := 4000) (Nat.le_refl 4000) hR
  refine al_aload_n 2 K.1 d_law_428 rfl ?_
  refine lw_cx (As := []) K d_law_429 (cx_L_sleep K.2.2.2.2.2.2.1 4000 X (r, X') hx) rfl wd_716 mwx_L_sleep (by decide) (by decide) rfl rfl (Nat.le_of_ble_eq_true rfl) hc hs ?_
  refine al_swap ?_
  refine al_aload_n 1 K.1 d_law_432 rfl ?_
  refine lw_cm (As := []) K d_law_433 (cm_sleep K.2.2.2.2.2.2.2.1 4000 S (r, S') hm) rfl wd_1261 mwm_sleep (by decide) (by decide) rfl rfl (Nat.le_of_ble_eq_true rfl) hc hs ?_
  refine al_swap ?_
  refine al_eqT 1032 K.1 d_law_436 (by decide) ?_
  exact kk X' S' hR'
theorem lw_c9 (K : lw_K x A b L t wx wm) (hi : i + 6 ≤ L) (hc : c0 ≤ 600000) (hs : s0 ≤ 7302250) (hR : R X S) (kk : ∀ X' S', R X' S' → al_W x A (lw_W wx wm X' S') c0 s0 Q 1032 (lw_V b wx wm (nI i)) []) : al_W x A (lw_W wx wm X S) c0 s0 Q 441 (lw_V b wx wm (nI i)) [] := by
  obtain ⟨r, X', S', hx, hm, hR'⟩ := c_undo (N := 4000) (Nat.le_refl 4000) hR
  refine al_aload_n 2 K.1 d_law_441 rfl ?_
  refine lw_cx (As := []) K d_law_442 (cx_L_undo K.2.2.2.2.2.2.1 4000 X (r, X') hx) rfl wd_735 mwx_L_undo (by decide) (by decide) rfl rfl (Nat.le_of_ble_eq_true rfl) hc hs ?_
  refine al_swap ?_
  refine al_aload_n 1 K.1 d_law_445 rfl ?_
  refine lw_cm (As := []) K d_law_446 (cm_undo K.2.2.2.2.2.2.2.1 4000 S (r, S') hm) rfl wd_1273 mwm_undo (by decide) (by decide) rfl rfl (Nat.le_of_ble_eq_true rfl) hc hs ?_
  refine al_swap ?_
  refine al_eqT 1032 K.1 d_law_449 (by decide) ?_
  exact kk X' S' hR'
end
