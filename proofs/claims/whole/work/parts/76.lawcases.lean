theorem lc_0 {Θ : gT} {l : Launch} {D : gD} {ad : gA} {b L : Nat} {sc : Int → Int} {i : Int} {x : gX} {y : gY} (F : gF Θ l D ad cL_law RL 4 20) (hX : gScr Θ b L sc) (hL : L ≤ 3072) (hi : 0 ≤ i ∧ i + 6 ≤ (L : Int)) (hRel : Rel x y) (kk : ∀ (x1 : gX) (y1 : gY), Rel x1 y1 → gW Θ l D ad 4 1248 (lwL ad b i) [] x1 y1) : gW Θ l D ad 4 212 (lwL ad b i) [] x y := by
  refine g_aload_n F dL_law_212 rfl 2 rfl ?_
  refine g_aload_n F dL_law_213 rfl 3 rfl ?_
  refine g_iload_n F dL_law_214 rfl 0 rfl ?_
  refine g_iconst F dL_law_215 (1) (by decide) ?_
  refine g_iadd F dL_law_216 ?_
  refine g_sld F hX (by omega) hL dL_law_217 ?_
  refine g_aload_n F dL_law_218 rfl 3 rfl ?_
  refine g_iload_n F dL_law_219 rfl 0 rfl ?_
  refine g_iconst F dL_law_220 (2) (by decide) ?_
  refine g_iadd F dL_law_221 ?_
  refine g_sld F hX (by omega) hL dL_law_222 ?_
  refine g_callV 2 F (As := [.int (J (sc (i + 1))), .int (J (sc (i + 2)))]) (st := []) (c_X7_row l D ad x y (sc (i + 1)) (sc (i + 2)) (sc_r hX _) (sc_r hX _) hRel.1) gR_7 rfl mk_L_13 ki_X7_row kc_X7_row (by decide +kernel) rfl (by decide) dL_law_223 rfl (Nat.le_of_ble_eq_true rfl) (pI_k ?_)
  refine g_aload_n F dL_law_226 rfl 1 rfl ?_
  refine g_aload_n F dL_law_227 rfl 3 rfl ?_
  refine g_iload_n F dL_law_228 rfl 0 rfl ?_
  refine g_iconst F dL_law_229 (1) (by decide) ?_
  refine g_iadd F dL_law_230 ?_
  refine g_sld F hX (by omega) hL dL_law_231 ?_
  refine g_aload_n F dL_law_232 rfl 3 rfl ?_
  refine g_iload_n F dL_law_233 rfl 0 rfl ?_
  refine g_iconst F dL_law_234 (2) (by decide) ?_
  refine g_iadd F dL_law_235 ?_
  refine g_sld F hX (by omega) hL dL_law_236 ?_
  refine g_callV 2 F (As := [.int (J (sc (i + 1))), .int (J (sc (i + 2)))]) (st := [.int (J ((lRf x 6 (sc (i + 1)) 40 (sc (i + 1)) (sc (i + 2)) 0).1))]) (c_X8_row l D ad ((lRf x 6 (sc (i + 1)) 40 (sc (i + 1)) (sc (i + 2)) 0).2) y x (sc (i + 1)) (sc (i + 2)) (sc_r hX _) (sc_r hX _) hRel) gR_8 rfl mk_L_17 ki_X8_row kc_X8_row (by decide +kernel) rfl (by decide) dL_law_237 rfl (Nat.le_of_ble_eq_true rfl) (pH_k (fun v hv => ?_))
  refine g_same 1248 F dL_law_240 rfl ?_
  exact kk _ _ (hv)

theorem lc_1 {Θ : gT} {l : Launch} {D : gD} {ad : gA} {b L : Nat} {sc : Int → Int} {i : Int} {x : gX} {y : gY} (F : gF Θ l D ad cL_law RL 4 20) (hX : gScr Θ b L sc) (hL : L ≤ 3072) (hi : 0 ≤ i ∧ i + 6 ≤ (L : Int)) (hRel : Rel x y) (kk : ∀ (x1 : gX) (y1 : gY), Rel x1 y1 → gW Θ l D ad 4 1248 (lwL ad b i) [] x1 y1) : gW Θ l D ad 4 245 (lwL ad b i) [] x y := by
  refine g_aload_n F dL_law_245 rfl 2 rfl ?_
  refine g_aload_n F dL_law_246 rfl 3 rfl ?_
  refine g_iload_n F dL_law_247 rfl 0 rfl ?_
  refine g_iconst F dL_law_248 (1) (by decide) ?_
  refine g_iadd F dL_law_249 ?_
  refine g_sld F hX (by omega) hL dL_law_250 ?_
  refine g_aload_n F dL_law_251 rfl 3 rfl ?_
  refine g_iload_n F dL_law_252 rfl 0 rfl ?_
  refine g_iconst F dL_law_253 (2) (by decide) ?_
  refine g_iadd F dL_law_254 ?_
  refine g_sld F hX (by omega) hL dL_law_255 ?_
  refine g_aload_n F dL_law_256 rfl 3 rfl ?_
  refine g_iload_n F dL_law_257 rfl 0 rfl ?_
  refine g_iconst F dL_law_258 (3) (by decide) ?_
  refine g_iadd F dL_law_259 ?_
  refine g_sld F hX (by omega) hL dL_law_260 ?_
  refine g_callV 3 F (As := [.int (J (sc (i + 1))), .int (J (sc (i + 2))), .int (J (sc (i + 3)))]) (st := []) (c_X7_lay l D ad x y (sc (i + 1)) (sc (i + 2)) (sc (i + 3)) (sc_r hX _) (sc_r hX _) (sc_r hX _) hRel.1) gR_7 rfl mk_L_18 ki_X7_lay kc_X7_lay (by decide +kernel) rfl (by decide) dL_law_261 rfl (Nat.le_of_ble_eq_true rfl) (pI_k ?_)
  refine g_aload_n F dL_law_264 rfl 1 rfl ?_
  refine g_aload_n F dL_law_265 rfl 3 rfl ?_
  refine g_iload_n F dL_law_266 rfl 0 rfl ?_
  refine g_iconst F dL_law_267 (1) (by decide) ?_
  refine g_iadd F dL_law_268 ?_
  refine g_sld F hX (by omega) hL dL_law_269 ?_
  refine g_aload_n F dL_law_270 rfl 3 rfl ?_
  refine g_iload_n F dL_law_271 rfl 0 rfl ?_
  refine g_iconst F dL_law_272 (2) (by decide) ?_
  refine g_iadd F dL_law_273 ?_
  refine g_sld F hX (by omega) hL dL_law_274 ?_
  refine g_aload_n F dL_law_275 rfl 3 rfl ?_
  refine g_iload_n F dL_law_276 rfl 0 rfl ?_
  refine g_iconst F dL_law_277 (3) (by decide) ?_
  refine g_iadd F dL_law_278 ?_
  refine g_sld F hX (by omega) hL dL_law_279 ?_
  refine g_callV 3 F (As := [.int (J (sc (i + 1))), .int (J (sc (i + 2))), .int (J (sc (i + 3)))]) (st := [.int (J ((sLay x (sc (i + 1)) (sc (i + 2)) (sc (i + 3))).1))]) (c_X8_lay l D ad ((sLay x (sc (i + 1)) (sc (i + 2)) (sc (i + 3))).2) y x (sc (i + 1)) (sc (i + 2)) (sc (i + 3)) (sc_r hX _) (sc_r hX _) (sc_r hX _) hRel) gR_8 rfl mk_L_22 ki_X8_lay kc_X8_lay (by decide +kernel) rfl (by decide) dL_law_280 rfl (Nat.le_of_ble_eq_true rfl) (pH_k (fun v hv => ?_))
  refine g_same 1248 F dL_law_283 rfl ?_
  exact kk _ _ (hv)

theorem lc_2 {Θ : gT} {l : Launch} {D : gD} {ad : gA} {b L : Nat} {sc : Int → Int} {i : Int} {x : gX} {y : gY} (F : gF Θ l D ad cL_law RL 4 20) (hX : gScr Θ b L sc) (hL : L ≤ 3072) (hi : 0 ≤ i ∧ i + 6 ≤ (L : Int)) (hRel : Rel x y) (kk : ∀ (x1 : gX) (y1 : gY), Rel x1 y1 → gW Θ l D ad 4 1248 (lwL ad b i) [] x1 y1) : gW Θ l D ad 4 288 (lwL ad b i) [] x y := by
  refine g_aload_n F dL_law_288 rfl 2 rfl ?_
  refine g_aload_n F dL_law_289 rfl 3 rfl ?_
  refine g_iload_n F dL_law_290 rfl 0 rfl ?_
  refine g_iconst F dL_law_291 (1) (by decide) ?_
  refine g_iadd F dL_law_292 ?_
  refine g_sld F hX (by omega) hL dL_law_293 ?_
  refine g_aload_n F dL_law_294 rfl 3 rfl ?_
  refine g_iload_n F dL_law_295 rfl 0 rfl ?_
  refine g_iconst F dL_law_296 (2) (by decide) ?_
  refine g_iadd F dL_law_297 ?_
  refine g_sld F hX (by omega) hL dL_law_298 ?_
  refine g_callV 2 F (As := [.int (J (sc (i + 1))), .int (J (sc (i + 2)))]) (st := []) (c_X7_at l D ad x y (sc (i + 1)) (sc (i + 2)) (sc_r hX _) (sc_r hX _) hRel.1) gR_7 rfl mk_L_23 ki_X7_at kc_X7_at (by decide +kernel) rfl (by decide) dL_law_299 rfl (Nat.le_of_ble_eq_true rfl) (pI_k ?_)
  refine g_aload_n F dL_law_302 rfl 1 rfl ?_
  refine g_aload_n F dL_law_303 rfl 3 rfl ?_
  refine g_iload_n F dL_law_304 rfl 0 rfl ?_
  refine g_iconst F dL_law_305 (1) (by decide) ?_
  refine g_iadd F dL_law_306 ?_
  refine g_sld F hX (by omega) hL dL_law_307 ?_
  refine g_aload_n F dL_law_308 rfl 3 rfl ?_
  refine g_iload_n F dL_law_309 rfl 0 rfl ?_
  refine g_iconst F dL_law_310 (2) (by decide) ?_
  refine g_iadd F dL_law_311 ?_
  refine g_sld F hX (by omega) hL dL_law_312 ?_
  refine g_callV 2 F (As := [.int (J (sc (i + 1))), .int (J (sc (i + 2)))]) (st := [.int (J ((sAt x (sc (i + 1)) (sc (i + 2))).1))]) (c_X8_at l D ad ((sAt x (sc (i + 1)) (sc (i + 2))).2) y x (sc (i + 1)) (sc (i + 2)) (sc_r hX _) (sc_r hX _) hRel) gR_8 rfl mk_L_26 ki_X8_at kc_X8_at (by decide +kernel) rfl (by decide) dL_law_313 rfl (Nat.le_of_ble_eq_true rfl) (pH_k (fun v hv => ?_))
  refine g_same 1248 F dL_law_316 rfl ?_
  exact kk _ _ (hv)

theorem lc_3 {Θ : gT} {l : Launch} {D : gD} {ad : gA} {b L : Nat} {sc : Int → Int} {i : Int} {x : gX} {y : gY} (F : gF Θ l D ad cL_law RL 4 20) (hX : gScr Θ b L sc) (hL : L ≤ 3072) (hi : 0 ≤ i ∧ i + 6 ≤ (L : Int)) (hRel : Rel x y) (kk : ∀ (x1 : gX) (y1 : gY), Rel x1 y1 → gW Θ l D ad 4 1248 (lwL ad b i) [] x1 y1) : gW Θ l D ad 4 321 (lwL ad b i) [] x y := by
  refine g_aload_n F dL_law_321 rfl 2 rfl ?_
  refine g_aload_n F dL_law_322 rfl 3 rfl ?_
  refine g_iload_n F dL_law_323 rfl 0 rfl ?_
  refine g_iconst F dL_law_324 (1) (by decide) ?_
  refine g_iadd F dL_law_325 ?_
  refine g_sld F hX (by omega) hL dL_law_326 ?_
  refine g_callV 1 F (As := [.int (J (sc (i + 1)))]) (st := []) (c_X7_tear l D ad x y (sc (i + 1)) (sc_r hX _) hRel.1) gR_7 rfl mk_L_27 ki_X7_tear kc_X7_tear (by decide +kernel) rfl (by decide) dL_law_327 rfl (Nat.le_of_ble_eq_true rfl) (pI_k ?_)
  refine g_aload_n F dL_law_330 rfl 1 rfl ?_
  refine g_aload_n F dL_law_331 rfl 3 rfl ?_
  refine g_iload_n F dL_law_332 rfl 0 rfl ?_
  refine g_iconst F dL_law_333 (1) (by decide) ?_
  refine g_iadd F dL_law_334 ?_
  refine g_sld F hX (by omega) hL dL_law_335 ?_
  refine g_callV 1 F (As := [.int (J (sc (i + 1)))]) (st := [.int (J ((sTear x (sc (i + 1))).1))]) (c_X8_tear l D ad ((sTear x (sc (i + 1))).2) y x (sc (i + 1)) (sc_r hX _) hRel) gR_8 rfl mk_L_31 ki_X8_tear kc_X8_tear (by decide +kernel) rfl (by decide) dL_law_336 rfl (Nat.le_of_ble_eq_true rfl) (pH_k (fun v hv => ?_))
  refine g_same 1248 F dL_law_339 rfl ?_
  exact kk _ _ (hv)

theorem lc_4 {Θ : gT} {l : Launch} {D : gD} {ad : gA} {b L : Nat} {sc : Int → Int} {i : Int} {x : gX} {y : gY} (F : gF Θ l D ad cL_law RL 4 20) (hX : gScr Θ b L sc) (hL : L ≤ 3072) (hi : 0 ≤ i ∧ i + 6 ≤ (L : Int)) (hRel : Rel x y) (kk : ∀ (x1 : gX) (y1 : gY), Rel x1 y1 → gW Θ l D ad 4 1248 (lwL ad b i) [] x1 y1) : gW Θ l D ad 4 344 (lwL ad b i) [] x y := by
  refine g_aload_n F dL_law_344 rfl 2 rfl ?_
  refine g_aload_n F dL_law_345 rfl 3 rfl ?_
  refine g_iload_n F dL_law_346 rfl 0 rfl ?_
  refine g_iconst F dL_law_347 (1) (by decide) ?_
  refine g_iadd F dL_law_348 ?_
  refine g_sld F hX (by omega) hL dL_law_349 ?_
  refine g_aload_n F dL_law_350 rfl 3 rfl ?_
  refine g_iload_n F dL_law_351 rfl 0 rfl ?_
  refine g_iconst F dL_law_352 (2) (by decide) ?_
  refine g_iadd F dL_law_353 ?_
  refine g_sld F hX (by omega) hL dL_law_354 ?_
  refine g_aload_n F dL_law_355 rfl 3 rfl ?_
  refine g_iload_n F dL_law_356 rfl 0 rfl ?_
  refine g_iconst F dL_law_357 (3) (by decide) ?_
  refine g_iadd F dL_law_358 ?_
  refine g_sld F hX (by omega) hL dL_law_359 ?_
  refine g_aload_n F dL_law_360 rfl 3 rfl ?_
  refine g_iload_n F dL_law_361 rfl 0 rfl ?_
  refine g_iconst F dL_law_362 (4) (by decide) ?_
  refine g_iadd F dL_law_363 ?_
  refine g_sld F hX (by omega) hL dL_law_364 ?_
  refine g_aload_n F dL_law_365 rfl 3 rfl ?_
  refine g_iload_n F dL_law_366 rfl 0 rfl ?_
  refine g_iconst F dL_law_367 (5) (by decide) ?_
  refine g_iadd F dL_law_368 ?_
  refine g_sld F hX (by omega) hL dL_law_369 ?_
  refine g_callV 5 F (As := [.int (J (sc (i + 1))), .int (J (sc (i + 2))), .int (J (sc (i + 3))), .int (J (sc (i + 4))), .int (J (sc (i + 5)))]) (st := []) (c_X7_copy l D ad x y (sc (i + 1)) (sc (i + 2)) (sc (i + 3)) (sc (i + 4)) (sc (i + 5)) (sc_r hX _) (sc_r hX _) (sc_r hX _) (sc_r hX _) (sc_r hX _) hRel.1) gR_7 rfl mk_L_32 ki_X7_copy kc_X7_copy (by decide +kernel) rfl (by decide) dL_law_370 rfl (Nat.le_of_ble_eq_true rfl) (pI_k ?_)
  refine g_aload_n F dL_law_373 rfl 1 rfl ?_
  refine g_aload_n F dL_law_374 rfl 3 rfl ?_
  refine g_iload_n F dL_law_375 rfl 0 rfl ?_
  refine g_iconst F dL_law_376 (1) (by decide) ?_
  refine g_iadd F dL_law_377 ?_
  refine g_sld F hX (by omega) hL dL_law_378 ?_
  refine g_aload_n F dL_law_379 rfl 3 rfl ?_
  refine g_iload_n F dL_law_380 rfl 0 rfl ?_
  refine g_iconst F dL_law_381 (2) (by decide) ?_
  refine g_iadd F dL_law_382 ?_
  refine g_sld F hX (by omega) hL dL_law_383 ?_
  refine g_aload_n F dL_law_384 rfl 3 rfl ?_
  refine g_iload_n F dL_law_385 rfl 0 rfl ?_
  refine g_iconst F dL_law_386 (3) (by decide) ?_
  refine g_iadd F dL_law_387 ?_
  refine g_sld F hX (by omega) hL dL_law_388 ?_
  refine g_aload_n F dL_law_389 rfl 3 rfl ?_
  refine g_iload_n F dL_law_390 rfl 0 rfl ?_
  refine g_iconst F dL_law_391 (4) (by decide) ?_
  refine g_iadd F dL_law_392 ?_
  refine g_sld F hX (by omega) hL dL_law_393 ?_
  refine g_aload_n F dL_law_394 rfl 3 rfl ?_
  refine g_iload_n F dL_law_395 rfl 0 rfl ?_
  refine g_iconst F dL_law_396 (5) (by decide) ?_
  refine g_iadd F dL_law_397 ?_
  refine g_sld F hX (by omega) hL dL_law_398 ?_
  refine g_callV 5 F (As := [.int (J (sc (i + 1))), .int (J (sc (i + 2))), .int (J (sc (i + 3))), .int (J (sc (i + 4))), .int (J (sc (i + 5)))]) (st := [.int (J ((sCopy x (sc (i + 1)) (sc (i + 2)) (sc (i + 3)) (sc (i + 4)) (sc (i + 5))).1))]) (c_X8_copy l D ad ((sCopy x (sc (i + 1)) (sc (i + 2)) (sc (i + 3)) (sc (i + 4)) (sc (i + 5))).2) y x (sc (i + 1)) (sc (i + 2)) (sc (i + 3)) (sc (i + 4)) (sc (i + 5)) (sc_r hX _) (sc_r hX _) (sc_r hX _) (sc_r hX _) (sc_r hX _) hRel) gR_8 rfl mk_L_36 ki_X8_copy kc_X8_copy (by decide +kernel) rfl (by decide) dL_law_399 rfl (Nat.le_of_ble_eq_true rfl) (pH_k (fun v hv => ?_))
  refine g_same 1248 F dL_law_402 rfl ?_
  exact kk _ _ (hv)

theorem lc_5 {Θ : gT} {l : Launch} {D : gD} {ad : gA} {b L : Nat} {sc : Int → Int} {i : Int} {x : gX} {y : gY} (F : gF Θ l D ad cL_law RL 4 20) (hX : gScr Θ b L sc) (hL : L ≤ 3072) (hi : 0 ≤ i ∧ i + 6 ≤ (L : Int)) (hRel : Rel x y) (kk : ∀ (x1 : gX) (y1 : gY), Rel x1 y1 → gW Θ l D ad 4 1248 (lwL ad b i) [] x1 y1) : gW Θ l D ad 4 407 (lwL ad b i) [] x y := by
  refine g_aload_n F dL_law_407 rfl 2 rfl ?_
  refine g_aload_n F dL_law_408 rfl 3 rfl ?_
  refine g_iload_n F dL_law_409 rfl 0 rfl ?_
  refine g_iconst F dL_law_410 (1) (by decide) ?_
  refine g_iadd F dL_law_411 ?_
  refine g_sld F hX (by omega) hL dL_law_412 ?_
  refine g_callV 1 F (As := [.int (J (sc (i + 1)))]) (st := []) (c_X7_mean l D ad x y (sc (i + 1)) (sc_r hX _) hRel.1) gR_7 rfl mk_L_37 ki_X7_mean kc_X7_mean (by decide +kernel) rfl (by decide) dL_law_413 rfl (Nat.le_of_ble_eq_true rfl) (pI_k ?_)
  refine g_aload_n F dL_law_416 rfl 1 rfl ?_
  refine g_aload_n F dL_law_417 rfl 3 rfl ?_
  refine g_iload_n F dL_law_418 rfl 0 rfl ?_
  refine g_iconst F dL_law_419 (1) (by decide) ?_
  refine g_iadd F dL_law_420 ?_
  refine g_sld F hX (by omega) hL dL_law_421 ?_
  refine g_callV 1 F (As := [.int (J (sc (i + 1)))]) (st := [.int (J ((sMean x (sc (i + 1))).1))]) (c_X8_mean l D ad ((sMean x (sc (i + 1))).2) y x (sc (i + 1)) (sc_r hX _) hRel) gR_8 rfl mk_L_40 ki_X8_mean kc_X8_mean (by decide +kernel) rfl (by decide) dL_law_422 rfl (Nat.le_of_ble_eq_true rfl) (pH_k (fun v hv => ?_))
  refine g_same 1248 F dL_law_425 rfl ?_
  exact kk _ _ (hv)

theorem lc_6 {Θ : gT} {l : Launch} {D : gD} {ad : gA} {b L : Nat} {sc : Int → Int} {i : Int} {x : gX} {y : gY} (F : gF Θ l D ad cL_law RL 4 20) (hX : gScr Θ b L sc) (hL : L ≤ 3072) (hi : 0 ≤ i ∧ i + 6 ≤ (L : Int)) (hRel : Rel x y) (kk : ∀ (x1 : gX) (y1 : gY), Rel x1 y1 → gW Θ l D ad 4 1248 (lwL ad b i) [] x1 y1) : gW Θ l D ad 4 430 (lwL ad b i) [] x y := by
  refine g_aload_n F dL_law_430 rfl 2 rfl ?_
  refine g_aload_n F dL_law_431 rfl 3 rfl ?_
  refine g_iload_n F dL_law_432 rfl 0 rfl ?_
  refine g_iconst F dL_law_433 (1) (by decide) ?_
  refine g_iadd F dL_law_434 ?_
  refine g_sld F hX (by omega) hL dL_law_435 ?_
  refine g_aload_n F dL_law_436 rfl 3 rfl ?_
  refine g_iload_n F dL_law_437 rfl 0 rfl ?_
  refine g_iconst F dL_law_438 (2) (by decide) ?_
  refine g_iadd F dL_law_439 ?_
  refine g_sld F hX (by omega) hL dL_law_440 ?_
  refine g_callV 2 F (As := [.int (J (sc (i + 1))), .int (J (sc (i + 2)))]) (st := []) (c_X7_text l D ad x y (sc (i + 1)) (sc (i + 2)) (sc_r hX _) (sc_r hX _) hRel.1) gR_7 rfl mk_L_41 ki_X7_text kc_X7_text (by decide +kernel) rfl (by decide) dL_law_441 rfl (Nat.le_of_ble_eq_true rfl) (pI_k ?_)
  refine g_aload_n F dL_law_444 rfl 1 rfl ?_
  refine g_aload_n F dL_law_445 rfl 3 rfl ?_
  refine g_iload_n F dL_law_446 rfl 0 rfl ?_
  refine g_iconst F dL_law_447 (1) (by decide) ?_
  refine g_iadd F dL_law_448 ?_
  refine g_sld F hX (by omega) hL dL_law_449 ?_
  refine g_aload_n F dL_law_450 rfl 3 rfl ?_
  refine g_iload_n F dL_law_451 rfl 0 rfl ?_
  refine g_iconst F dL_law_452 (2) (by decide) ?_
  refine g_iadd F dL_law_453 ?_
  refine g_sld F hX (by omega) hL dL_law_454 ?_
  refine g_callV 2 F (As := [.int (J (sc (i + 1))), .int (J (sc (i + 2)))]) (st := [.int (J ((lRf x 4 (6 + (sc (i + 1))) 60 (sc (i + 1)) (sc (i + 2)) 32).1))]) (c_X8_text l D ad ((lRf x 4 (6 + (sc (i + 1))) 60 (sc (i + 1)) (sc (i + 2)) 32).2) y x (sc (i + 1)) (sc (i + 2)) (sc_r hX _) (sc_r hX _) hRel) gR_8 rfl mk_L_44 ki_X8_text kc_X8_text (by decide +kernel) rfl (by decide) dL_law_455 rfl (Nat.le_of_ble_eq_true rfl) (pH_k (fun v hv => ?_))
  refine g_same 1248 F dL_law_458 rfl ?_
  exact kk _ _ (hv)

theorem lc_7 {Θ : gT} {l : Launch} {D : gD} {ad : gA} {b L : Nat} {sc : Int → Int} {i : Int} {x : gX} {y : gY} (F : gF Θ l D ad cL_law RL 4 20) (hX : gScr Θ b L sc) (hL : L ≤ 3072) (hi : 0 ≤ i ∧ i + 6 ≤ (L : Int)) (hRel : Rel x y) (kk : ∀ (x1 : gX) (y1 : gY), Rel x1 y1 → gW Θ l D ad 4 1248 (lwL ad b i) [] x1 y1) : gW Θ l D ad 4 463 (lwL ad b i) [] x y := by
  refine g_aload_n F dL_law_463 rfl 2 rfl ?_
  refine g_aload_n F dL_law_464 rfl 3 rfl ?_
  refine g_iload_n F dL_law_465 rfl 0 rfl ?_
  refine g_iconst F dL_law_466 (1) (by decide) ?_
  refine g_iadd F dL_law_467 ?_
  refine g_sld F hX (by omega) hL dL_law_468 ?_
  refine g_aload_n F dL_law_469 rfl 3 rfl ?_
  refine g_iload_n F dL_law_470 rfl 0 rfl ?_
  refine g_iconst F dL_law_471 (2) (by decide) ?_
  refine g_iadd F dL_law_472 ?_
  refine g_sld F hX (by omega) hL dL_law_473 ?_
  refine g_aload_n F dL_law_474 rfl 3 rfl ?_
  refine g_iload_n F dL_law_475 rfl 0 rfl ?_
  refine g_iconst F dL_law_476 (3) (by decide) ?_
  refine g_iadd F dL_law_477 ?_
  refine g_sld F hX (by omega) hL dL_law_478 ?_
  refine g_callV 3 F (As := [.int (J (sc (i + 1))), .int (J (sc (i + 2))), .int (J (sc (i + 3)))]) (st := []) (c_X7_put l D ad x y (sc (i + 1)) (sc (i + 2)) (sc (i + 3)) (sc_r hX _) (sc_r hX _) (sc_r hX _) hRel.1) gR_7 rfl mk_L_45 ki_X7_put kc_X7_put (by decide +kernel) rfl (by decide) dL_law_479 rfl (Nat.le_of_ble_eq_true rfl) (pI_k ?_)
  refine g_aload_n F dL_law_482 rfl 1 rfl ?_
  refine g_aload_n F dL_law_483 rfl 3 rfl ?_
  refine g_iload_n F dL_law_484 rfl 0 rfl ?_
  refine g_iconst F dL_law_485 (1) (by decide) ?_
  refine g_iadd F dL_law_486 ?_
  refine g_sld F hX (by omega) hL dL_law_487 ?_
  refine g_aload_n F dL_law_488 rfl 3 rfl ?_
  refine g_iload_n F dL_law_489 rfl 0 rfl ?_
  refine g_iconst F dL_law_490 (2) (by decide) ?_
  refine g_iadd F dL_law_491 ?_
  refine g_sld F hX (by omega) hL dL_law_492 ?_
  refine g_aload_n F dL_law_493 rfl 3 rfl ?_
  refine g_iload_n F dL_law_494 rfl 0 rfl ?_
  refine g_iconst F dL_law_495 (3) (by decide) ?_
  refine g_iadd F dL_law_496 ?_
  refine g_sld F hX (by omega) hL dL_law_497 ?_
  refine g_callV 3 F (As := [.int (J (sc (i + 1))), .int (J (sc (i + 2))), .int (J (sc (i + 3)))]) (st := [.int (J ((sPut x (sc (i + 1)) (sc (i + 2)) (sc (i + 3))).1))]) (c_X8_put l D ad ((sPut x (sc (i + 1)) (sc (i + 2)) (sc (i + 3))).2) y x (sc (i + 1)) (sc (i + 2)) (sc (i + 3)) (sc_r hX _) (sc_r hX _) (sc_r hX _) hRel) gR_8 rfl mk_L_48 ki_X8_put kc_X8_put (by decide +kernel) rfl (by decide) dL_law_498 rfl (Nat.le_of_ble_eq_true rfl) (pH_k (fun v hv => ?_))
  refine g_same 1248 F dL_law_501 rfl ?_
  exact kk _ _ (hv)

theorem lc_8 {Θ : gT} {l : Launch} {D : gD} {ad : gA} {b L : Nat} {sc : Int → Int} {i : Int} {x : gX} {y : gY} (F : gF Θ l D ad cL_law RL 4 20) (hX : gScr Θ b L sc) (hL : L ≤ 3072) (hi : 0 ≤ i ∧ i + 6 ≤ (L : Int)) (hRel : Rel x y) (kk : ∀ (x1 : gX) (y1 : gY), Rel x1 y1 → gW Θ l D ad 4 1248 (lwL ad b i) [] x1 y1) : gW Θ l D ad 4 506 (lwL ad b i) [] x y := by
  refine g_aload_n F dL_law_506 rfl 2 rfl ?_
  refine g_aload_n F dL_law_507 rfl 3 rfl ?_
  refine g_iload_n F dL_law_508 rfl 0 rfl ?_
  refine g_iconst F dL_law_509 (1) (by decide) ?_
  refine g_iadd F dL_law_510 ?_
  refine g_sld F hX (by omega) hL dL_law_511 ?_
  refine g_callV 1 F (As := [.int (J (sc (i + 1)))]) (st := []) (c_X7_fault l D ad x y (sc (i + 1)) (sc_r hX _) hRel.1) gR_7 rfl mk_L_49 ki_X7_fault kc_X7_fault (by decide +kernel) rfl (by decide) dL_law_512 rfl (Nat.le_of_ble_eq_true rfl) (pG_k (fun u hG => ?_))
  refine g_aload_n F dL_law_515 rfl 1 rfl ?_
  refine g_aload_n F dL_law_516 rfl 3 rfl ?_
  refine g_iload_n F dL_law_517 rfl 0 rfl ?_
  refine g_iconst F dL_law_518 (1) (by decide) ?_
  refine g_iadd F dL_law_519 ?_
  refine g_sld F hX (by omega) hL dL_law_520 ?_
  refine g_callV 1 F (As := [.int (J (sc (i + 1)))]) (st := [.int (J ((sFault x (sc (i + 1))).1))]) (c_X8_fault l D ad u y x (sc (i + 1)) (sc_r hX _) hRel) gR_8 rfl mk_L_52 ki_X8_fault kc_X8_fault (by decide +kernel) rfl (by decide) dL_law_521 rfl (Nat.le_of_ble_eq_true rfl) (pH_k (fun v hv => ?_))
  refine g_same 1248 F dL_law_524 rfl ?_
  exact kk _ _ (Rel_xG hv hG)

theorem lc_9 {Θ : gT} {l : Launch} {D : gD} {ad : gA} {b L : Nat} {sc : Int → Int} {i : Int} {x : gX} {y : gY} (F : gF Θ l D ad cL_law RL 4 20) (hX : gScr Θ b L sc) (hL : L ≤ 3072) (hi : 0 ≤ i ∧ i + 6 ≤ (L : Int)) (hRel : Rel x y) (kk : ∀ (x1 : gX) (y1 : gY), Rel x1 y1 → gW Θ l D ad 4 1248 (lwL ad b i) [] x1 y1) : gW Θ l D ad 4 529 (lwL ad b i) [] x y := by
  refine g_aload_n F dL_law_529 rfl 2 rfl ?_
  refine g_aload_n F dL_law_530 rfl 3 rfl ?_
  refine g_iload_n F dL_law_531 rfl 0 rfl ?_
  refine g_iconst F dL_law_532 (1) (by decide) ?_
  refine g_iadd F dL_law_533 ?_
  refine g_sld F hX (by omega) hL dL_law_534 ?_
  refine g_callV 1 F (As := [.int (J (sc (i + 1)))]) (st := []) (c_X7_court l D ad x y (sc (i + 1)) (sc_r hX _) hRel.1) gR_7 rfl mk_L_53 ki_X7_court kc_X7_court (by decide +kernel) rfl (by decide) dL_law_535 rfl (Nat.le_of_ble_eq_true rfl) (pG_k (fun u hG => ?_))
  refine g_aload_n F dL_law_538 rfl 1 rfl ?_
  refine g_aload_n F dL_law_539 rfl 3 rfl ?_
  refine g_iload_n F dL_law_540 rfl 0 rfl ?_
  refine g_iconst F dL_law_541 (1) (by decide) ?_
  refine g_iadd F dL_law_542 ?_
  refine g_sld F hX (by omega) hL dL_law_543 ?_
  refine g_callV 1 F (As := [.int (J (sc (i + 1)))]) (st := [.int (J ((sCourt x (sc (i + 1))).1))]) (c_X8_court l D ad u y x (sc (i + 1)) (sc_r hX _) hRel) gR_8 rfl mk_L_56 ki_X8_court kc_X8_court (by decide +kernel) rfl (by decide) dL_law_544 rfl (Nat.le_of_ble_eq_true rfl) (pH_k (fun v hv => ?_))
  refine g_same 1248 F dL_law_547 rfl ?_
  exact kk _ _ (Rel_xG hv hG)

theorem lc_10 {Θ : gT} {l : Launch} {D : gD} {ad : gA} {b L : Nat} {sc : Int → Int} {i : Int} {x : gX} {y : gY} (F : gF Θ l D ad cL_law RL 4 20) (hX : gScr Θ b L sc) (hL : L ≤ 3072) (hi : 0 ≤ i ∧ i + 6 ≤ (L : Int)) (hRel : Rel x y) (kk : ∀ (x1 : gX) (y1 : gY), Rel x1 y1 → gW Θ l D ad 4 1248 (lwL ad b i) [] x1 y1) : gW Θ l D ad 4 552 (lwL ad b i) [] x y := by
  refine g_aload_n F dL_law_552 rfl 2 rfl ?_
  refine g_aload_n F dL_law_553 rfl 3 rfl ?_
  refine g_iload_n F dL_law_554 rfl 0 rfl ?_
  refine g_iconst F dL_law_555 (1) (by decide) ?_
  refine g_iadd F dL_law_556 ?_
  refine g_sld F hX (by omega) hL dL_law_557 ?_
  refine g_aload_n F dL_law_558 rfl 3 rfl ?_
  refine g_iload_n F dL_law_559 rfl 0 rfl ?_
  refine g_iconst F dL_law_560 (2) (by decide) ?_
  refine g_iadd F dL_law_561 ?_
  refine g_sld F hX (by omega) hL dL_law_562 ?_
  refine g_callV 2 F (As := [.int (J (sc (i + 1))), .int (J (sc (i + 2)))]) (st := []) (c_X7_man l D ad x y (sc (i + 1)) (sc (i + 2)) (sc_r hX _) (sc_r hX _) hRel.1) gR_7 rfl mk_L_57 ki_X7_man kc_X7_man (by decide +kernel) rfl (by decide) dL_law_563 rfl (Nat.le_of_ble_eq_true rfl) (pI_k ?_)
  refine g_aload_n F dL_law_566 rfl 1 rfl ?_
  refine g_aload_n F dL_law_567 rfl 3 rfl ?_
  refine g_iload_n F dL_law_568 rfl 0 rfl ?_
  refine g_iconst F dL_law_569 (1) (by decide) ?_
  refine g_iadd F dL_law_570 ?_
  refine g_sld F hX (by omega) hL dL_law_571 ?_
  refine g_aload_n F dL_law_572 rfl 3 rfl ?_
  refine g_iload_n F dL_law_573 rfl 0 rfl ?_
  refine g_iconst F dL_law_574 (2) (by decide) ?_
  refine g_iadd F dL_law_575 ?_
  refine g_sld F hX (by omega) hL dL_law_576 ?_
  refine g_callV 2 F (As := [.int (J (sc (i + 1))), .int (J (sc (i + 2)))]) (st := [.int (J ((sMan x (sc (i + 1)) (sc (i + 2))).1))]) (c_X8_man l D ad ((sMan x (sc (i + 1)) (sc (i + 2))).2) y x (sc (i + 1)) (sc (i + 2)) (sc_r hX _) (sc_r hX _) hRel) gR_8 rfl mk_L_60 ki_X8_man kc_X8_man (by decide +kernel) rfl (by decide) dL_law_577 rfl (Nat.le_of_ble_eq_true rfl) (pH_k (fun v hv => ?_))
  refine g_same 1248 F dL_law_580 rfl ?_
  exact kk _ _ (hv)

theorem lc_11 {Θ : gT} {l : Launch} {D : gD} {ad : gA} {b L : Nat} {sc : Int → Int} {i : Int} {x : gX} {y : gY} (F : gF Θ l D ad cL_law RL 4 20) (hX : gScr Θ b L sc) (hL : L ≤ 3072) (hi : 0 ≤ i ∧ i + 6 ≤ (L : Int)) (hRel : Rel x y) (kk : ∀ (x1 : gX) (y1 : gY), Rel x1 y1 → gW Θ l D ad 4 1248 (lwL ad b i) [] x1 y1) : gW Θ l D ad 4 585 (lwL ad b i) [] x y := by
  refine g_aload_n F dL_law_585 rfl 2 rfl ?_
  refine g_aload_n F dL_law_586 rfl 3 rfl ?_
  refine g_iload_n F dL_law_587 rfl 0 rfl ?_
  refine g_iconst F dL_law_588 (1) (by decide) ?_
  refine g_iadd F dL_law_589 ?_
  refine g_sld F hX (by omega) hL dL_law_590 ?_
  refine g_aload_n F dL_law_591 rfl 3 rfl ?_
  refine g_iload_n F dL_law_592 rfl 0 rfl ?_
  refine g_iconst F dL_law_593 (2) (by decide) ?_
  refine g_iadd F dL_law_594 ?_
  refine g_sld F hX (by omega) hL dL_law_595 ?_
  refine g_callV 2 F (As := [.int (J (sc (i + 1))), .int (J (sc (i + 2)))]) (st := []) (c_X7_mark l D ad x y (sc (i + 1)) (sc (i + 2)) (sc_r hX _) (sc_r hX _) hRel.1) gR_7 rfl mk_L_61 ki_X7_mark kc_X7_mark (by decide +kernel) rfl (by decide) dL_law_596 rfl (Nat.le_of_ble_eq_true rfl) (pG_k (fun u hG => ?_))
  refine g_aload_n F dL_law_599 rfl 1 rfl ?_
  refine g_aload_n F dL_law_600 rfl 3 rfl ?_
  refine g_iload_n F dL_law_601 rfl 0 rfl ?_
  refine g_iconst F dL_law_602 (1) (by decide) ?_
  refine g_iadd F dL_law_603 ?_
  refine g_sld F hX (by omega) hL dL_law_604 ?_
  refine g_aload_n F dL_law_605 rfl 3 rfl ?_
  refine g_iload_n F dL_law_606 rfl 0 rfl ?_
  refine g_iconst F dL_law_607 (2) (by decide) ?_
  refine g_iadd F dL_law_608 ?_
  refine g_sld F hX (by omega) hL dL_law_609 ?_
  refine g_callV 2 F (As := [.int (J (sc (i + 1))), .int (J (sc (i + 2)))]) (st := [.int (J ((sMark x (sc (i + 1)) (sc (i + 2))).1))]) (c_X8_mark l D ad u y x (sc (i + 1)) (sc (i + 2)) (sc_r hX _) (sc_r hX _) hRel) gR_8 rfl mk_L_64 ki_X8_mark kc_X8_mark (by decide +kernel) rfl (by decide) dL_law_610 rfl (Nat.le_of_ble_eq_true rfl) (pH_k (fun v hv => ?_))
  refine g_same 1248 F dL_law_613 rfl ?_
  exact kk _ _ (Rel_xG hv hG)

theorem lc_12 {Θ : gT} {l : Launch} {D : gD} {ad : gA} {b L : Nat} {sc : Int → Int} {i : Int} {x : gX} {y : gY} (F : gF Θ l D ad cL_law RL 4 20) (hX : gScr Θ b L sc) (hL : L ≤ 3072) (hi : 0 ≤ i ∧ i + 6 ≤ (L : Int)) (hRel : Rel x y) (kk : ∀ (x1 : gX) (y1 : gY), Rel x1 y1 → gW Θ l D ad 4 1248 (lwL ad b i) [] x1 y1) : gW Θ l D ad 4 618 (lwL ad b i) [] x y := by
  refine g_aload_n F dL_law_618 rfl 2 rfl ?_
  refine g_aload_n F dL_law_619 rfl 3 rfl ?_
  refine g_iload_n F dL_law_620 rfl 0 rfl ?_
  refine g_iconst F dL_law_621 (1) (by decide) ?_
  refine g_iadd F dL_law_622 ?_
  refine g_sld F hX (by omega) hL dL_law_623 ?_
  refine g_callV 1 F (As := [.int (J (sc (i + 1)))]) (st := []) (c_X7_heat l D ad x y (sc (i + 1)) (sc_r hX _) hRel.1) gR_7 rfl mk_L_65 ki_X7_heat kc_X7_heat (by decide +kernel) rfl (by decide) dL_law_624 rfl (Nat.le_of_ble_eq_true rfl) (pI_k ?_)
  refine g_aload_n F dL_law_627 rfl 1 rfl ?_
  refine g_aload_n F dL_law_628 rfl 3 rfl ?_
  refine g_iload_n F dL_law_629 rfl 0 rfl ?_
  refine g_iconst F dL_law_630 (1) (by decide) ?_
  refine g_iadd F dL_law_631 ?_
  refine g_sld F hX (by omega) hL dL_law_632 ?_
  refine g_callV 1 F (As := [.int (J (sc (i + 1)))]) (st := [.int (J ((sHeat x (sc (i + 1))).1))]) (c_X8_heat l D ad ((sHeat x (sc (i + 1))).2) y x (sc (i + 1)) (sc_r hX _) hRel) gR_8 rfl mk_L_68 ki_X8_heat kc_X8_heat (by decide +kernel) rfl (by decide) dL_law_633 rfl (Nat.le_of_ble_eq_true rfl) (pH_k (fun v hv => ?_))
  refine g_same 1248 F dL_law_636 rfl ?_
  exact kk _ _ (hv)

theorem lc_13 {Θ : gT} {l : Launch} {D : gD} {ad : gA} {b L : Nat} {sc : Int → Int} {i : Int} {x : gX} {y : gY} (F : gF Θ l D ad cL_law RL 4 20) (hX : gScr Θ b L sc) (hL : L ≤ 3072) (hi : 0 ≤ i ∧ i + 6 ≤ (L : Int)) (hRel : Rel x y) (kk : ∀ (x1 : gX) (y1 : gY), Rel x1 y1 → gW Θ l D ad 4 1248 (lwL ad b i) [] x1 y1) : gW Θ l D ad 4 641 (lwL ad b i) [] x y := by
  refine g_aload_n F dL_law_641 rfl 2 rfl ?_
  refine g_aload_n F dL_law_642 rfl 3 rfl ?_
  refine g_iload_n F dL_law_643 rfl 0 rfl ?_
  refine g_iconst F dL_law_644 (1) (by decide) ?_
  refine g_iadd F dL_law_645 ?_
  refine g_sld F hX (by omega) hL dL_law_646 ?_
  refine g_callV 1 F (As := [.int (J (sc (i + 1)))]) (st := []) (c_X7_salve l D ad x y (sc (i + 1)) (sc_r hX _) hRel.1) gR_7 rfl mk_L_69 ki_X7_salve kc_X7_salve (by decide +kernel) rfl (by decide) dL_law_647 rfl (Nat.le_of_ble_eq_true rfl) (pI_k ?_)
  refine g_aload_n F dL_law_650 rfl 1 rfl ?_
  refine g_aload_n F dL_law_651 rfl 3 rfl ?_
  refine g_iload_n F dL_law_652 rfl 0 rfl ?_
  refine g_iconst F dL_law_653 (1) (by decide) ?_
  refine g_iadd F dL_law_654 ?_
  refine g_sld F hX (by omega) hL dL_law_655 ?_
  refine g_callV 1 F (As := [.int (J (sc (i + 1)))]) (st := [.int (J ((sSalve x (sc (i + 1))).1))]) (c_X8_salve l D ad ((sSalve x (sc (i + 1))).2) y x (sc (i + 1)) (sc_r hX _) hRel) gR_8 rfl mk_L_72 ki_X8_salve kc_X8_salve (by decide +kernel) rfl (by decide) dL_law_656 rfl (Nat.le_of_ble_eq_true rfl) (pH_k (fun v hv => ?_))
  refine g_same 1248 F dL_law_659 rfl ?_
  exact kk _ _ (hv)

theorem lc_14 {Θ : gT} {l : Launch} {D : gD} {ad : gA} {b L : Nat} {sc : Int → Int} {i : Int} {x : gX} {y : gY} (F : gF Θ l D ad cL_law RL 4 20) (hX : gScr Θ b L sc) (hL : L ≤ 3072) (hi : 0 ≤ i ∧ i + 6 ≤ (L : Int)) (hRel : Rel x y) (kk : ∀ (x1 : gX) (y1 : gY), Rel x1 y1 → gW Θ l D ad 4 1248 (lwL ad b i) [] x1 y1) : gW Θ l D ad 4 664 (lwL ad b i) [] x y := by
  refine g_aload_n F dL_law_664 rfl 2 rfl ?_
  refine g_aload_n F dL_law_665 rfl 3 rfl ?_
  refine g_iload_n F dL_law_666 rfl 0 rfl ?_
  refine g_iconst F dL_law_667 (1) (by decide) ?_
  refine g_iadd F dL_law_668 ?_
  refine g_sld F hX (by omega) hL dL_law_669 ?_
  refine g_callV 1 F (As := [.int (J (sc (i + 1)))]) (st := []) (c_X7_trial l D ad x y (sc (i + 1)) (sc_r hX _) hRel.1) gR_7 rfl mk_L_73 ki_X7_trial kc_X7_trial (by decide +kernel) rfl (by decide) dL_law_670 rfl (Nat.le_of_ble_eq_true rfl) (pI_k ?_)
  refine g_aload_n F dL_law_673 rfl 1 rfl ?_
  refine g_aload_n F dL_law_674 rfl 3 rfl ?_
  refine g_iload_n F dL_law_675 rfl 0 rfl ?_
  refine g_iconst F dL_law_676 (1) (by decide) ?_
  refine g_iadd F dL_law_677 ?_
  refine g_sld F hX (by omega) hL dL_law_678 ?_
  refine g_callV 1 F (As := [.int (J (sc (i + 1)))]) (st := [.int (J ((sTrial x (sc (i + 1))).1))]) (c_X8_trial l D ad ((sTrial x (sc (i + 1))).2) y x (sc (i + 1)) (sc_r hX _) hRel) gR_8 rfl mk_L_76 ki_X8_trial kc_X8_trial (by decide +kernel) rfl (by decide) dL_law_679 rfl (Nat.le_of_ble_eq_true rfl) (pH_k (fun v hv => ?_))
  refine g_same 1248 F dL_law_682 rfl ?_
  exact kk _ _ (hv)

theorem lc_15 {Θ : gT} {l : Launch} {D : gD} {ad : gA} {b L : Nat} {sc : Int → Int} {i : Int} {x : gX} {y : gY} (F : gF Θ l D ad cL_law RL 4 20) (hX : gScr Θ b L sc) (hL : L ≤ 3072) (hi : 0 ≤ i ∧ i + 6 ≤ (L : Int)) (hRel : Rel x y) (kk : ∀ (x1 : gX) (y1 : gY), Rel x1 y1 → gW Θ l D ad 4 1248 (lwL ad b i) [] x1 y1) : gW Θ l D ad 4 687 (lwL ad b i) [] x y := by
  refine g_aload_n F dL_law_687 rfl 2 rfl ?_
  refine g_aload_n F dL_law_688 rfl 3 rfl ?_
  refine g_iload_n F dL_law_689 rfl 0 rfl ?_
  refine g_iconst F dL_law_690 (1) (by decide) ?_
  refine g_iadd F dL_law_691 ?_
  refine g_sld F hX (by omega) hL dL_law_692 ?_
  refine g_callV 1 F (As := [.int (J (sc (i + 1)))]) (st := []) (c_X7_undo l D ad x y (sc (i + 1)) (sc_r hX _) hRel.1) gR_7 rfl mk_L_77 ki_X7_undo kc_X7_undo (by decide +kernel) rfl (by decide) dL_law_693 rfl (Nat.le_of_ble_eq_true rfl) (pI_k ?_)
  refine g_aload_n F dL_law_696 rfl 1 rfl ?_
  refine g_aload_n F dL_law_697 rfl 3 rfl ?_
  refine g_iload_n F dL_law_698 rfl 0 rfl ?_
  refine g_iconst F dL_law_699 (1) (by decide) ?_
  refine g_iadd F dL_law_700 ?_
  refine g_sld F hX (by omega) hL dL_law_701 ?_
  refine g_callV 1 F (As := [.int (J (sc (i + 1)))]) (st := [.int (J ((sUndo x (sc (i + 1))).1))]) (c_X8_undo l D ad ((sUndo x (sc (i + 1))).2) y x (sc (i + 1)) (sc_r hX _) hRel) gR_8 rfl mk_L_80 ki_X8_undo kc_X8_undo (by decide +kernel) rfl (by decide) dL_law_702 rfl (Nat.le_of_ble_eq_true rfl) (pH_k (fun v hv => ?_))
  refine g_same 1248 F dL_law_705 rfl ?_
  exact kk _ _ (hv)

theorem lc_16 {Θ : gT} {l : Launch} {D : gD} {ad : gA} {b L : Nat} {sc : Int → Int} {i : Int} {x : gX} {y : gY} (F : gF Θ l D ad cL_law RL 4 20) (hX : gScr Θ b L sc) (hL : L ≤ 3072) (hi : 0 ≤ i ∧ i + 6 ≤ (L : Int)) (hRel : Rel x y) (kk : ∀ (x1 : gX) (y1 : gY), Rel x1 y1 → gW Θ l D ad 4 1248 (lwL ad b i) [] x1 y1) : gW Θ l D ad 4 710 (lwL ad b i) [] x y := by
  refine g_aload_n F dL_law_710 rfl 2 rfl ?_
  refine g_aload_n F dL_law_711 rfl 3 rfl ?_
  refine g_iload_n F dL_law_712 rfl 0 rfl ?_
  refine g_iconst F dL_law_713 (1) (by decide) ?_
  refine g_iadd F dL_law_714 ?_
  refine g_sld F hX (by omega) hL dL_law_715 ?_
  refine g_callV 1 F (As := [.int (J (sc (i + 1)))]) (st := []) (c_X7_keep l D ad x y (sc (i + 1)) (sc_r hX _) hRel.1) gR_7 rfl mk_L_81 ki_X7_keep kc_X7_keep (by decide +kernel) rfl (by decide) dL_law_716 rfl (Nat.le_of_ble_eq_true rfl) (pI_k ?_)
  refine g_aload_n F dL_law_719 rfl 1 rfl ?_
  refine g_aload_n F dL_law_720 rfl 3 rfl ?_
  refine g_iload_n F dL_law_721 rfl 0 rfl ?_
  refine g_iconst F dL_law_722 (1) (by decide) ?_
  refine g_iadd F dL_law_723 ?_
  refine g_sld F hX (by omega) hL dL_law_724 ?_
  refine g_callV 1 F (As := [.int (J (sc (i + 1)))]) (st := [.int (J ((sKeep x (sc (i + 1))).1))]) (c_X8_keep l D ad ((sKeep x (sc (i + 1))).2) y x (sc (i + 1)) (sc_r hX _) hRel) gR_8 rfl mk_L_84 ki_X8_keep kc_X8_keep (by decide +kernel) rfl (by decide) dL_law_725 rfl (Nat.le_of_ble_eq_true rfl) (pH_k (fun v hv => ?_))
  refine g_same 1248 F dL_law_728 rfl ?_
  exact kk _ _ (hv)

theorem lc_17 {Θ : gT} {l : Launch} {D : gD} {ad : gA} {b L : Nat} {sc : Int → Int} {i : Int} {x : gX} {y : gY} (F : gF Θ l D ad cL_law RL 4 20) (hX : gScr Θ b L sc) (hL : L ≤ 3072) (hi : 0 ≤ i ∧ i + 6 ≤ (L : Int)) (hRel : Rel x y) (kk : ∀ (x1 : gX) (y1 : gY), Rel x1 y1 → gW Θ l D ad 4 1248 (lwL ad b i) [] x1 y1) : gW Θ l D ad 4 733 (lwL ad b i) [] x y := by
  refine g_aload_n F dL_law_733 rfl 2 rfl ?_
  refine g_aload_n F dL_law_734 rfl 3 rfl ?_
  refine g_iload_n F dL_law_735 rfl 0 rfl ?_
  refine g_iconst F dL_law_736 (1) (by decide) ?_
  refine g_iadd F dL_law_737 ?_
  refine g_sld F hX (by omega) hL dL_law_738 ?_
  refine g_callV 1 F (As := [.int (J (sc (i + 1)))]) (st := []) (c_X7_on l D ad x y (sc (i + 1)) (sc_r hX _) hRel.1) gR_7 rfl mk_L_85 ki_X7_on kc_X7_on (by decide +kernel) rfl (by decide) dL_law_739 rfl (Nat.le_of_ble_eq_true rfl) (pI_k ?_)
  refine g_aload_n F dL_law_742 rfl 1 rfl ?_
  refine g_aload_n F dL_law_743 rfl 3 rfl ?_
  refine g_iload_n F dL_law_744 rfl 0 rfl ?_
  refine g_iconst F dL_law_745 (1) (by decide) ?_
  refine g_iadd F dL_law_746 ?_
  refine g_sld F hX (by omega) hL dL_law_747 ?_
  refine g_callV 1 F (As := [.int (J (sc (i + 1)))]) (st := [.int (J ((sOn x (sc (i + 1))).1))]) (c_X8_on l D ad ((sOn x (sc (i + 1))).2) y x (sc (i + 1)) (sc_r hX _) hRel) gR_8 rfl mk_L_88 ki_X8_on kc_X8_on (by decide +kernel) rfl (by decide) dL_law_748 rfl (Nat.le_of_ble_eq_true rfl) (pH_k (fun v hv => ?_))
  refine g_same 1248 F dL_law_751 rfl ?_
  exact kk _ _ (hv)

theorem lc_18 {Θ : gT} {l : Launch} {D : gD} {ad : gA} {b L : Nat} {sc : Int → Int} {i : Int} {x : gX} {y : gY} (F : gF Θ l D ad cL_law RL 4 20) (hX : gScr Θ b L sc) (hL : L ≤ 3072) (hi : 0 ≤ i ∧ i + 6 ≤ (L : Int)) (hRel : Rel x y) (kk : ∀ (x1 : gX) (y1 : gY), Rel x1 y1 → gW Θ l D ad 4 1248 (lwL ad b i) [] x1 y1) : gW Θ l D ad 4 756 (lwL ad b i) [] x y := by
  refine g_aload_n F dL_law_756 rfl 2 rfl ?_
  refine g_callV 0 F (As := []) (st := []) (c_X7_comes l D ad x y  hRel.1) gR_7 rfl mk_L_89 ki_X7_comes kc_X7_comes (by decide +kernel) rfl (by decide) dL_law_757 rfl (Nat.le_of_ble_eq_true rfl) (pI_k ?_)
  refine g_aload_n F dL_law_760 rfl 1 rfl ?_
  refine g_callV 0 F (As := []) (st := [.int (J ((sComesQ x).1))]) (c_X8_comes l D ad ((sComesQ x).2) y x hRel) gR_8 rfl mk_L_93 ki_X8_comes kc_X8_comes (by decide +kernel) rfl (by decide) dL_law_761 rfl (Nat.le_of_ble_eq_true rfl) (pH_k (fun v hv => ?_))
  refine g_same 1248 F dL_law_764 rfl ?_
  exact kk _ _ (hv)

theorem lc_19 {Θ : gT} {l : Launch} {D : gD} {ad : gA} {b L : Nat} {sc : Int → Int} {i : Int} {x : gX} {y : gY} (F : gF Θ l D ad cL_law RL 4 20) (hX : gScr Θ b L sc) (hL : L ≤ 3072) (hi : 0 ≤ i ∧ i + 6 ≤ (L : Int)) (hRel : Rel x y) (kk : ∀ (x1 : gX) (y1 : gY), Rel x1 y1 → gW Θ l D ad 4 1248 (lwL ad b i) [] x1 y1) : gW Θ l D ad 4 769 (lwL ad b i) [] x y := by
  refine g_aload_n F dL_law_769 rfl 2 rfl ?_
  refine g_aload_n F dL_law_770 rfl 3 rfl ?_
  refine g_iload_n F dL_law_771 rfl 0 rfl ?_
  refine g_iconst F dL_law_772 (1) (by decide) ?_
  refine g_iadd F dL_law_773 ?_
  refine g_sld F hX (by omega) hL dL_law_774 ?_
  refine g_callV 1 F (As := [.int (J (sc (i + 1)))]) (st := []) (c_X7_wrong l D ad x y (sc (i + 1)) (sc_r hX _) hRel.1) gR_7 rfl mk_L_94 ki_X7_wrong kc_X7_wrong (by decide +kernel) rfl (by decide) dL_law_775 rfl (Nat.le_of_ble_eq_true rfl) (pI_k ?_)
  refine g_aload_n F dL_law_778 rfl 1 rfl ?_
  refine g_aload_n F dL_law_779 rfl 3 rfl ?_
  refine g_iload_n F dL_law_780 rfl 0 rfl ?_
  refine g_iconst F dL_law_781 (1) (by decide) ?_
  refine g_iadd F dL_law_782 ?_
  refine g_sld F hX (by omega) hL dL_law_783 ?_
  refine g_callV 1 F (As := [.int (J (sc (i + 1)))]) (st := [.int (J ((sWrong x (sc (i + 1))).1))]) (c_X8_wrong l D ad ((sWrong x (sc (i + 1))).2) y x (sc (i + 1)) (sc_r hX _) hRel) gR_8 rfl mk_L_97 ki_X8_wrong kc_X8_wrong (by decide +kernel) rfl (by decide) dL_law_784 rfl (Nat.le_of_ble_eq_true rfl) (pH_k (fun v hv => ?_))
  refine g_same 1248 F dL_law_787 rfl ?_
  exact kk _ _ (hv)

theorem lc_20 {Θ : gT} {l : Launch} {D : gD} {ad : gA} {b L : Nat} {sc : Int → Int} {i : Int} {x : gX} {y : gY} (F : gF Θ l D ad cL_law RL 4 20) (hX : gScr Θ b L sc) (hL : L ≤ 3072) (hi : 0 ≤ i ∧ i + 6 ≤ (L : Int)) (hRel : Rel x y) (kk : ∀ (x1 : gX) (y1 : gY), Rel x1 y1 → gW Θ l D ad 4 1248 (lwL ad b i) [] x1 y1) : gW Θ l D ad 4 792 (lwL ad b i) [] x y := by
  refine g_aload_n F dL_law_792 rfl 2 rfl ?_
  refine g_callV 0 F (As := []) (st := []) (c_X7_best l D ad x y  hRel.1) gR_7 rfl mk_L_98 ki_X7_best kc_X7_best (by decide +kernel) rfl (by decide) dL_law_793 rfl (Nat.le_of_ble_eq_true rfl) (pI_k ?_)
  refine g_aload_n F dL_law_796 rfl 1 rfl ?_
  refine g_callV 0 F (As := []) (st := [.int (J ((sBest x).1))]) (c_X8_best l D ad ((sBest x).2) y x hRel) gR_8 rfl mk_L_101 ki_X8_best kc_X8_best (by decide +kernel) rfl (by decide) dL_law_797 rfl (Nat.le_of_ble_eq_true rfl) (pH_k (fun v hv => ?_))
  refine g_same 1248 F dL_law_800 rfl ?_
  exact kk _ _ (hv)
