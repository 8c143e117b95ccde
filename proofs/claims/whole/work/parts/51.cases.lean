/-! ===== the cases of the law ===== -/
section LAWC
variable {Γ : LC} {j : Nat} {σ : Mem}
set_option maxHeartbeats 1000000 in
/-- case 0: letter -/
theorem lc_0 (h : LOK Γ) (hS : SI σ) (hj : j + 5 ≤ Γ.L) (kk : ∀ υ, SI υ → LX Γ 1105 j [] υ) : LX Γ 188 j [] σ := by
  obtain ⟨s, ok, hC, hM⟩ := hS
  obtain ⟨n, r, hi, ni, ri, lm, L, rm, R, f⟩ := s
  refine l_x h dL_188 ?_
  refine l_arg (x := 1) h (by decide) (by omega) dL_189 dL_190 dL_191 dL_192 dL_193 ?_
  refine l_call (As := [.int (Γ.xs (j + 1))]) (rest := []) (id := 0) (ci := 3) h (qX3_letter hC ok _) (by decide) (by decide) kcX3_letter (mx_in (w := Cond.methodLink R_law 13 yX3_letter) 183 (by decide +kernel) rfl) kiX3_letter ksX3_letter knX3 kyX3_letter rfl (by decide) rfl rfl rfl rfl (Nat.le_of_ble_eq_true rfl) dL_194 (fun o τ hv => ?_)
  obtain ⟨v, rfl, e1, c1, g1⟩ := hv
  refine l_m h dL_197 ?_
  refine l_arg (x := 1) h (by decide) (by omega) dL_198 dL_199 dL_200 dL_201 dL_202 ?_
  refine l_call (As := [.int (Γ.xs (j + 1))]) (rest := [.int v]) (id := 35) (ci := 4) h (qX4_letter (hM.fc g1) ok _) (by decide) (by decide) kcX4_letter (mx_in (w := Cond.methodLink R_law 17 yX4_letter) 637 (by decide +kernel) rfl) kiX4_letter ksX4_letter knX4 kyX4_letter rfl (by decide) rfl rfl rfl rfl (Nat.le_of_ble_eq_true rfl) dL_203 (fun o υ hv => ?_)
  obtain ⟨v2, rfl, e2, c2, g2⟩ := hv
  obtain rfl := e1.symm.trans e2
  refine l_eq (tgt := 1105) h dL_206 (by decide) ?_
  exact kk _ (SI.a (oka_letter ok) c1 c2 g2)
set_option maxHeartbeats 1000000 in
/-- case 1: town -/
theorem lc_1 (h : LOK Γ) (hS : SI σ) (hj : j + 5 ≤ Γ.L) (kk : ∀ υ, SI υ → LX Γ 1105 j [] υ) : LX Γ 211 j [] σ := by
  obtain ⟨s, ok, hC, hM⟩ := hS
  obtain ⟨n, r, hi, ni, ri, lm, L, rm, R, f⟩ := s
  refine l_x h dL_211 ?_
  refine l_call (As := []) (rest := []) (id := 0) (ci := 3) h (qX3_town hC ok ) (by decide) (by decide) kcX3_town (mx_in (w := Cond.methodLink R_law 18 yX3_town) 199 (by decide +kernel) rfl) kiX3_town ksX3_town knX3 kyX3_town rfl (by decide) rfl rfl rfl rfl (Nat.le_of_ble_eq_true rfl) dL_212 (fun o τ hv => ?_)
  obtain ⟨v, rfl, e1, c1, g1⟩ := hv
  refine l_m h dL_215 ?_
  refine l_call (As := []) (rest := [.int v]) (id := 35) (ci := 4) h (qX4_town (hM.fc g1) ok ) (by decide) (by decide) kcX4_town (mx_in (w := Cond.methodLink R_law 22 yX4_town) 645 (by decide +kernel) rfl) kiX4_town ksX4_town knX4 kyX4_town rfl (by decide) rfl rfl rfl rfl (Nat.le_of_ble_eq_true rfl) dL_216 (fun o υ hv => ?_)
  obtain ⟨v2, rfl, e2, c2, g2⟩ := hv
  obtain rfl := e1.symm.trans e2
  refine l_eq (tgt := 1105) h dL_219 (by decide) ?_
  exact kk _ (SI.a (oka_town ok) c1 c2 g2)
set_option maxHeartbeats 1000000 in
/-- case 2: house -/
theorem lc_2 (h : LOK Γ) (hS : SI σ) (hj : j + 5 ≤ Γ.L) (kk : ∀ υ, SI υ → LX Γ 1105 j [] υ) : LX Γ 224 j [] σ := by
  obtain ⟨s, ok, hC, hM⟩ := hS
  obtain ⟨n, r, hi, ni, ri, lm, L, rm, R, f⟩ := s
  refine l_x h dL_224 ?_
  refine l_arg (x := 1) h (by decide) (by omega) dL_225 dL_226 dL_227 dL_228 dL_229 ?_
  refine l_arg (x := 2) h (by decide) (by omega) dL_230 dL_231 dL_232 dL_233 dL_234 ?_
  refine l_call (As := [.int (Γ.xs (j + 1)), .int (Γ.xs (j + 2))]) (rest := []) (id := 0) (ci := 3) h (qX3_house hC.1 hC.2.1 ok.1 _ _) (by decide) (by decide) kcX3_house (mx_in (w := Cond.methodLink R_law 23 yX3_house) 333 (by decide +kernel) rfl) kiX3_house ksX3_house knX3 kyX3_house rfl (by decide) rfl rfl rfl rfl (Nat.le_of_ble_eq_true rfl) dL_235 (fun o τ hv => ?_)
  obtain ⟨v, rfl, e1, q1⟩ := hv
  refine l_m h dL_238 ?_
  refine l_arg (x := 1) h (by decide) (by omega) dL_239 dL_240 dL_241 dL_242 dL_243 ?_
  refine l_arg (x := 2) h (by decide) (by omega) dL_244 dL_245 dL_246 dL_247 dL_248 ?_
  refine l_call (As := [.int (Γ.xs (j + 1)), .int (Γ.xs (j + 2))]) (rest := [.int v]) (id := 35) (ci := 4) h (qX4_house (hM.fc q1.fc).1 ok.1 _ _) (by decide) (by decide) kcX4_house (mx_in (w := Cond.methodLink R_law 27 yX4_house) 725 (by decide +kernel) rfl) kiX4_house ksX4_house knX4 kyX4_house rfl (by decide) rfl rfl rfl rfl (Nat.le_of_ble_eq_true rfl) dL_249 (fun o υ hv => ?_)
  obtain ⟨v2, rfl, e2, q2⟩ := hv
  obtain rfl := e1.symm.trans e2
  refine l_eq (tgt := 1105) h dL_252 (by decide) ?_
  exact kk _ (SI.q ok hC hM q1 q2)
set_option maxHeartbeats 1000000 in
/-- case 3: peoples -/
theorem lc_3 (h : LOK Γ) (hS : SI σ) (hj : j + 5 ≤ Γ.L) (kk : ∀ υ, SI υ → LX Γ 1105 j [] υ) : LX Γ 257 j [] σ := by
  obtain ⟨s, ok, hC, hM⟩ := hS
  obtain ⟨n, r, hi, ni, ri, lm, L, rm, R, f⟩ := s
  refine l_x h dL_257 ?_
  refine l_arg (x := 1) h (by decide) (by omega) dL_258 dL_259 dL_260 dL_261 dL_262 ?_
  refine l_arg (x := 2) h (by decide) (by omega) dL_263 dL_264 dL_265 dL_266 dL_267 ?_
  refine l_call (As := [.int (Γ.xs (j + 1)), .int (Γ.xs (j + 2))]) (rest := []) (id := 0) (ci := 3) h (qX3_peoples hC.1 hC.2.1 ok.1 _ _) (by decide) (by decide) kcX3_peoples (mx_in (w := Cond.methodLink R_law 28 yX3_peoples) 339 (by decide +kernel) rfl) kiX3_peoples ksX3_peoples knX3 kyX3_peoples rfl (by decide) rfl rfl rfl rfl (Nat.le_of_ble_eq_true rfl) dL_268 (fun o τ hv => ?_)
  obtain ⟨v, rfl, e1, q1⟩ := hv
  refine l_m h dL_271 ?_
  refine l_arg (x := 1) h (by decide) (by omega) dL_272 dL_273 dL_274 dL_275 dL_276 ?_
  refine l_arg (x := 2) h (by decide) (by omega) dL_277 dL_278 dL_279 dL_280 dL_281 ?_
  refine l_call (As := [.int (Γ.xs (j + 1)), .int (Γ.xs (j + 2))]) (rest := [.int v]) (id := 35) (ci := 4) h (qX4_peoples (hM.fc q1.fc).1 ok.1 _ _) (by decide) (by decide) kcX4_peoples (mx_in (w := Cond.methodLink R_law 31 yX4_peoples) 729 (by decide +kernel) rfl) kiX4_peoples ksX4_peoples knX4 kyX4_peoples rfl (by decide) rfl rfl rfl rfl (Nat.le_of_ble_eq_true rfl) dL_282 (fun o υ hv => ?_)
  obtain ⟨v2, rfl, e2, q2⟩ := hv
  obtain rfl := e1.symm.trans e2
  refine l_eq (tgt := 1105) h dL_285 (by decide) ?_
  exact kk _ (SI.S ok hC hM (okz_3 ok.1 ok.2.1) q1 q2)
set_option maxHeartbeats 1000000 in
/-- case 4: airs -/
theorem lc_4 (h : LOK Γ) (hS : SI σ) (hj : j + 5 ≤ Γ.L) (kk : ∀ υ, SI υ → LX Γ 1105 j [] υ) : LX Γ 290 j [] σ := by
  obtain ⟨s, ok, hC, hM⟩ := hS
  obtain ⟨n, r, hi, ni, ri, lm, L, rm, R, f⟩ := s
  refine l_x h dL_290 ?_
  refine l_arg (x := 1) h (by decide) (by omega) dL_291 dL_292 dL_293 dL_294 dL_295 ?_
  refine l_call (As := [.int (Γ.xs (j + 1))]) (rest := []) (id := 0) (ci := 3) h (qX3_airs hC.1 hC.2.1 ok.1 _) (by decide) (by decide) kcX3_airs (mx_in (w := Cond.methodLink R_law 32 yX3_airs) 343 (by decide +kernel) rfl) kiX3_airs ksX3_airs knX3 kyX3_airs rfl (by decide) rfl rfl rfl rfl (Nat.le_of_ble_eq_true rfl) dL_296 (fun o τ hv => ?_)
  obtain ⟨v, rfl, e1, q1⟩ := hv
  refine l_m h dL_299 ?_
  refine l_arg (x := 1) h (by decide) (by omega) dL_300 dL_301 dL_302 dL_303 dL_304 ?_
  refine l_call (As := [.int (Γ.xs (j + 1))]) (rest := [.int v]) (id := 35) (ci := 4) h (qX4_airs (hM.fc q1.fc).1 ok.1 _) (by decide) (by decide) kcX4_airs (mx_in (w := Cond.methodLink R_law 35 yX4_airs) 744 (by decide +kernel) rfl) kiX4_airs ksX4_airs knX4 kyX4_airs rfl (by decide) rfl rfl rfl rfl (Nat.le_of_ble_eq_true rfl) dL_305 (fun o υ hv => ?_)
  obtain ⟨v2, rfl, e2, q2⟩ := hv
  obtain rfl := e1.symm.trans e2
  refine l_eq (tgt := 1105) h dL_308 (by decide) ?_
  exact kk _ (SI.S ok hC hM (okz_airs ok.1 ok.2.1) q1 q2)
set_option maxHeartbeats 1000000 in
/-- case 5: dents -/
theorem lc_5 (h : LOK Γ) (hS : SI σ) (hj : j + 5 ≤ Γ.L) (kk : ∀ υ, SI υ → LX Γ 1105 j [] υ) : LX Γ 313 j [] σ := by
  obtain ⟨s, ok, hC, hM⟩ := hS
  obtain ⟨n, r, hi, ni, ri, lm, L, rm, R, f⟩ := s
  refine l_x h dL_313 ?_
  refine l_arg (x := 1) h (by decide) (by omega) dL_314 dL_315 dL_316 dL_317 dL_318 ?_
  refine l_arg (x := 2) h (by decide) (by omega) dL_319 dL_320 dL_321 dL_322 dL_323 ?_
  refine l_call (As := [.int (Γ.xs (j + 1)), .int (Γ.xs (j + 2))]) (rest := []) (id := 0) (ci := 3) h (qX3_dents hC.1 hC.2.1 ok.1 _ _) (by decide) (by decide) kcX3_dents (mx_in (w := Cond.methodLink R_law 36 yX3_dents) 347 (by decide +kernel) rfl) kiX3_dents ksX3_dents knX3 kyX3_dents rfl (by decide) rfl rfl rfl rfl (Nat.le_of_ble_eq_true rfl) dL_324 (fun o τ hv => ?_)
  obtain ⟨v, rfl, e1, q1⟩ := hv
  refine l_m h dL_327 ?_
  refine l_arg (x := 1) h (by decide) (by omega) dL_328 dL_329 dL_330 dL_331 dL_332 ?_
  refine l_arg (x := 2) h (by decide) (by omega) dL_333 dL_334 dL_335 dL_336 dL_337 ?_
  refine l_call (As := [.int (Γ.xs (j + 1)), .int (Γ.xs (j + 2))]) (rest := [.int v]) (id := 35) (ci := 4) h (qX4_dents (hM.fc q1.fc).1 ok.1 _ _) (by decide) (by decide) kcX4_dents (mx_in (w := Cond.methodLink R_law 39 yX4_dents) 748 (by decide +kernel) rfl) kiX4_dents ksX4_dents knX4 kyX4_dents rfl (by decide) rfl rfl rfl rfl (Nat.le_of_ble_eq_true rfl) dL_338 (fun o υ hv => ?_)
  obtain ⟨v2, rfl, e2, q2⟩ := hv
  obtain rfl := e1.symm.trans e2
  refine l_eq (tgt := 1105) h dL_341 (by decide) ?_
  exact kk _ (SI.S ok hC hM (okz_5 ok.1 ok.2.1) q1 q2)
set_option maxHeartbeats 1000000 in
/-- case 6: keeps -/
theorem lc_6 (h : LOK Γ) (hS : SI σ) (hj : j + 5 ≤ Γ.L) (kk : ∀ υ, SI υ → LX Γ 1105 j [] υ) : LX Γ 346 j [] σ := by
  obtain ⟨s, ok, hC, hM⟩ := hS
  obtain ⟨n, r, hi, ni, ri, lm, L, rm, R, f⟩ := s
  refine l_x h dL_346 ?_
  refine l_arg (x := 1) h (by decide) (by omega) dL_347 dL_348 dL_349 dL_350 dL_351 ?_
  refine l_call (As := [.int (Γ.xs (j + 1))]) (rest := []) (id := 0) (ci := 3) h (qX3_keeps hC.1 hC.2.1 ok.1 _) (by decide) (by decide) kcX3_keeps (mx_in (w := Cond.methodLink R_law 40 yX3_keeps) 351 (by decide +kernel) rfl) kiX3_keeps ksX3_keeps knX3 kyX3_keeps rfl (by decide) rfl rfl rfl rfl (Nat.le_of_ble_eq_true rfl) dL_352 (fun o τ hv => ?_)
  obtain ⟨v, rfl, e1, q1⟩ := hv
  refine l_m h dL_355 ?_
  refine l_arg (x := 1) h (by decide) (by omega) dL_356 dL_357 dL_358 dL_359 dL_360 ?_
  refine l_call (As := [.int (Γ.xs (j + 1))]) (rest := [.int v]) (id := 35) (ci := 4) h (qX4_keeps (hM.fc q1.fc).1 ok.1 _) (by decide) (by decide) kcX4_keeps (mx_in (w := Cond.methodLink R_law 43 yX4_keeps) 752 (by decide +kernel) rfl) kiX4_keeps ksX4_keeps knX4 kyX4_keeps rfl (by decide) rfl rfl rfl rfl (Nat.le_of_ble_eq_true rfl) dL_361 (fun o υ hv => ?_)
  obtain ⟨v2, rfl, e2, q2⟩ := hv
  obtain rfl := e1.symm.trans e2
  refine l_eq (tgt := 1105) h dL_364 (by decide) ?_
  exact kk _ (SI.S ok hC hM (okz_keeps ok.1 ok.2.1) q1 q2)
set_option maxHeartbeats 1000000 in
/-- case 7: visits -/
theorem lc_7 (h : LOK Γ) (hS : SI σ) (hj : j + 5 ≤ Γ.L) (kk : ∀ υ, SI υ → LX Γ 1105 j [] υ) : LX Γ 369 j [] σ := by
  obtain ⟨s, ok, hC, hM⟩ := hS
  obtain ⟨n, r, hi, ni, ri, lm, L, rm, R, f⟩ := s
  refine l_x h dL_369 ?_
  refine l_arg (x := 1) h (by decide) (by omega) dL_370 dL_371 dL_372 dL_373 dL_374 ?_
  refine l_call (As := [.int (Γ.xs (j + 1))]) (rest := []) (id := 0) (ci := 3) h (qX3_visits hC.1 hC.2.1 ok.1 _) (by decide) (by decide) kcX3_visits (mx_in (w := Cond.methodLink R_law 44 yX3_visits) 355 (by decide +kernel) rfl) kiX3_visits ksX3_visits knX3 kyX3_visits rfl (by decide) rfl rfl rfl rfl (Nat.le_of_ble_eq_true rfl) dL_375 (fun o τ hv => ?_)
  obtain ⟨v, rfl, e1, q1⟩ := hv
  refine l_m h dL_378 ?_
  refine l_arg (x := 1) h (by decide) (by omega) dL_379 dL_380 dL_381 dL_382 dL_383 ?_
  refine l_call (As := [.int (Γ.xs (j + 1))]) (rest := [.int v]) (id := 35) (ci := 4) h (qX4_visits (hM.fc q1.fc).1 ok.1 _) (by decide) (by decide) kcX4_visits (mx_in (w := Cond.methodLink R_law 47 yX4_visits) 756 (by decide +kernel) rfl) kiX4_visits ksX4_visits knX4 kyX4_visits rfl (by decide) rfl rfl rfl rfl (Nat.le_of_ble_eq_true rfl) dL_384 (fun o υ hv => ?_)
  obtain ⟨v2, rfl, e2, q2⟩ := hv
  obtain rfl := e1.symm.trans e2
  refine l_eq (tgt := 1105) h dL_387 (by decide) ?_
  exact kk _ (SI.S ok hC hM (okz_visits ok.1 ok.2.1) q1 q2)
set_option maxHeartbeats 1000000 in
/-- case 8: candles -/
theorem lc_8 (h : LOK Γ) (hS : SI σ) (hj : j + 5 ≤ Γ.L) (kk : ∀ υ, SI υ → LX Γ 1105 j [] υ) : LX Γ 392 j [] σ := by
  obtain ⟨s, ok, hC, hM⟩ := hS
  obtain ⟨n, r, hi, ni, ri, lm, L, rm, R, f⟩ := s
  refine l_x h dL_392 ?_
  refine l_arg (x := 1) h (by decide) (by omega) dL_393 dL_394 dL_395 dL_396 dL_397 ?_
  refine l_call (As := [.int (Γ.xs (j + 1))]) (rest := []) (id := 0) (ci := 3) h (qX3_candles hC.1 hC.2.1 ok.1 _) (by decide) (by decide) kcX3_candles (mx_in (w := Cond.methodLink R_law 48 yX3_candles) 359 (by decide +kernel) rfl) kiX3_candles ksX3_candles knX3 kyX3_candles rfl (by decide) rfl rfl rfl rfl (Nat.le_of_ble_eq_true rfl) dL_398 (fun o τ hv => ?_)
  obtain ⟨v, rfl, e1, q1⟩ := hv
  refine l_m h dL_401 ?_
  refine l_arg (x := 1) h (by decide) (by omega) dL_402 dL_403 dL_404 dL_405 dL_406 ?_
  refine l_call (As := [.int (Γ.xs (j + 1))]) (rest := [.int v]) (id := 35) (ci := 4) h (qX4_candles (hM.fc q1.fc).1 ok.1 _) (by decide) (by decide) kcX4_candles (mx_in (w := Cond.methodLink R_law 51 yX4_candles) 760 (by decide +kernel) rfl) kiX4_candles ksX4_candles knX4 kyX4_candles rfl (by decide) rfl rfl rfl rfl (Nat.le_of_ble_eq_true rfl) dL_407 (fun o υ hv => ?_)
  obtain ⟨v2, rfl, e2, q2⟩ := hv
  obtain rfl := e1.symm.trans e2
  refine l_eq (tgt := 1105) h dL_410 (by decide) ?_
  exact kk _ (SI.S ok hC hM (okz_candles ok.1 ok.2.1) q1 q2)
set_option maxHeartbeats 1000000 in
/-- case 9: turn -/
theorem lc_9 (h : LOK Γ) (hS : SI σ) (hj : j + 5 ≤ Γ.L) (kk : ∀ υ, SI υ → LX Γ 1105 j [] υ) : LX Γ 415 j [] σ := by
  obtain ⟨s, ok, hC, hM⟩ := hS
  obtain ⟨n, r, hi, ni, ri, lm, L, rm, R, f⟩ := s
  refine l_x h dL_415 ?_
  refine l_arg (x := 1) h (by decide) (by omega) dL_416 dL_417 dL_418 dL_419 dL_420 ?_
  refine l_arg (x := 2) h (by decide) (by omega) dL_421 dL_422 dL_423 dL_424 dL_425 ?_
  refine l_arg (x := 3) h (by decide) (by omega) dL_426 dL_427 dL_428 dL_429 dL_430 ?_
  refine l_call (As := [.int (Γ.xs (j + 1)), .int (Γ.xs (j + 2)), .int (Γ.xs (j + 3))]) (rest := []) (id := 0) (ci := 3) h (qX3_turn hC.1 hC.2.1 ok.1 _ _ _) (by decide) (by decide) kcX3_turn (mx_in (w := Cond.methodLink R_law 52 yX3_turn) 363 (by decide +kernel) rfl) kiX3_turn ksX3_turn knX3 kyX3_turn rfl (by decide) rfl rfl rfl rfl (Nat.le_of_ble_eq_true rfl) dL_431 (fun o τ hv => ?_)
  obtain ⟨v, rfl, e1, q1⟩ := hv
  refine l_m h dL_434 ?_
  refine l_arg (x := 1) h (by decide) (by omega) dL_435 dL_436 dL_437 dL_438 dL_439 ?_
  refine l_arg (x := 2) h (by decide) (by omega) dL_440 dL_441 dL_442 dL_443 dL_444 ?_
  refine l_arg (x := 3) h (by decide) (by omega) dL_445 dL_446 dL_447 dL_448 dL_449 ?_
  refine l_call (As := [.int (Γ.xs (j + 1)), .int (Γ.xs (j + 2)), .int (Γ.xs (j + 3))]) (rest := [.int v]) (id := 35) (ci := 4) h (qX4_turn (hM.fc q1.fc).1 ok.1 _ _ _) (by decide) (by decide) kcX4_turn (mx_in (w := Cond.methodLink R_law 56 yX4_turn) 764 (by decide +kernel) rfl) kiX4_turn ksX4_turn knX4 kyX4_turn rfl (by decide) rfl rfl rfl rfl (Nat.le_of_ble_eq_true rfl) dL_450 (fun o υ hv => ?_)
  obtain ⟨v2, rfl, e2, q2⟩ := hv
  obtain rfl := e1.symm.trans e2
  refine l_eq (tgt := 1105) h dL_453 (by decide) ?_
  exact kk _ (SI.S ok hC hM (okz_turn ok.1 ok.2.1) q1 q2)
set_option maxHeartbeats 1000000 in
/-- case 10: weeks -/
theorem lc_10 (h : LOK Γ) (hS : SI σ) (hj : j + 5 ≤ Γ.L) (kk : ∀ υ, SI υ → LX Γ 1105 j [] υ) : LX Γ 458 j [] σ := by
  obtain ⟨s, ok, hC, hM⟩ := hS
  obtain ⟨n, r, hi, ni, ri, lm, L, rm, R, f⟩ := s
  refine l_x h dL_458 ?_
  refine l_arg (x := 1) h (by decide) (by omega) dL_459 dL_460 dL_461 dL_462 dL_463 ?_
  refine l_call (As := [.int (Γ.xs (j + 1))]) (rest := []) (id := 0) (ci := 3) h (qX3_weeks hC.1 hC.2.1 ok.1 _) (by decide) (by decide) kcX3_weeks (mx_in (w := Cond.methodLink R_law 57 yX3_weeks) 367 (by decide +kernel) rfl) kiX3_weeks ksX3_weeks knX3 kyX3_weeks rfl (by decide) rfl rfl rfl rfl (Nat.le_of_ble_eq_true rfl) dL_464 (fun o τ hv => ?_)
  obtain ⟨v, rfl, e1, q1⟩ := hv
  refine l_m h dL_467 ?_
  refine l_arg (x := 1) h (by decide) (by omega) dL_468 dL_469 dL_470 dL_471 dL_472 ?_
  refine l_call (As := [.int (Γ.xs (j + 1))]) (rest := [.int v]) (id := 35) (ci := 4) h (qX4_weeks (hM.fc q1.fc).1 ok.1 _) (by decide) (by decide) kcX4_weeks (mx_in (w := Cond.methodLink R_law 60 yX4_weeks) 768 (by decide +kernel) rfl) kiX4_weeks ksX4_weeks knX4 kyX4_weeks rfl (by decide) rfl rfl rfl rfl (Nat.le_of_ble_eq_true rfl) dL_473 (fun o υ hv => ?_)
  obtain ⟨v2, rfl, e2, q2⟩ := hv
  obtain rfl := e1.symm.trans e2
  refine l_eq (tgt := 1105) h dL_476 (by decide) ?_
  exact kk _ (SI.S ok hC hM (okz_weeks ok.1 ok.2.1) q1 q2)
set_option maxHeartbeats 1000000 in
/-- case 11: houseThen -/
theorem lc_11 (h : LOK Γ) (hS : SI σ) (hj : j + 5 ≤ Γ.L) (kk : ∀ υ, SI υ → LX Γ 1105 j [] υ) : LX Γ 481 j [] σ := by
  obtain ⟨s, ok, hC, hM⟩ := hS
  obtain ⟨n, r, hi, ni, ri, lm, L, rm, R, f⟩ := s
  refine l_x h dL_481 ?_
  refine l_arg (x := 1) h (by decide) (by omega) dL_482 dL_483 dL_484 dL_485 dL_486 ?_
  refine l_arg (x := 2) h (by decide) (by omega) dL_487 dL_488 dL_489 dL_490 dL_491 ?_
  refine l_arg (x := 3) h (by decide) (by omega) dL_492 dL_493 dL_494 dL_495 dL_496 ?_
  refine l_call (As := [.int (Γ.xs (j + 1)), .int (Γ.xs (j + 2)), .int (Γ.xs (j + 3))]) (rest := []) (id := 0) (ci := 3) h (qX3_houseThen hC.1 hC.2.1 ok.1 _ _ _) (by decide) (by decide) kcX3_houseThen (mx_in (w := Cond.methodLink R_law 61 yX3_houseThen) 385 (by decide +kernel) rfl) kiX3_houseThen ksX3_houseThen knX3 kyX3_houseThen rfl (by decide) rfl rfl rfl rfl (Nat.le_of_ble_eq_true rfl) dL_497 (fun o τ hv => ?_)
  obtain ⟨v, rfl, e1, q1⟩ := hv
  refine l_m h dL_500 ?_
  refine l_arg (x := 1) h (by decide) (by omega) dL_501 dL_502 dL_503 dL_504 dL_505 ?_
  refine l_arg (x := 2) h (by decide) (by omega) dL_506 dL_507 dL_508 dL_509 dL_510 ?_
  refine l_arg (x := 3) h (by decide) (by omega) dL_511 dL_512 dL_513 dL_514 dL_515 ?_
  refine l_call (As := [.int (Γ.xs (j + 1)), .int (Γ.xs (j + 2)), .int (Γ.xs (j + 3))]) (rest := [.int v]) (id := 35) (ci := 4) h (qX4_houseThen (hM.fc q1.fc).1 ok.1 _ _ _) (by decide) (by decide) kcX4_houseThen (mx_in (w := Cond.methodLink R_law 64 yX4_houseThen) 775 (by decide +kernel) rfl) kiX4_houseThen ksX4_houseThen knX4 kyX4_houseThen rfl (by decide) rfl rfl rfl rfl (Nat.le_of_ble_eq_true rfl) dL_516 (fun o υ hv => ?_)
  obtain ⟨v2, rfl, e2, q2⟩ := hv
  obtain rfl := e1.symm.trans e2
  refine l_eq (tgt := 1105) h dL_519 (by decide) ?_
  exact kk _ (SI.q ok hC hM q1 q2)
set_option maxHeartbeats 1000000 in
/-- case 12: then -/
theorem lc_12 (h : LOK Γ) (hS : SI σ) (hj : j + 5 ≤ Γ.L) (kk : ∀ υ, SI υ → LX Γ 1105 j [] υ) : LX Γ 524 j [] σ := by
  obtain ⟨s, ok, hC, hM⟩ := hS
  obtain ⟨n, r, hi, ni, ri, lm, L, rm, R, f⟩ := s
  refine l_x h dL_524 ?_
  refine l_arg (x := 1) h (by decide) (by omega) dL_525 dL_526 dL_527 dL_528 dL_529 ?_
  refine l_arg (x := 2) h (by decide) (by omega) dL_530 dL_531 dL_532 dL_533 dL_534 ?_
  refine l_call (As := [.int (Γ.xs (j + 1)), .int (Γ.xs (j + 2))]) (rest := []) (id := 0) (ci := 3) h (qX3_then hC.1 hC.2.1 ok.1 _ _) (by decide) (by decide) kcX3_then (mx_in (w := Cond.methodLink R_law 65 yX3_then) 392 (by decide +kernel) rfl) kiX3_then ksX3_then knX3 kyX3_then rfl (by decide) rfl rfl rfl rfl (Nat.le_of_ble_eq_true rfl) dL_535 (fun o τ hv => ?_)
  obtain ⟨v, rfl, e1, q1⟩ := hv
  refine l_m h dL_538 ?_
  refine l_arg (x := 1) h (by decide) (by omega) dL_539 dL_540 dL_541 dL_542 dL_543 ?_
  refine l_arg (x := 2) h (by decide) (by omega) dL_544 dL_545 dL_546 dL_547 dL_548 ?_
  refine l_call (As := [.int (Γ.xs (j + 1)), .int (Γ.xs (j + 2))]) (rest := [.int v]) (id := 35) (ci := 4) h (qX4_then (hM.fc q1.fc).1 ok.1 _ _) (by decide) (by decide) kcX4_then (mx_in (w := Cond.methodLink R_law 68 yX4_then) 783 (by decide +kernel) rfl) kiX4_then ksX4_then knX4 kyX4_then rfl (by decide) rfl rfl rfl rfl (Nat.le_of_ble_eq_true rfl) dL_549 (fun o υ hv => ?_)
  obtain ⟨v2, rfl, e2, q2⟩ := hv
  obtain rfl := e1.symm.trans e2
  refine l_eq (tgt := 1105) h dL_552 (by decide) ?_
  exact kk _ (SI.q ok hC hM q1 q2)
set_option maxHeartbeats 1000000 in
/-- case 13: lost -/
theorem lc_13 (h : LOK Γ) (hS : SI σ) (hj : j + 5 ≤ Γ.L) (kk : ∀ υ, SI υ → LX Γ 1105 j [] υ) : LX Γ 557 j [] σ := by
  obtain ⟨s, ok, hC, hM⟩ := hS
  obtain ⟨n, r, hi, ni, ri, lm, L, rm, R, f⟩ := s
  refine l_x h dL_557 ?_
  refine l_arg (x := 1) h (by decide) (by omega) dL_558 dL_559 dL_560 dL_561 dL_562 ?_
  refine l_call (As := [.int (Γ.xs (j + 1))]) (rest := []) (id := 0) (ci := 3) h (qX3_lost hC.1 hC.2.1 ok.1 _) (by decide) (by decide) kcX3_lost (mx_in (w := Cond.methodLink R_law 69 yX3_lost) 397 (by decide +kernel) rfl) kiX3_lost ksX3_lost knX3 kyX3_lost rfl (by decide) rfl rfl rfl rfl (Nat.le_of_ble_eq_true rfl) dL_563 (fun o τ hv => ?_)
  obtain ⟨v, rfl, e1, q1⟩ := hv
  refine l_m h dL_566 ?_
  refine l_arg (x := 1) h (by decide) (by omega) dL_567 dL_568 dL_569 dL_570 dL_571 ?_
  refine l_call (As := [.int (Γ.xs (j + 1))]) (rest := [.int v]) (id := 35) (ci := 4) h (qX4_lost (hM.fc q1.fc).1 ok.1 _) (by decide) (by decide) kcX4_lost (mx_in (w := Cond.methodLink R_law 72 yX4_lost) 787 (by decide +kernel) rfl) kiX4_lost ksX4_lost knX4 kyX4_lost rfl (by decide) rfl rfl rfl rfl (Nat.le_of_ble_eq_true rfl) dL_572 (fun o υ hv => ?_)
  obtain ⟨v2, rfl, e2, q2⟩ := hv
  obtain rfl := e1.symm.trans e2
  refine l_eq (tgt := 1105) h dL_575 (by decide) ?_
  exact kk _ (SI.q ok hC hM q1 q2)
set_option maxHeartbeats 1000000 in
/-- case 14: dark -/
theorem lc_14 (h : LOK Γ) (hS : SI σ) (hj : j + 5 ≤ Γ.L) (kk : ∀ υ, SI υ → LX Γ 1105 j [] υ) : LX Γ 580 j [] σ := by
  obtain ⟨s, ok, hC, hM⟩ := hS
  obtain ⟨n, r, hi, ni, ri, lm, L, rm, R, f⟩ := s
  refine l_x h dL_580 ?_
  refine l_call (As := []) (rest := []) (id := 0) (ci := 3) h (qX3_dark hC.1 hC.2.1 ok.1 ) (by decide) (by decide) kcX3_dark (mx_in (w := Cond.methodLink R_law 73 yX3_dark) 409 (by decide +kernel) rfl) kiX3_dark ksX3_dark knX3 kyX3_dark rfl (by decide) rfl rfl rfl rfl (Nat.le_of_ble_eq_true rfl) dL_581 (fun o τ hv => ?_)
  obtain ⟨v, rfl, e1, q1⟩ := hv
  refine l_m h dL_584 ?_
  refine l_call (As := []) (rest := [.int v]) (id := 35) (ci := 4) h (qX4_dark (hM.fc q1.fc).1 ok.1 ) (by decide) (by decide) kcX4_dark (mx_in (w := Cond.methodLink R_law 76 yX4_dark) 804 (by decide +kernel) rfl) kiX4_dark ksX4_dark knX4 kyX4_dark rfl (by decide) rfl rfl rfl rfl (Nat.le_of_ble_eq_true rfl) dL_585 (fun o υ hv => ?_)
  obtain ⟨v2, rfl, e2, q2⟩ := hv
  obtain rfl := e1.symm.trans e2
  refine l_eq (tgt := 1105) h dL_588 (by decide) ?_
  exact kk _ (SI.q ok hC hM q1 q2)
set_option maxHeartbeats 1000000 in
/-- case 15: still -/
theorem lc_15 (h : LOK Γ) (hS : SI σ) (hj : j + 5 ≤ Γ.L) (kk : ∀ υ, SI υ → LX Γ 1105 j [] υ) : LX Γ 593 j [] σ := by
  obtain ⟨s, ok, hC, hM⟩ := hS
  obtain ⟨n, r, hi, ni, ri, lm, L, rm, R, f⟩ := s
  refine l_x h dL_593 ?_
  refine l_call (As := []) (rest := []) (id := 0) (ci := 3) h (qX3_still hC.1 hC.2.1 ok.1 ) (by decide) (by decide) kcX3_still (mx_in (w := Cond.methodLink R_law 77 yX3_still) 418 (by decide +kernel) rfl) kiX3_still ksX3_still knX3 kyX3_still rfl (by decide) rfl rfl rfl rfl (Nat.le_of_ble_eq_true rfl) dL_594 (fun o τ hv => ?_)
  obtain ⟨v, rfl, e1, q1⟩ := hv
  refine l_m h dL_597 ?_
  refine l_call (As := []) (rest := [.int v]) (id := 35) (ci := 4) h (qX4_still (hM.fc q1.fc).1 ok.1 ) (by decide) (by decide) kcX4_still (mx_in (w := Cond.methodLink R_law 80 yX4_still) 811 (by decide +kernel) rfl) kiX4_still ksX4_still knX4 kyX4_still rfl (by decide) rfl rfl rfl rfl (Nat.le_of_ble_eq_true rfl) dL_598 (fun o υ hv => ?_)
  obtain ⟨v2, rfl, e2, q2⟩ := hv
  obtain rfl := e1.symm.trans e2
  refine l_eq (tgt := 1105) h dL_601 (by decide) ?_
  exact kk _ (SI.q ok hC hM q1 q2)
set_option maxHeartbeats 1000000 in
/-- case 16: move -/
theorem lc_16 (h : LOK Γ) (hS : SI σ) (hj : j + 5 ≤ Γ.L) (kk : ∀ υ, SI υ → LX Γ 1105 j [] υ) : LX Γ 606 j [] σ := by
  obtain ⟨s, ok, hC, hM⟩ := hS
  obtain ⟨n, r, hi, ni, ri, lm, L, rm, R, f⟩ := s
  refine l_x h dL_606 ?_
  refine l_arg (x := 1) h (by decide) (by omega) dL_607 dL_608 dL_609 dL_610 dL_611 ?_
  refine l_call (As := [.int (Γ.xs (j + 1))]) (rest := []) (id := 0) (ci := 3) h (qX3_move hC.1 hC.2.1 ok.1 _) (by decide) (by decide) kcX3_move (mx_in (w := Cond.methodLink R_law 81 yX3_move) 422 (by decide +kernel) rfl) kiX3_move ksX3_move knX3 kyX3_move rfl (by decide) rfl rfl rfl rfl (Nat.le_of_ble_eq_true rfl) dL_612 (fun o τ hv => ?_)
  obtain ⟨v, rfl, e1, q1⟩ := hv
  refine l_m h dL_615 ?_
  refine l_arg (x := 1) h (by decide) (by omega) dL_616 dL_617 dL_618 dL_619 dL_620 ?_
  refine l_call (As := [.int (Γ.xs (j + 1))]) (rest := [.int v]) (id := 35) (ci := 4) h (qX4_move (hM.fc q1.fc).1 ok.1 _) (by decide) (by decide) kcX4_move (mx_in (w := Cond.methodLink R_law 84 yX4_move) 819 (by decide +kernel) rfl) kiX4_move ksX4_move knX4 kyX4_move rfl (by decide) rfl rfl rfl rfl (Nat.le_of_ble_eq_true rfl) dL_621 (fun o υ hv => ?_)
  obtain ⟨v2, rfl, e2, q2⟩ := hv
  obtain rfl := e1.symm.trans e2
  refine l_eq (tgt := 1105) h dL_624 (by decide) ?_
  exact kk _ (SI.q ok hC hM q1 q2)
set_option maxHeartbeats 1000000 in
/-- case 17: air -/
theorem lc_17 (h : LOK Γ) (hS : SI σ) (hj : j + 5 ≤ Γ.L) (kk : ∀ υ, SI υ → LX Γ 1105 j [] υ) : LX Γ 629 j [] σ := by
  obtain ⟨s, ok, hC, hM⟩ := hS
  obtain ⟨n, r, hi, ni, ri, lm, L, rm, R, f⟩ := s
  refine l_x h dL_629 ?_
  refine l_arg (x := 1) h (by decide) (by omega) dL_630 dL_631 dL_632 dL_633 dL_634 ?_
  refine l_call (As := [.int (Γ.xs (j + 1))]) (rest := []) (id := 0) (ci := 3) h (qX3_air hC.1 hC.2.1 ok.1 _) (by decide) (by decide) kcX3_air (mx_in (w := Cond.methodLink R_law 85 yX3_air) 431 (by decide +kernel) rfl) kiX3_air ksX3_air knX3 kyX3_air rfl (by decide) rfl rfl rfl rfl (Nat.le_of_ble_eq_true rfl) dL_635 (fun o τ hv => ?_)
  obtain ⟨v, rfl, e1, q1⟩ := hv
  refine l_m h dL_638 ?_
  refine l_arg (x := 1) h (by decide) (by omega) dL_639 dL_640 dL_641 dL_642 dL_643 ?_
  refine l_call (As := [.int (Γ.xs (j + 1))]) (rest := [.int v]) (id := 35) (ci := 4) h (qX4_air (hM.fc q1.fc).1 ok.1 _) (by decide) (by decide) kcX4_air (mx_in (w := Cond.methodLink R_law 88 yX4_air) 823 (by decide +kernel) rfl) kiX4_air ksX4_air knX4 kyX4_air rfl (by decide) rfl rfl rfl rfl (Nat.le_of_ble_eq_true rfl) dL_644 (fun o υ hv => ?_)
  obtain ⟨v2, rfl, e2, q2⟩ := hv
  obtain rfl := e1.symm.trans e2
  refine l_eq (tgt := 1105) h dL_647 (by decide) ?_
  exact kk _ (SI.q ok hC hM q1 q2)
set_option maxHeartbeats 1000000 in
/-- case 18: start -/
theorem lc_18 (h : LOK Γ) (hS : SI σ) (hj : j + 5 ≤ Γ.L) (kk : ∀ υ, SI υ → LX Γ 1105 j [] υ) : LX Γ 652 j [] σ := by
  obtain ⟨s, ok, hC, hM⟩ := hS
  obtain ⟨n, r, hi, ni, ri, lm, L, rm, R, f⟩ := s
  refine l_x h dL_652 ?_
  refine l_arg (x := 1) h (by decide) (by omega) dL_653 dL_654 dL_655 dL_656 dL_657 ?_
  refine l_arg (x := 2) h (by decide) (by omega) dL_658 dL_659 dL_660 dL_661 dL_662 ?_
  refine l_call (As := [.int (Γ.xs (j + 1)), .int (Γ.xs (j + 2))]) (rest := []) (id := 0) (ci := 3) h (qX3_start hC.1 hC.2.1 ok.1 _ _) (by decide) (by decide) kcX3_start (mx_in (w := Cond.methodLink R_law 89 yX3_start) 444 (by decide +kernel) rfl) kiX3_start ksX3_start knX3 kyX3_start rfl (by decide) rfl rfl rfl rfl (Nat.le_of_ble_eq_true rfl) dL_663 (fun o τ hv => ?_)
  obtain ⟨v, rfl, e1, q1⟩ := hv
  refine l_m h dL_666 ?_
  refine l_arg (x := 1) h (by decide) (by omega) dL_667 dL_668 dL_669 dL_670 dL_671 ?_
  refine l_arg (x := 2) h (by decide) (by omega) dL_672 dL_673 dL_674 dL_675 dL_676 ?_
  refine l_call (As := [.int (Γ.xs (j + 1)), .int (Γ.xs (j + 2))]) (rest := [.int v]) (id := 35) (ci := 4) h (qX4_start (hM.fc q1.fc).1 ok.1 _ _) (by decide) (by decide) kcX4_start (mx_in (w := Cond.methodLink R_law 92 yX4_start) 831 (by decide +kernel) rfl) kiX4_start ksX4_start knX4 kyX4_start rfl (by decide) rfl rfl rfl rfl (Nat.le_of_ble_eq_true rfl) dL_677 (fun o υ hv => ?_)
  obtain ⟨v2, rfl, e2, q2⟩ := hv
  obtain rfl := e1.symm.trans e2
  refine l_eq (tgt := 1105) h dL_680 (by decide) ?_
  exact kk _ (SI.q ok hC hM q1 q2)
set_option maxHeartbeats 1000000 in
/-- case 19: buy -/
theorem lc_19 (h : LOK Γ) (hS : SI σ) (hj : j + 5 ≤ Γ.L) (kk : ∀ υ, SI υ → LX Γ 1105 j [] υ) : LX Γ 685 j [] σ := by
  obtain ⟨s, ok, hC, hM⟩ := hS
  obtain ⟨n, r, hi, ni, ri, lm, L, rm, R, f⟩ := s
  refine l_x h dL_685 ?_
  refine l_arg (x := 1) h (by decide) (by omega) dL_686 dL_687 dL_688 dL_689 dL_690 ?_
  refine l_call (As := [.int (Γ.xs (j + 1))]) (rest := []) (id := 0) (ci := 3) h (qX3_buy hC.1 hC.2.1 ok.1 _) (by decide) (by decide) kcX3_buy (mx_in (w := Cond.methodLink R_law 93 yX3_buy) 448 (by decide +kernel) rfl) kiX3_buy ksX3_buy knX3 kyX3_buy rfl (by decide) rfl rfl rfl rfl (Nat.le_of_ble_eq_true rfl) dL_691 (fun o τ hv => ?_)
  obtain ⟨v, rfl, e1, q1⟩ := hv
  refine l_m h dL_694 ?_
  refine l_arg (x := 1) h (by decide) (by omega) dL_695 dL_696 dL_697 dL_698 dL_699 ?_
  refine l_call (As := [.int (Γ.xs (j + 1))]) (rest := [.int v]) (id := 35) (ci := 4) h (qX4_buy (hM.fc q1.fc).1 ok.1 _) (by decide) (by decide) kcX4_buy (mx_in (w := Cond.methodLink R_law 96 yX4_buy) 835 (by decide +kernel) rfl) kiX4_buy ksX4_buy knX4 kyX4_buy rfl (by decide) rfl rfl rfl rfl (Nat.le_of_ble_eq_true rfl) dL_700 (fun o υ hv => ?_)
  obtain ⟨v2, rfl, e2, q2⟩ := hv
  obtain rfl := e1.symm.trans e2
  refine l_eq (tgt := 1105) h dL_703 (by decide) ?_
  exact kk _ (SI.q ok hC hM q1 q2)
set_option maxHeartbeats 1000000 in
/-- case 20: bestKind -/
theorem lc_20 (h : LOK Γ) (hS : SI σ) (hj : j + 5 ≤ Γ.L) (kk : ∀ υ, SI υ → LX Γ 1105 j [] υ) : LX Γ 708 j [] σ := by
  obtain ⟨s, ok, hC, hM⟩ := hS
  obtain ⟨n, r, hi, ni, ri, lm, L, rm, R, f⟩ := s
  refine l_x h dL_708 ?_
  refine l_arg (x := 1) h (by decide) (by omega) dL_709 dL_710 dL_711 dL_712 dL_713 ?_
  refine l_arg (x := 2) h (by decide) (by omega) dL_714 dL_715 dL_716 dL_717 dL_718 ?_
  refine l_call (As := [.int (Γ.xs (j + 1)), .int (Γ.xs (j + 2))]) (rest := []) (id := 0) (ci := 3) h (qX3_bestKind hC.1 hC.2.1 ok.1 _ _) (by decide) (by decide) kcX3_bestKind (mx_in (w := Cond.methodLink R_law 97 yX3_bestKind) 452 (by decide +kernel) rfl) kiX3_bestKind ksX3_bestKind knX3 kyX3_bestKind rfl (by decide) rfl rfl rfl rfl (Nat.le_of_ble_eq_true rfl) dL_719 (fun o τ hv => ?_)
  obtain ⟨v, rfl, e1, q1⟩ := hv
  refine l_m h dL_722 ?_
  refine l_arg (x := 1) h (by decide) (by omega) dL_723 dL_724 dL_725 dL_726 dL_727 ?_
  refine l_arg (x := 2) h (by decide) (by omega) dL_728 dL_729 dL_730 dL_731 dL_732 ?_
  refine l_call (As := [.int (Γ.xs (j + 1)), .int (Γ.xs (j + 2))]) (rest := [.int v]) (id := 35) (ci := 4) h (qX4_bestKind (hM.fc q1.fc).1 ok.1 _ _) (by decide) (by decide) kcX4_bestKind (mx_in (w := Cond.methodLink R_law 100 yX4_bestKind) 839 (by decide +kernel) rfl) kiX4_bestKind ksX4_bestKind knX4 kyX4_bestKind rfl (by decide) rfl rfl rfl rfl (Nat.le_of_ble_eq_true rfl) dL_733 (fun o υ hv => ?_)
  obtain ⟨v2, rfl, e2, q2⟩ := hv
  obtain rfl := e1.symm.trans e2
  refine l_eq (tgt := 1105) h dL_736 (by decide) ?_
  exact kk _ (SI.q ok hC hM q1 q2)
set_option maxHeartbeats 1000000 in
/-- case 21: spare -/
theorem lc_21 (h : LOK Γ) (hS : SI σ) (hj : j + 5 ≤ Γ.L) (kk : ∀ υ, SI υ → LX Γ 1105 j [] υ) : LX Γ 741 j [] σ := by
  obtain ⟨s, ok, hC, hM⟩ := hS
  obtain ⟨n, r, hi, ni, ri, lm, L, rm, R, f⟩ := s
  refine l_x h dL_741 ?_
  refine l_arg (x := 1) h (by decide) (by omega) dL_742 dL_743 dL_744 dL_745 dL_746 ?_
  refine l_call (As := [.int (Γ.xs (j + 1))]) (rest := []) (id := 0) (ci := 3) h (qX3_spare hC.1 hC.2.1 ok.1 _) (by decide) (by decide) kcX3_spare (mx_in (w := Cond.methodLink R_law 101 yX3_spare) 456 (by decide +kernel) rfl) kiX3_spare ksX3_spare knX3 kyX3_spare rfl (by decide) rfl rfl rfl rfl (Nat.le_of_ble_eq_true rfl) dL_747 (fun o τ hv => ?_)
  obtain ⟨v, rfl, e1, q1⟩ := hv
  refine l_m h dL_750 ?_
  refine l_arg (x := 1) h (by decide) (by omega) dL_751 dL_752 dL_753 dL_754 dL_755 ?_
  refine l_call (As := [.int (Γ.xs (j + 1))]) (rest := [.int v]) (id := 35) (ci := 4) h (qX4_spare (hM.fc q1.fc).1 ok.1 _) (by decide) (by decide) kcX4_spare (mx_in (w := Cond.methodLink R_law 104 yX4_spare) 843 (by decide +kernel) rfl) kiX4_spare ksX4_spare knX4 kyX4_spare rfl (by decide) rfl rfl rfl rfl (Nat.le_of_ble_eq_true rfl) dL_756 (fun o υ hv => ?_)
  obtain ⟨v2, rfl, e2, q2⟩ := hv
  obtain rfl := e1.symm.trans e2
  refine l_eq (tgt := 1105) h dL_759 (by decide) ?_
  exact kk _ (SI.q ok hC hM q1 q2)
set_option maxHeartbeats 1000000 in
/-- case 22: next -/
theorem lc_22 (h : LOK Γ) (hS : SI σ) (hj : j + 5 ≤ Γ.L) (kk : ∀ υ, SI υ → LX Γ 1105 j [] υ) : LX Γ 764 j [] σ := by
  obtain ⟨s, ok, hC, hM⟩ := hS
  obtain ⟨n, r, hi, ni, ri, lm, L, rm, R, f⟩ := s
  refine l_x h dL_764 ?_
  refine l_arg (x := 1) h (by decide) (by omega) dL_765 dL_766 dL_767 dL_768 dL_769 ?_
  refine l_call (As := [.int (Γ.xs (j + 1))]) (rest := []) (id := 0) (ci := 3) h (qX3_next hC.1 hC.2.1 ok.1 _) (by decide) (by decide) kcX3_next (mx_in (w := Cond.methodLink R_law 105 yX3_next) 477 (by decide +kernel) rfl) kiX3_next ksX3_next knX3 kyX3_next rfl (by decide) rfl rfl rfl rfl (Nat.le_of_ble_eq_true rfl) dL_770 (fun o τ hv => ?_)
  obtain ⟨v, rfl, e1, q1⟩ := hv
  refine l_m h dL_773 ?_
  refine l_arg (x := 1) h (by decide) (by omega) dL_774 dL_775 dL_776 dL_777 dL_778 ?_
  refine l_call (As := [.int (Γ.xs (j + 1))]) (rest := [.int v]) (id := 35) (ci := 4) h (qX4_next (hM.fc q1.fc).1 ok.1 _) (by decide) (by decide) kcX4_next (mx_in (w := Cond.methodLink R_law 108 yX4_next) 859 (by decide +kernel) rfl) kiX4_next ksX4_next knX4 kyX4_next rfl (by decide) rfl rfl rfl rfl (Nat.le_of_ble_eq_true rfl) dL_779 (fun o υ hv => ?_)
  obtain ⟨v2, rfl, e2, q2⟩ := hv
  obtain rfl := e1.symm.trans e2
  refine l_eq (tgt := 1105) h dL_782 (by decide) ?_
  exact kk _ (SI.q ok hC hM q1 q2)
set_option maxHeartbeats 1000000 in
/-- case 23: run -/
theorem lc_23 (h : LOK Γ) (hS : SI σ) (hj : j + 5 ≤ Γ.L) (kk : ∀ υ, SI υ → LX Γ 1105 j [] υ) : LX Γ 787 j [] σ := by
  obtain ⟨s, ok, hC, hM⟩ := hS
  obtain ⟨n, r, hi, ni, ri, lm, L, rm, R, f⟩ := s
  refine l_x h dL_787 ?_
  refine l_arg (x := 1) h (by decide) (by omega) dL_788 dL_789 dL_790 dL_791 dL_792 ?_
  refine l_call (As := [.int (Γ.xs (j + 1))]) (rest := []) (id := 0) (ci := 3) h (qX3_run hC.1 hC.2.1 ok.1 _) (by decide) (by decide) kcX3_run (mx_in (w := Cond.methodLink R_law 109 yX3_run) 482 (by decide +kernel) rfl) kiX3_run ksX3_run knX3 kyX3_run rfl (by decide) rfl rfl rfl rfl (Nat.le_of_ble_eq_true rfl) dL_793 (fun o τ hv => ?_)
  obtain ⟨v, rfl, e1, q1⟩ := hv
  refine l_m h dL_796 ?_
  refine l_arg (x := 1) h (by decide) (by omega) dL_797 dL_798 dL_799 dL_800 dL_801 ?_
  refine l_call (As := [.int (Γ.xs (j + 1))]) (rest := [.int v]) (id := 35) (ci := 4) h (qX4_run (hM.fc q1.fc).1 ok.1 _) (by decide) (by decide) kcX4_run (mx_in (w := Cond.methodLink R_law 112 yX4_run) 863 (by decide +kernel) rfl) kiX4_run ksX4_run knX4 kyX4_run rfl (by decide) rfl rfl rfl rfl (Nat.le_of_ble_eq_true rfl) dL_802 (fun o υ hv => ?_)
  obtain ⟨v2, rfl, e2, q2⟩ := hv
  obtain rfl := e1.symm.trans e2
  refine l_eq (tgt := 1105) h dL_805 (by decide) ?_
  exact kk _ (SI.q ok hC hM q1 q2)
set_option maxHeartbeats 1000000 in
/-- case 24: two -/
theorem lc_24 (h : LOK Γ) (hS : SI σ) (hj : j + 5 ≤ Γ.L) (kk : ∀ υ, SI υ → LX Γ 1105 j [] υ) : LX Γ 810 j [] σ := by
  obtain ⟨s, ok, hC, hM⟩ := hS
  obtain ⟨n, r, hi, ni, ri, lm, L, rm, R, f⟩ := s
  refine l_x h dL_810 ?_
  refine l_arg (x := 1) h (by decide) (by omega) dL_811 dL_812 dL_813 dL_814 dL_815 ?_
  refine l_arg (x := 2) h (by decide) (by omega) dL_816 dL_817 dL_818 dL_819 dL_820 ?_
  refine l_arg (x := 3) h (by decide) (by omega) dL_821 dL_822 dL_823 dL_824 dL_825 ?_
  refine l_call (As := [.int (Γ.xs (j + 1)), .int (Γ.xs (j + 2)), .int (Γ.xs (j + 3))]) (rest := []) (id := 0) (ci := 3) h (qX3_two hC.1 hC.2.1 ok.1 _ _ _) (by decide) (by decide) kcX3_two (mx_in (w := Cond.methodLink R_law 113 yX3_two) 500 (by decide +kernel) rfl) kiX3_two ksX3_two knX3 kyX3_two rfl (by decide) rfl rfl rfl rfl (Nat.le_of_ble_eq_true rfl) dL_826 (fun o τ hv => ?_)
  obtain ⟨v, rfl, e1, q1⟩ := hv
  refine l_m h dL_829 ?_
  refine l_arg (x := 1) h (by decide) (by omega) dL_830 dL_831 dL_832 dL_833 dL_834 ?_
  refine l_arg (x := 2) h (by decide) (by omega) dL_835 dL_836 dL_837 dL_838 dL_839 ?_
  refine l_arg (x := 3) h (by decide) (by omega) dL_840 dL_841 dL_842 dL_843 dL_844 ?_
  refine l_call (As := [.int (Γ.xs (j + 1)), .int (Γ.xs (j + 2)), .int (Γ.xs (j + 3))]) (rest := [.int v]) (id := 35) (ci := 4) h (qX4_two (hM.fc q1.fc).1 ok.1 _ _ _) (by decide) (by decide) kcX4_two (mx_in (w := Cond.methodLink R_law 116 yX4_two) 871 (by decide +kernel) rfl) kiX4_two ksX4_two knX4 kyX4_two rfl (by decide) rfl rfl rfl rfl (Nat.le_of_ble_eq_true rfl) dL_845 (fun o υ hv => ?_)
  obtain ⟨v2, rfl, e2, q2⟩ := hv
  obtain rfl := e1.symm.trans e2
  refine l_eq (tgt := 1105) h dL_848 (by decide) ?_
  exact kk _ (SI.q ok hC hM q1 q2)
set_option maxHeartbeats 1000000 in
/-- case 25: guest -/
theorem lc_25 (h : LOK Γ) (hS : SI σ) (hj : j + 5 ≤ Γ.L) (kk : ∀ υ, SI υ → LX Γ 1105 j [] υ) : LX Γ 853 j [] σ := by
  obtain ⟨s, ok, hC, hM⟩ := hS
  obtain ⟨n, r, hi, ni, ri, lm, L, rm, R, f⟩ := s
  refine l_x h dL_853 ?_
  refine l_arg (x := 1) h (by decide) (by omega) dL_854 dL_855 dL_856 dL_857 dL_858 ?_
  refine l_arg (x := 2) h (by decide) (by omega) dL_859 dL_860 dL_861 dL_862 dL_863 ?_
  refine l_arg (x := 3) h (by decide) (by omega) dL_864 dL_865 dL_866 dL_867 dL_868 ?_
  refine l_arg (x := 4) h (by decide) (by omega) dL_869 dL_870 dL_871 dL_872 dL_873 ?_
  refine l_call (As := [.int (Γ.xs (j + 1)), .int (Γ.xs (j + 2)), .int (Γ.xs (j + 3)), .int (Γ.xs (j + 4))]) (rest := []) (id := 0) (ci := 3) h (qX3_guest hC.1 hC.2.1 ok.1 _ _ _ _) (by decide) (by decide) kcX3_guest (mx_in (w := Cond.methodLink R_law 117 yX3_guest) 512 (by decide +kernel) rfl) kiX3_guest ksX3_guest knX3 kyX3_guest rfl (by decide) rfl rfl rfl rfl (Nat.le_of_ble_eq_true rfl) dL_874 (fun o τ hv => ?_)
  obtain ⟨v, rfl, e1, q1⟩ := hv
  refine l_m h dL_877 ?_
  refine l_arg (x := 1) h (by decide) (by omega) dL_878 dL_879 dL_880 dL_881 dL_882 ?_
  refine l_arg (x := 2) h (by decide) (by omega) dL_883 dL_884 dL_885 dL_886 dL_887 ?_
  refine l_arg (x := 3) h (by decide) (by omega) dL_888 dL_889 dL_890 dL_891 dL_892 ?_
  refine l_arg (x := 4) h (by decide) (by omega) dL_893 dL_894 dL_895 dL_896 dL_897 ?_
  refine l_call (As := [.int (Γ.xs (j + 1)), .int (Γ.xs (j + 2)), .int (Γ.xs (j + 3)), .int (Γ.xs (j + 4))]) (rest := [.long v]) (id := 35) (ci := 4) h (qX4_guest (hM.fc q1.fc).1 ok.1 _ _ _ _) (by decide) (by decide) kcX4_guest (mx_in (w := Cond.methodLink R_law 121 yX4_guest) 883 (by decide +kernel) rfl) kiX4_guest ksX4_guest knX4 kyX4_guest rfl (by decide) rfl rfl rfl rfl (Nat.le_of_ble_eq_true rfl) dL_898 (fun o υ hv => ?_)
  obtain ⟨v2, rfl, e2, q2⟩ := hv
  obtain rfl := e1.symm.trans e2
  refine l_eqL (tgt := 1105) h dL_901 dL_902 (by decide) ?_
  exact kk _ (SI.q ok hC hM q1 q2)
set_option maxHeartbeats 1000000 in
/-- case 26: mean -/
theorem lc_26 (h : LOK Γ) (hS : SI σ) (hj : j + 5 ≤ Γ.L) (kk : ∀ υ, SI υ → LX Γ 1105 j [] υ) : LX Γ 907 j [] σ := by
  obtain ⟨s, ok, hC, hM⟩ := hS
  obtain ⟨n, r, hi, ni, ri, lm, L, rm, R, f⟩ := s
  refine l_x h dL_907 ?_
  refine l_arg (x := 1) h (by decide) (by omega) dL_908 dL_909 dL_910 dL_911 dL_912 ?_
  refine l_call (As := [.int (Γ.xs (j + 1))]) (rest := []) (id := 0) (ci := 3) h (qX3_mean hC.1 hC.2.1 ok.1 _) (by decide) (by decide) kcX3_mean (mx_in (w := Cond.methodLink R_law 122 yX3_mean) 535 (by decide +kernel) rfl) kiX3_mean ksX3_mean knX3 kyX3_mean rfl (by decide) rfl rfl rfl rfl (Nat.le_of_ble_eq_true rfl) dL_913 (fun o τ hv => ?_)
  obtain ⟨v, rfl, e1, q1⟩ := hv
  refine l_m h dL_916 ?_
  refine l_arg (x := 1) h (by decide) (by omega) dL_917 dL_918 dL_919 dL_920 dL_921 ?_
  refine l_call (As := [.int (Γ.xs (j + 1))]) (rest := [.long v]) (id := 35) (ci := 4) h (qX4_mean (hM.fc q1.fc).1 ok.1 _) (by decide) (by decide) kcX4_mean (mx_in (w := Cond.methodLink R_law 126 yX4_mean) 898 (by decide +kernel) rfl) kiX4_mean ksX4_mean knX4 kyX4_mean rfl (by decide) rfl rfl rfl rfl (Nat.le_of_ble_eq_true rfl) dL_922 (fun o υ hv => ?_)
  obtain ⟨v2, rfl, e2, q2⟩ := hv
  obtain rfl := e1.symm.trans e2
  refine l_eqL (tgt := 1105) h dL_925 dL_926 (by decide) ?_
  exact kk _ (SI.q ok hC hM q1 q2)
set_option maxHeartbeats 1000000 in
/-- case 27: whatIs -/
theorem lc_27 (h : LOK Γ) (hS : SI σ) (hj : j + 5 ≤ Γ.L) (kk : ∀ υ, SI υ → LX Γ 1105 j [] υ) : LX Γ 931 j [] σ := by
  obtain ⟨s, ok, hC, hM⟩ := hS
  obtain ⟨n, r, hi, ni, ri, lm, L, rm, R, f⟩ := s
  refine l_x h dL_931 ?_
  refine l_arg (x := 1) h (by decide) (by omega) dL_932 dL_933 dL_934 dL_935 dL_936 ?_
  refine l_arg (x := 2) h (by decide) (by omega) dL_937 dL_938 dL_939 dL_940 dL_941 ?_
  obtain ⟨b1, b2, b3, b4, b5, b6, b7, b8, b9⟩ := id hC
  refine l_call (As := [.int (Γ.xs (j + 1)), .int (Γ.xs (j + 2))]) (rest := []) (id := 0) (ci := 3) h (qX3_whatIs b1 b2 ok.1 R rm ok.2.2.2.2 b7 b8 _ _) (by decide) (by decide) kcX3_whatIs (mx_in (w := Cond.methodLink R_law 127 yX3_whatIs) 544 (by decide +kernel) rfl) kiX3_whatIs ksX3_whatIs knX3 kyX3_whatIs rfl (by decide) rfl rfl rfl rfl (Nat.le_of_ble_eq_true rfl) dL_942 (fun o τ hv => ?_)
  obtain ⟨v, rfl, e1, q1⟩ := hv
  obtain ⟨m1, m2, m3, m4, m5, m6, m7, m8⟩ := hM.fc q1.fc
  refine l_m h dL_945 ?_
  refine l_arg (x := 1) h (by decide) (by omega) dL_946 dL_947 dL_948 dL_949 dL_950 ?_
  refine l_arg (x := 2) h (by decide) (by omega) dL_951 dL_952 dL_953 dL_954 dL_955 ?_
  refine l_call (As := [.int (Γ.xs (j + 1)), .int (Γ.xs (j + 2))]) (rest := [.int v]) (id := 35) (ci := 4) h (qX4_whatIs m1 ok.1 R rm ok.2.2.2.2 m6 m7 _ _) (by decide) (by decide) kcX4_whatIs (mx_in (w := Cond.methodLink R_law 130 yX4_whatIs) 905 (by decide +kernel) rfl) kiX4_whatIs ksX4_whatIs knX4 kyX4_whatIs rfl (by decide) rfl rfl rfl rfl (Nat.le_of_ble_eq_true rfl) dL_956 (fun o υ hv => ?_)
  obtain ⟨v2, rfl, e2, q2⟩ := hv
  obtain rfl := e1.symm.trans e2
  refine l_eq (tgt := 1105) h dL_959 (by decide) ?_
  exact kk _ (SI.q ok hC hM q1 q2)
set_option maxHeartbeats 1000000 in
/-- case 28: row -/
theorem lc_28 (h : LOK Γ) (hS : SI σ) (hj : j + 5 ≤ Γ.L) (kk : ∀ υ, SI υ → LX Γ 1105 j [] υ) : LX Γ 964 j [] σ := by
  obtain ⟨s, ok, hC, hM⟩ := hS
  obtain ⟨n, r, hi, ni, ri, lm, L, rm, R, f⟩ := s
  refine l_x h dL_964 ?_
  refine l_arg (x := 1) h (by decide) (by omega) dL_965 dL_966 dL_967 dL_968 dL_969 ?_
  refine l_call (As := [.int (Γ.xs (j + 1))]) (rest := []) (id := 0) (ci := 3) h (qX3_row hC ok _) (by decide) (by decide) kcX3_row (mx_in (w := Cond.methodLink R_law 131 yX3_row) 552 (by decide +kernel) rfl) kiX3_row ksX3_row knX3 kyX3_row rfl (by decide) rfl rfl rfl rfl (Nat.le_of_ble_eq_true rfl) dL_970 (fun o τ hv => ?_)
  obtain ⟨v, rfl, e1, c1, g1⟩ := hv
  refine l_m h dL_973 ?_
  refine l_arg (x := 1) h (by decide) (by omega) dL_974 dL_975 dL_976 dL_977 dL_978 ?_
  refine l_call (As := [.int (Γ.xs (j + 1))]) (rest := [.int v]) (id := 35) (ci := 4) h (qX4_row (hM.fc g1) ok _) (by decide) (by decide) kcX4_row (mx_in (w := Cond.methodLink R_law 134 yX4_row) 909 (by decide +kernel) rfl) kiX4_row ksX4_row knX4 kyX4_row rfl (by decide) rfl rfl rfl rfl (Nat.le_of_ble_eq_true rfl) dL_979 (fun o υ hv => ?_)
  obtain ⟨v2, rfl, e2, c2, g2⟩ := hv
  obtain rfl := e1.symm.trans e2
  refine l_eq (tgt := 1105) h dL_982 (by decide) ?_
  exact kk _ (SI.a (oka_row ok) c1 c2 g2)
set_option maxHeartbeats 1000000 in
/-- case 29: judge -/
theorem lc_29 (h : LOK Γ) (hS : SI σ) (hj : j + 5 ≤ Γ.L) (kk : ∀ υ, SI υ → LX Γ 1105 j [] υ) : LX Γ 987 j [] σ := by
  obtain ⟨s, ok, hC, hM⟩ := hS
  obtain ⟨n, r, hi, ni, ri, lm, L, rm, R, f⟩ := s
  refine l_x h dL_987 ?_
  refine l_call (As := []) (rest := []) (id := 0) (ci := 3) h (qX3_judge hC ok ) (by decide) (by decide) kcX3_judge (mx_in (w := Cond.methodLink R_law 135 yX3_judge) 556 (by decide +kernel) rfl) kiX3_judge ksX3_judge knX3 kyX3_judge rfl (by decide) rfl rfl rfl rfl (Nat.le_of_ble_eq_true rfl) dL_988 (fun o τ hv => ?_)
  obtain ⟨v, rfl, e1, c1, g1⟩ := hv
  refine l_m h dL_991 ?_
  refine l_call (As := []) (rest := [.int v]) (id := 35) (ci := 4) h (qX4_judge (hM.fc g1) ok ) (by decide) (by decide) kcX4_judge (mx_in (w := Cond.methodLink R_law 138 yX4_judge) 913 (by decide +kernel) rfl) kiX4_judge ksX4_judge knX4 kyX4_judge rfl (by decide) rfl rfl rfl rfl (Nat.le_of_ble_eq_true rfl) dL_992 (fun o υ hv => ?_)
  obtain ⟨v2, rfl, e2, c2, g2⟩ := hv
  obtain rfl := e1.symm.trans e2
  refine l_eq (tgt := 1105) h dL_995 (by decide) ?_
  exact kk _ (SI.a (oka_judge ok) c1 c2 g2)
set_option maxHeartbeats 1000000 in
/-- case 30: clear -/
theorem lc_30 (h : LOK Γ) (hS : SI σ) (hj : j + 5 ≤ Γ.L) (kk : ∀ υ, SI υ → LX Γ 1105 j [] υ) : LX Γ 1000 j [] σ := by
  obtain ⟨s, ok, hC, hM⟩ := hS
  obtain ⟨n, r, hi, ni, ri, lm, L, rm, R, f⟩ := s
  refine l_x h dL_1000 ?_
  refine l_call (As := []) (rest := []) (id := 0) (ci := 3) h (qX3_clear hC ok ) (by decide) (by decide) kcX3_clear (mx_in (w := Cond.methodLink R_law 139 yX3_clear) 560 (by decide +kernel) rfl) kiX3_clear ksX3_clear knX3 kyX3_clear rfl (by decide) rfl rfl rfl rfl (Nat.le_of_ble_eq_true rfl) dL_1001 (fun o τ hv => ?_)
  obtain ⟨v, rfl, e1, c1, g1⟩ := hv
  refine l_m h dL_1004 ?_
  refine l_call (As := []) (rest := [.int v]) (id := 35) (ci := 4) h (qX4_clear (hM.fc g1) ok ) (by decide) (by decide) kcX4_clear (mx_in (w := Cond.methodLink R_law 142 yX4_clear) 917 (by decide +kernel) rfl) kiX4_clear ksX4_clear knX4 kyX4_clear rfl (by decide) rfl rfl rfl rfl (Nat.le_of_ble_eq_true rfl) dL_1005 (fun o υ hv => ?_)
  obtain ⟨v2, rfl, e2, c2, g2⟩ := hv
  obtain rfl := e1.symm.trans e2
  refine l_eq (tgt := 1105) h dL_1008 (by decide) ?_
  exact kk _ (SI.a (oka_clear ok) c1 c2 g2)
set_option maxHeartbeats 1000000 in
/-- case 31: lots -/
theorem lc_31 (h : LOK Γ) (hS : SI σ) (hj : j + 5 ≤ Γ.L) (kk : ∀ υ, SI υ → LX Γ 1105 j [] υ) : LX Γ 1013 j [] σ := by
  obtain ⟨s, ok, hC, hM⟩ := hS
  obtain ⟨n, r, hi, ni, ri, lm, L, rm, R, f⟩ := s
  refine l_x h dL_1013 ?_
  refine l_arg (x := 1) h (by decide) (by omega) dL_1014 dL_1015 dL_1016 dL_1017 dL_1018 ?_
  refine l_arg (x := 2) h (by decide) (by omega) dL_1019 dL_1020 dL_1021 dL_1022 dL_1023 ?_
  refine l_arg (x := 3) h (by decide) (by omega) dL_1024 dL_1025 dL_1026 dL_1027 dL_1028 ?_
  refine l_call (As := [.int (Γ.xs (j + 1)), .int (Γ.xs (j + 2)), .int (Γ.xs (j + 3))]) (rest := []) (id := 0) (ci := 3) h (qX3_lots hC.1 hC.2.1 ok.1 _ _ _) (by decide) (by decide) kcX3_lots (mx_in (w := Cond.methodLink R_law 143 yX3_lots) 564 (by decide +kernel) rfl) kiX3_lots ksX3_lots knX3 kyX3_lots rfl (by decide) rfl rfl rfl rfl (Nat.le_of_ble_eq_true rfl) dL_1029 (fun o τ hv => ?_)
  obtain ⟨v, rfl, e1, q1⟩ := hv
  refine l_m h dL_1032 ?_
  refine l_arg (x := 1) h (by decide) (by omega) dL_1033 dL_1034 dL_1035 dL_1036 dL_1037 ?_
  refine l_arg (x := 2) h (by decide) (by omega) dL_1038 dL_1039 dL_1040 dL_1041 dL_1042 ?_
  refine l_arg (x := 3) h (by decide) (by omega) dL_1043 dL_1044 dL_1045 dL_1046 dL_1047 ?_
  refine l_call (As := [.int (Γ.xs (j + 1)), .int (Γ.xs (j + 2)), .int (Γ.xs (j + 3))]) (rest := [.int v]) (id := 35) (ci := 4) h (qX4_lots (hM.fc q1.fc).1 ok.1 _ _ _) (by decide) (by decide) kcX4_lots (mx_in (w := Cond.methodLink R_law 146 yX4_lots) 921 (by decide +kernel) rfl) kiX4_lots ksX4_lots knX4 kyX4_lots rfl (by decide) rfl rfl rfl rfl (Nat.le_of_ble_eq_true rfl) dL_1048 (fun o υ hv => ?_)
  obtain ⟨v2, rfl, e2, q2⟩ := hv
  obtain rfl := e1.symm.trans e2
  refine l_eq (tgt := 1105) h dL_1051 (by decide) ?_
  exact kk _ (SI.q ok hC hM q1 q2)
set_option maxHeartbeats 1000000 in
/-- case 32: image -/
theorem lc_32 (h : LOK Γ) (hS : SI σ) (hj : j + 5 ≤ Γ.L) (kk : ∀ υ, SI υ → LX Γ 1105 j [] υ) : LX Γ 1056 j [] σ := by
  obtain ⟨s, ok, hC, hM⟩ := hS
  obtain ⟨n, r, hi, ni, ri, lm, L, rm, R, f⟩ := s
  refine l_x h dL_1056 ?_
  refine l_call (As := []) (rest := []) (id := 0) (ci := 3) h (qX3_image hC ok ) (by decide) (by decide) kcX3_image (mx_in (w := Cond.methodLink R_law 147 yX3_image) 575 (by decide +kernel) rfl) kiX3_image ksX3_image knX3 kyX3_image rfl (by decide) rfl rfl rfl rfl (Nat.le_of_ble_eq_true rfl) dL_1057 (fun o τ hv => ?_)
  obtain ⟨v, rfl, e1, c1, g1⟩ := hv
  refine l_m h dL_1060 ?_
  refine l_call (As := []) (rest := [.int v]) (id := 35) (ci := 4) h (qX4_image (hM.fc g1) ok ) (by decide) (by decide) kcX4_image (mx_in (w := Cond.methodLink R_law 150 yX4_image) 932 (by decide +kernel) rfl) kiX4_image ksX4_image knX4 kyX4_image rfl (by decide) rfl rfl rfl rfl (Nat.le_of_ble_eq_true rfl) dL_1061 (fun o υ hv => ?_)
  obtain ⟨v2, rfl, e2, c2, g2⟩ := hv
  obtain rfl := e1.symm.trans e2
  refine l_eq (tgt := 1105) h dL_1064 (by decide) ?_
  exact kk _ (SI.a (oka_image ok) c1 c2 g2)
set_option maxHeartbeats 1000000 in
/-- case 33: on -/
theorem lc_33 (h : LOK Γ) (hS : SI σ) (hj : j + 5 ≤ Γ.L) (kk : ∀ υ, SI υ → LX Γ 1105 j [] υ) : LX Γ 1069 j [] σ := by
  obtain ⟨s, ok, hC, hM⟩ := hS
  obtain ⟨n, r, hi, ni, ri, lm, L, rm, R, f⟩ := s
  refine l_x h dL_1069 ?_
  refine l_call (As := []) (rest := []) (id := 0) (ci := 3) h (qX3_on hC ok ) (by decide) (by decide) kcX3_on (mx_in (w := Cond.methodLink R_law 151 yX3_on) 579 (by decide +kernel) rfl) kiX3_on ksX3_on knX3 kyX3_on rfl (by decide) rfl rfl rfl rfl (Nat.le_of_ble_eq_true rfl) dL_1070 (fun o τ hv => ?_)
  obtain ⟨v, rfl, e1, c1, g1⟩ := hv
  refine l_m h dL_1073 ?_
  refine l_call (As := []) (rest := [.int v]) (id := 35) (ci := 4) h (qX4_on (hM.fc g1) ok ) (by decide) (by decide) kcX4_on (mx_in (w := Cond.methodLink R_law 154 yX4_on) 936 (by decide +kernel) rfl) kiX4_on ksX4_on knX4 kyX4_on rfl (by decide) rfl rfl rfl rfl (Nat.le_of_ble_eq_true rfl) dL_1074 (fun o υ hv => ?_)
  obtain ⟨v2, rfl, e2, c2, g2⟩ := hv
  obtain rfl := e1.symm.trans e2
  refine l_eq (tgt := 1105) h dL_1077 (by decide) ?_
  exact kk _ (SI.a (oka_on ok) c1 c2 g2)
set_option maxHeartbeats 1000000 in
/-- case 34: count -/
theorem lc_34 (h : LOK Γ) (hS : SI σ) (hj : j + 5 ≤ Γ.L) (kk : ∀ υ, SI υ → LX Γ 1105 j [] υ) : LX Γ 1082 j [] σ := by
  obtain ⟨s, ok, hC, hM⟩ := hS
  obtain ⟨n, r, hi, ni, ri, lm, L, rm, R, f⟩ := s
  refine l_x h dL_1082 ?_
  refine l_arg (x := 1) h (by decide) (by omega) dL_1083 dL_1084 dL_1085 dL_1086 dL_1087 ?_
  obtain ⟨b1, b2, b3, b4, b5, b6, b7, b8, b9⟩ := id hC
  refine l_call (As := [.int (Γ.xs (j + 1))]) (rest := []) (id := 0) (ci := 3) h (qX3_count b1 b2 ok.1 rm lm b7 b5 f b9 _) (by decide) (by decide) kcX3_count (mx_in (w := Cond.methodLink R_law 155 yX3_count) 583 (by decide +kernel) rfl) kiX3_count ksX3_count knX3 kyX3_count rfl (by decide) rfl rfl rfl rfl (Nat.le_of_ble_eq_true rfl) dL_1088 (fun o τ hv => ?_)
  obtain ⟨v, rfl, e1, rfl⟩ := hv
  obtain ⟨m1, m2, m3, m4, m5, m6, m7, m8⟩ := id hM
  refine l_m h dL_1091 ?_
  refine l_arg (x := 1) h (by decide) (by omega) dL_1092 dL_1093 dL_1094 dL_1095 dL_1096 ?_
  refine l_call (As := [.int (Γ.xs (j + 1))]) (rest := [.int v]) (id := 35) (ci := 4) h (qX4_count m1 ok.1 rm lm m6 m4 f m8 _) (by decide) (by decide) kcX4_count (mx_in (w := Cond.methodLink R_law 158 yX4_count) 940 (by decide +kernel) rfl) kiX4_count ksX4_count knX4 kyX4_count rfl (by decide) rfl rfl rfl rfl (Nat.le_of_ble_eq_true rfl) dL_1097 (fun o υ hv => ?_)
  obtain ⟨v2, rfl, e2, rfl⟩ := hv
  obtain rfl := e1.symm.trans e2
  refine l_eq (tgt := 1105) h dL_1100 (by decide) ?_
  exact kk _ (⟨_, ok, hC, hM⟩)
end LAWC
