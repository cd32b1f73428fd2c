/-! the law's 36 cases -/
section LROWS
variable {g : GC} {p : Program} {e : Env} {s : State} {m : MethodId} {below : List Frame} {meth : Method} {c : Code} {b L : Nat} {xs : Nat → Int32} {sh : SH} {S : SS} {n k u : Nat} {i q cc : Int} {F : ZF} {P : ZP} {V : ZV} {T : ZT} {H : ZH}
def LK (g : GC) (p : Program) (e : Env) (s : State) (m : MethodId) (below : List Frame) (meth : Method) (c : Code) (b : Nat) (i q : Int) (k u : Nat) : Prop := ∀ (sh' : SH) (S' : SS) (n' k' u' : Nat), k' ≤ k + 2 ∧ u' ≤ u + 36 → INV q n' sh' S' → LG g p e s m below meth c b 1486 (lsL g b i) [] (hp g sh' S') n' k' u'
set_option maxHeartbeats 4000000 in
theorem cs_put (X : LX g p s m meth c b L xs) (hi : 1 ≤ i ∧ i + 5 < L) (hI : INV2 q n sh S (F, P, V, T, H, cc) (F, P, V, T, H, cc)) (hcs : k + 2 ≤ 600000 ∧ u + 36 ≤ 7302250) (K : LK g p e s m below meth c b i q k u) : LG g p e s m below meth c b 200 (lsL g b i) [] (hp g sh S) n k u := by
  refine LG_aload X dL_law_200 rfl ?_
  refine LG_arg X dL_law_201 dL_law_202 dL_law_203 dL_law_204 dL_law_205 hi (by decide) ?_
  refine LG_arg X dL_law_206 dL_law_207 dL_law_208 dL_law_209 dL_law_210 hi (by decide) ?_
  refine LG_arg X dL_law_211 dL_law_212 dL_law_213 dL_law_214 dL_law_215 hi (by decide) ?_
  refine LG_callV (As := [.int (iI (zs xs (i + 1))), .int (iI (zs xs (i + 2))), .int (iI (zs xs (i + 3)))]) (rest := []) (ci := 9) (np := 3) X dL_law_216 kX9_put lkL_21 (I_s0 hI) rfl rfl rfl (Nat.le_of_ble_eq_true rfl) ⟨Nat.le_of_ble_eq_true rfl, Nat.le_of_ble_eq_true rfl⟩ (mc2 := 0) (ms2 := 0) (d2 := 3) (by omega) ?_
  refine pr_put hI zs_bd zs_bd zs_bd _ (fun r sh1 S1 n1 h96 hM => ?_)
  show LG g p e s m below meth c b 219 (lsL g b i) [.int (iI r)] (hp g sh1 S1) n1 (k + 0) (u + 0)
  refine LG_aload X dL_law_219 rfl ?_
  refine LG_arg X dL_law_220 dL_law_221 dL_law_222 dL_law_223 dL_law_224 hi (by decide) ?_
  refine LG_arg X dL_law_225 dL_law_226 dL_law_227 dL_law_228 dL_law_229 hi (by decide) ?_
  refine LG_arg X dL_law_230 dL_law_231 dL_law_232 dL_law_233 dL_law_234 hi (by decide) ?_
  refine LG_callV (As := [.int (iI (zs xs (i + 1))), .int (iI (zs xs (i + 2))), .int (iI (zs xs (i + 3)))]) (rest := [.int (iI r)]) (ci := 10) (np := 3) X dL_law_235 kX10_put lkL_25 h96 rfl rfl rfl (Nat.le_of_ble_eq_true rfl) ⟨Nat.le_of_ble_eq_true rfl, Nat.le_of_ble_eq_true rfl⟩ (mc2 := 0) (ms2 := 0) (d2 := 3) (by omega) ?_
  refine hM _ (fun S2 hI2 => ?_)
  show LG g p e s m below meth c b 238 (lsL g b i) [.int (iI r), .int (iI r)] (hp g sh1 S2) n1 (k + 0 + 0) (u + 0 + 0)
  refine LG_same 1486 X dL_law_238 (by decide) ?_
  exact K sh1 S2 n1 _ _ (by omega) hI2
set_option maxHeartbeats 4000000 in
theorem cs_at (X : LX g p s m meth c b L xs) (hi : 1 ≤ i ∧ i + 5 < L) (hI : INV2 q n sh S (F, P, V, T, H, cc) (F, P, V, T, H, cc)) (hcs : k + 2 ≤ 600000 ∧ u + 36 ≤ 7302250) (K : LK g p e s m below meth c b i q k u) : LG g p e s m below meth c b 243 (lsL g b i) [] (hp g sh S) n k u := by
  refine LG_aload X dL_law_243 rfl ?_
  refine LG_arg X dL_law_244 dL_law_245 dL_law_246 dL_law_247 dL_law_248 hi (by decide) ?_
  refine LG_arg X dL_law_249 dL_law_250 dL_law_251 dL_law_252 dL_law_253 hi (by decide) ?_
  refine LG_callV (As := [.int (iI (zs xs (i + 1))), .int (iI (zs xs (i + 2)))]) (rest := []) (ci := 9) (np := 2) X dL_law_254 kX9_at lkL_26 (I_s0 hI) rfl rfl rfl (Nat.le_of_ble_eq_true rfl) ⟨Nat.le_of_ble_eq_true rfl, Nat.le_of_ble_eq_true rfl⟩ (mc2 := 0) (ms2 := 0) (d2 := 3) (by omega) ?_
  refine pr_at hI zs_bd zs_bd _ (fun r sh1 S1 n1 h96 hM => ?_)
  show LG g p e s m below meth c b 257 (lsL g b i) [.int (iI r)] (hp g sh1 S1) n1 (k + 0) (u + 0)
  refine LG_aload X dL_law_257 rfl ?_
  refine LG_arg X dL_law_258 dL_law_259 dL_law_260 dL_law_261 dL_law_262 hi (by decide) ?_
  refine LG_arg X dL_law_263 dL_law_264 dL_law_265 dL_law_266 dL_law_267 hi (by decide) ?_
  refine LG_callV (As := [.int (iI (zs xs (i + 1))), .int (iI (zs xs (i + 2)))]) (rest := [.int (iI r)]) (ci := 10) (np := 2) X dL_law_268 kX10_at lkL_30 h96 rfl rfl rfl (Nat.le_of_ble_eq_true rfl) ⟨Nat.le_of_ble_eq_true rfl, Nat.le_of_ble_eq_true rfl⟩ (mc2 := 0) (ms2 := 0) (d2 := 3) (by omega) ?_
  refine hM _ (fun S2 hI2 => ?_)
  show LG g p e s m below meth c b 271 (lsL g b i) [.int (iI r), .int (iI r)] (hp g sh1 S2) n1 (k + 0 + 0) (u + 0 + 0)
  refine LG_same 1486 X dL_law_271 (by decide) ?_
  exact K sh1 S2 n1 _ _ (by omega) hI2
set_option maxHeartbeats 4000000 in
theorem cs_clear (X : LX g p s m meth c b L xs) (hi : 1 ≤ i ∧ i + 5 < L) (hI : INV2 q n sh S (F, P, V, T, H, cc) (F, P, V, T, H, cc)) (hcs : k + 2 ≤ 600000 ∧ u + 36 ≤ 7302250) (K : LK g p e s m below meth c b i q k u) : LG g p e s m below meth c b 276 (lsL g b i) [] (hp g sh S) n k u := by
  refine LG_aload X dL_law_276 rfl ?_
  refine LG_arg X dL_law_277 dL_law_278 dL_law_279 dL_law_280 dL_law_281 hi (by decide) ?_
  refine LG_callV (As := [.int (iI (zs xs (i + 1)))]) (rest := []) (ci := 9) (np := 1) X dL_law_282 kX9_clear lkL_31 (I_s0 hI) rfl rfl rfl (Nat.le_of_ble_eq_true rfl) ⟨Nat.le_of_ble_eq_true rfl, Nat.le_of_ble_eq_true rfl⟩ (mc2 := 0) (ms2 := 0) (d2 := 3) (by omega) ?_
  refine pr_clear hI zs_bd _ (fun r sh1 S1 n1 h96 hM => ?_)
  show LG g p e s m below meth c b 285 (lsL g b i) [.int (iI r)] (hp g sh1 S1) n1 (k + 0) (u + 0)
  refine LG_aload X dL_law_285 rfl ?_
  refine LG_arg X dL_law_286 dL_law_287 dL_law_288 dL_law_289 dL_law_290 hi (by decide) ?_
  refine LG_callV (As := [.int (iI (zs xs (i + 1)))]) (rest := [.int (iI r)]) (ci := 10) (np := 1) X dL_law_291 kX10_clear lkL_35 h96 rfl rfl rfl (Nat.le_of_ble_eq_true rfl) ⟨Nat.le_of_ble_eq_true rfl, Nat.le_of_ble_eq_true rfl⟩ (mc2 := 0) (ms2 := 0) (d2 := 3) (by omega) ?_
  refine hM _ (fun S2 hI2 => ?_)
  show LG g p e s m below meth c b 294 (lsL g b i) [.int (iI r), .int (iI r)] (hp g sh1 S2) n1 (k + 0 + 0) (u + 0 + 0)
  refine LG_same 1486 X dL_law_294 (by decide) ?_
  exact K sh1 S2 n1 _ _ (by omega) hI2
set_option maxHeartbeats 4000000 in
theorem cs_sum (X : LX g p s m meth c b L xs) (hi : 1 ≤ i ∧ i + 5 < L) (hI : INV2 q n sh S (F, P, V, T, H, cc) (F, P, V, T, H, cc)) (hcs : k + 2 ≤ 600000 ∧ u + 36 ≤ 7302250) (K : LK g p e s m below meth c b i q k u) : LG g p e s m below meth c b 299 (lsL g b i) [] (hp g sh S) n k u := by
  refine LG_aload X dL_law_299 rfl ?_
  refine LG_arg X dL_law_300 dL_law_301 dL_law_302 dL_law_303 dL_law_304 hi (by decide) ?_
  refine LG_arg X dL_law_305 dL_law_306 dL_law_307 dL_law_308 dL_law_309 hi (by decide) ?_
  refine LG_arg X dL_law_310 dL_law_311 dL_law_312 dL_law_313 dL_law_314 hi (by decide) ?_
  refine LG_arg X dL_law_315 dL_law_316 dL_law_317 dL_law_318 dL_law_319 hi (by decide) ?_
  refine LG_callV (As := [.int (iI (zs xs (i + 1))), .int (iI (zs xs (i + 2))), .int (iI (zs xs (i + 3))), .int (iI (zs xs (i + 4)))]) (rest := []) (ci := 9) (np := 4) X dL_law_320 kX9_sum lkL_36 (I_s0 hI) rfl rfl rfl (Nat.le_of_ble_eq_true rfl) ⟨Nat.le_of_ble_eq_true rfl, Nat.le_of_ble_eq_true rfl⟩ (mc2 := 0) (ms2 := 0) (d2 := 5) (by omega) ?_
  refine pr_sum hI zs_bd zs_bd zs_bd zs_bd _ (fun r sh1 S1 n1 h96 hM => ?_)
  show LG g p e s m below meth c b 323 (lsL g b i) [.int (iI r)] (hp g sh1 S1) n1 (k + 0) (u + 0)
  refine LG_aload X dL_law_323 rfl ?_
  refine LG_arg X dL_law_324 dL_law_325 dL_law_326 dL_law_327 dL_law_328 hi (by decide) ?_
  refine LG_arg X dL_law_329 dL_law_330 dL_law_331 dL_law_332 dL_law_333 hi (by decide) ?_
  refine LG_arg X dL_law_334 dL_law_335 dL_law_336 dL_law_337 dL_law_338 hi (by decide) ?_
  refine LG_arg X dL_law_339 dL_law_340 dL_law_341 dL_law_342 dL_law_343 hi (by decide) ?_
  refine LG_callV (As := [.int (iI (zs xs (i + 1))), .int (iI (zs xs (i + 2))), .int (iI (zs xs (i + 3))), .int (iI (zs xs (i + 4)))]) (rest := [.int (iI r)]) (ci := 10) (np := 4) X dL_law_344 kX10_sum lkL_40 h96 rfl rfl rfl (Nat.le_of_ble_eq_true rfl) ⟨Nat.le_of_ble_eq_true rfl, Nat.le_of_ble_eq_true rfl⟩ (mc2 := 0) (ms2 := 0) (d2 := 3) (by omega) ?_
  refine hM _ (fun S2 hI2 => ?_)
  show LG g p e s m below meth c b 347 (lsL g b i) [.int (iI r), .int (iI r)] (hp g sh1 S2) n1 (k + 0 + 0) (u + 0 + 0)
  refine LG_same 1486 X dL_law_347 (by decide) ?_
  exact K sh1 S2 n1 _ _ (by omega) hI2
set_option maxHeartbeats 4000000 in
theorem cs_way (X : LX g p s m meth c b L xs) (hi : 1 ≤ i ∧ i + 5 < L) (hI : INV2 q n sh S (F, P, V, T, H, cc) (F, P, V, T, H, cc)) (hcs : k + 2 ≤ 600000 ∧ u + 36 ≤ 7302250) (K : LK g p e s m below meth c b i q k u) : LG g p e s m below meth c b 352 (lsL g b i) [] (hp g sh S) n k u := by
  refine LG_aload X dL_law_352 rfl ?_
  refine LG_arg X dL_law_353 dL_law_354 dL_law_355 dL_law_356 dL_law_357 hi (by decide) ?_
  refine LG_arg X dL_law_358 dL_law_359 dL_law_360 dL_law_361 dL_law_362 hi (by decide) ?_
  refine LG_callV (As := [.int (iI (zs xs (i + 1))), .int (iI (zs xs (i + 2)))]) (rest := []) (ci := 9) (np := 2) X dL_law_363 kX9_way lkL_41 (I_s0 hI) rfl rfl rfl (Nat.le_of_ble_eq_true rfl) ⟨Nat.le_of_ble_eq_true rfl, Nat.le_of_ble_eq_true rfl⟩ (mc2 := 2) (ms2 := 36) (d2 := 5) (by omega) ?_
  refine pr_way hI zs_bd zs_bd _ (fun r sh1 S1 n1 h96 hM => ?_)
  show LG g p e s m below meth c b 366 (lsL g b i) [.int (iI r)] (hp g sh1 S1) n1 (k + 2) (u + 36)
  refine LG_aload X dL_law_366 rfl ?_
  refine LG_arg X dL_law_367 dL_law_368 dL_law_369 dL_law_370 dL_law_371 hi (by decide) ?_
  refine LG_arg X dL_law_372 dL_law_373 dL_law_374 dL_law_375 dL_law_376 hi (by decide) ?_
  refine LG_callV (As := [.int (iI (zs xs (i + 1))), .int (iI (zs xs (i + 2)))]) (rest := [.int (iI r)]) (ci := 10) (np := 2) X dL_law_377 kX10_way lkL_44 h96 rfl rfl rfl (Nat.le_of_ble_eq_true rfl) ⟨Nat.le_of_ble_eq_true rfl, Nat.le_of_ble_eq_true rfl⟩ (mc2 := 0) (ms2 := 0) (d2 := 2) (by omega) ?_
  refine hM _ (fun S2 hI2 => ?_)
  show LG g p e s m below meth c b 380 (lsL g b i) [.int (iI r), .int (iI r)] (hp g sh1 S2) n1 (k + 2 + 0) (u + 36 + 0)
  refine LG_same 1486 X dL_law_380 (by decide) ?_
  exact K sh1 S2 n1 _ _ (by omega) hI2
set_option maxHeartbeats 4000000 in
theorem cs_times (X : LX g p s m meth c b L xs) (hi : 1 ≤ i ∧ i + 5 < L) (hI : INV2 q n sh S (F, P, V, T, H, cc) (F, P, V, T, H, cc)) (hcs : k + 2 ≤ 600000 ∧ u + 36 ≤ 7302250) (K : LK g p e s m below meth c b i q k u) : LG g p e s m below meth c b 385 (lsL g b i) [] (hp g sh S) n k u := by
  refine LG_aload X dL_law_385 rfl ?_
  refine LG_arg X dL_law_386 dL_law_387 dL_law_388 dL_law_389 dL_law_390 hi (by decide) ?_
  refine LG_arg X dL_law_391 dL_law_392 dL_law_393 dL_law_394 dL_law_395 hi (by decide) ?_
  refine LG_arg X dL_law_396 dL_law_397 dL_law_398 dL_law_399 dL_law_400 hi (by decide) ?_
  refine LG_arg X dL_law_401 dL_law_402 dL_law_403 dL_law_404 dL_law_405 hi (by decide) ?_
  refine LG_callV (As := [.int (iI (zs xs (i + 1))), .int (iI (zs xs (i + 2))), .int (iI (zs xs (i + 3))), .int (iI (zs xs (i + 4)))]) (rest := []) (ci := 9) (np := 4) X dL_law_406 kX9_times lkL_45 (I_s0 hI) rfl rfl rfl (Nat.le_of_ble_eq_true rfl) ⟨Nat.le_of_ble_eq_true rfl, Nat.le_of_ble_eq_true rfl⟩ (mc2 := 0) (ms2 := 0) (d2 := 6) (by omega) ?_
  refine pr_times hI zs_bd zs_bd zs_bd zs_bd _ (fun r sh1 S1 n1 h96 hM => ?_)
  show LG g p e s m below meth c b 409 (lsL g b i) [.int (iI r)] (hp g sh1 S1) n1 (k + 0) (u + 0)
  refine LG_aload X dL_law_409 rfl ?_
  refine LG_arg X dL_law_410 dL_law_411 dL_law_412 dL_law_413 dL_law_414 hi (by decide) ?_
  refine LG_arg X dL_law_415 dL_law_416 dL_law_417 dL_law_418 dL_law_419 hi (by decide) ?_
  refine LG_arg X dL_law_420 dL_law_421 dL_law_422 dL_law_423 dL_law_424 hi (by decide) ?_
  refine LG_arg X dL_law_425 dL_law_426 dL_law_427 dL_law_428 dL_law_429 hi (by decide) ?_
  refine LG_callV (As := [.int (iI (zs xs (i + 1))), .int (iI (zs xs (i + 2))), .int (iI (zs xs (i + 3))), .int (iI (zs xs (i + 4)))]) (rest := [.int (iI r)]) (ci := 10) (np := 4) X dL_law_430 kX10_times lkL_48 h96 rfl rfl rfl (Nat.le_of_ble_eq_true rfl) ⟨Nat.le_of_ble_eq_true rfl, Nat.le_of_ble_eq_true rfl⟩ (mc2 := 0) (ms2 := 0) (d2 := 4) (by omega) ?_
  refine hM _ (fun S2 hI2 => ?_)
  show LG g p e s m below meth c b 433 (lsL g b i) [.int (iI r), .int (iI r)] (hp g sh1 S2) n1 (k + 0 + 0) (u + 0 + 0)
  refine LG_same 1486 X dL_law_433 (by decide) ?_
  exact K sh1 S2 n1 _ _ (by omega) hI2
set_option maxHeartbeats 4000000 in
theorem cs_cost (X : LX g p s m meth c b L xs) (hi : 1 ≤ i ∧ i + 5 < L) (hI : INV2 q n sh S (F, P, V, T, H, cc) (F, P, V, T, H, cc)) (hcs : k + 2 ≤ 600000 ∧ u + 36 ≤ 7302250) (K : LK g p e s m below meth c b i q k u) : LG g p e s m below meth c b 438 (lsL g b i) [] (hp g sh S) n k u := by
  refine LG_aload X dL_law_438 rfl ?_
  refine LG_arg X dL_law_439 dL_law_440 dL_law_441 dL_law_442 dL_law_443 hi (by decide) ?_
  refine LG_arg X dL_law_444 dL_law_445 dL_law_446 dL_law_447 dL_law_448 hi (by decide) ?_
  refine LG_arg X dL_law_449 dL_law_450 dL_law_451 dL_law_452 dL_law_453 hi (by decide) ?_
  refine LG_callV (As := [.int (iI (zs xs (i + 1))), .int (iI (zs xs (i + 2))), .int (iI (zs xs (i + 3)))]) (rest := []) (ci := 9) (np := 3) X dL_law_454 kX9_cost lkL_49 (I_s0 hI) rfl rfl rfl (Nat.le_of_ble_eq_true rfl) ⟨Nat.le_of_ble_eq_true rfl, Nat.le_of_ble_eq_true rfl⟩ (mc2 := 0) (ms2 := 0) (d2 := 5) (by omega) ?_
  refine pr_cost hI zs_bd zs_bd zs_bd _ (fun r sh1 S1 n1 h96 hM => ?_)
  show LG g p e s m below meth c b 457 (lsL g b i) [.int (iI r)] (hp g sh1 S1) n1 (k + 0) (u + 0)
  refine LG_aload X dL_law_457 rfl ?_
  refine LG_arg X dL_law_458 dL_law_459 dL_law_460 dL_law_461 dL_law_462 hi (by decide) ?_
  refine LG_arg X dL_law_463 dL_law_464 dL_law_465 dL_law_466 dL_law_467 hi (by decide) ?_
  refine LG_arg X dL_law_468 dL_law_469 dL_law_470 dL_law_471 dL_law_472 hi (by decide) ?_
  refine LG_callV (As := [.int (iI (zs xs (i + 1))), .int (iI (zs xs (i + 2))), .int (iI (zs xs (i + 3)))]) (rest := [.int (iI r)]) (ci := 10) (np := 3) X dL_law_473 kX10_cost lkL_52 h96 rfl rfl rfl (Nat.le_of_ble_eq_true rfl) ⟨Nat.le_of_ble_eq_true rfl, Nat.le_of_ble_eq_true rfl⟩ (mc2 := 0) (ms2 := 0) (d2 := 4) (by omega) ?_
  refine hM _ (fun S2 hI2 => ?_)
  show LG g p e s m below meth c b 476 (lsL g b i) [.int (iI r), .int (iI r)] (hp g sh1 S2) n1 (k + 0 + 0) (u + 0 + 0)
  refine LG_same 1486 X dL_law_476 (by decide) ?_
  exact K sh1 S2 n1 _ _ (by omega) hI2
set_option maxHeartbeats 4000000 in
theorem cs_plan (X : LX g p s m meth c b L xs) (hi : 1 ≤ i ∧ i + 5 < L) (hI : INV2 q n sh S (F, P, V, T, H, cc) (F, P, V, T, H, cc)) (hcs : k + 2 ≤ 600000 ∧ u + 36 ≤ 7302250) (K : LK g p e s m below meth c b i q k u) : LG g p e s m below meth c b 481 (lsL g b i) [] (hp g sh S) n k u := by
  refine LG_aload X dL_law_481 rfl ?_
  refine LG_arg X dL_law_482 dL_law_483 dL_law_484 dL_law_485 dL_law_486 hi (by decide) ?_
  refine LG_arg X dL_law_487 dL_law_488 dL_law_489 dL_law_490 dL_law_491 hi (by decide) ?_
  refine LG_callV (As := [.int (iI (zs xs (i + 1))), .int (iI (zs xs (i + 2)))]) (rest := []) (ci := 9) (np := 2) X dL_law_492 kX9_plan lkL_53 (I_s0 hI) rfl rfl rfl (Nat.le_of_ble_eq_true rfl) ⟨Nat.le_of_ble_eq_true rfl, Nat.le_of_ble_eq_true rfl⟩ (mc2 := 0) (ms2 := 0) (d2 := 6) (by omega) ?_
  refine pr_plan hI zs_bd zs_bd _ (fun r sh1 S1 n1 h96 hM => ?_)
  show LG g p e s m below meth c b 495 (lsL g b i) [.int (iI r)] (hp g sh1 S1) n1 (k + 0) (u + 0)
  refine LG_aload X dL_law_495 rfl ?_
  refine LG_arg X dL_law_496 dL_law_497 dL_law_498 dL_law_499 dL_law_500 hi (by decide) ?_
  refine LG_arg X dL_law_501 dL_law_502 dL_law_503 dL_law_504 dL_law_505 hi (by decide) ?_
  refine LG_callV (As := [.int (iI (zs xs (i + 1))), .int (iI (zs xs (i + 2)))]) (rest := [.int (iI r)]) (ci := 10) (np := 2) X dL_law_506 kX10_plan lkL_56 h96 rfl rfl rfl (Nat.le_of_ble_eq_true rfl) ⟨Nat.le_of_ble_eq_true rfl, Nat.le_of_ble_eq_true rfl⟩ (mc2 := 0) (ms2 := 0) (d2 := 49) (by omega) ?_
  refine hM _ (fun S2 hI2 => ?_)
  show LG g p e s m below meth c b 509 (lsL g b i) [.int (iI r), .int (iI r)] (hp g sh1 S2) n1 (k + 0 + 0) (u + 0 + 0)
  refine LG_same 1486 X dL_law_509 (by decide) ?_
  exact K sh1 S2 n1 _ _ (by omega) hI2
set_option maxHeartbeats 4000000 in
theorem cs_planned (X : LX g p s m meth c b L xs) (hi : 1 ≤ i ∧ i + 5 < L) (hI : INV2 q n sh S (F, P, V, T, H, cc) (F, P, V, T, H, cc)) (hcs : k + 2 ≤ 600000 ∧ u + 36 ≤ 7302250) (K : LK g p e s m below meth c b i q k u) : LG g p e s m below meth c b 514 (lsL g b i) [] (hp g sh S) n k u := by
  refine LG_aload X dL_law_514 rfl ?_
  refine LG_arg X dL_law_515 dL_law_516 dL_law_517 dL_law_518 dL_law_519 hi (by decide) ?_
  refine LG_arg X dL_law_520 dL_law_521 dL_law_522 dL_law_523 dL_law_524 hi (by decide) ?_
  refine LG_arg X dL_law_525 dL_law_526 dL_law_527 dL_law_528 dL_law_529 hi (by decide) ?_
  refine LG_callV (As := [.int (iI (zs xs (i + 1))), .int (iI (zs xs (i + 2))), .int (iI (zs xs (i + 3)))]) (rest := []) (ci := 9) (np := 3) X dL_law_530 kX9_planned lkL_57 (I_s0 hI) rfl rfl rfl (Nat.le_of_ble_eq_true rfl) ⟨Nat.le_of_ble_eq_true rfl, Nat.le_of_ble_eq_true rfl⟩ (mc2 := 0) (ms2 := 0) (d2 := 6) (by omega) ?_
  refine pr_planned hI zs_bd zs_bd zs_bd _ (fun r sh1 S1 n1 h96 hM => ?_)
  show LG g p e s m below meth c b 533 (lsL g b i) [.int (iI r)] (hp g sh1 S1) n1 (k + 0) (u + 0)
  refine LG_aload X dL_law_533 rfl ?_
  refine LG_arg X dL_law_534 dL_law_535 dL_law_536 dL_law_537 dL_law_538 hi (by decide) ?_
  refine LG_arg X dL_law_539 dL_law_540 dL_law_541 dL_law_542 dL_law_543 hi (by decide) ?_
  refine LG_arg X dL_law_544 dL_law_545 dL_law_546 dL_law_547 dL_law_548 hi (by decide) ?_
  refine LG_callV (As := [.int (iI (zs xs (i + 1))), .int (iI (zs xs (i + 2))), .int (iI (zs xs (i + 3)))]) (rest := [.int (iI r)]) (ci := 10) (np := 3) X dL_law_549 kX10_planned lkL_60 h96 rfl rfl rfl (Nat.le_of_ble_eq_true rfl) ⟨Nat.le_of_ble_eq_true rfl, Nat.le_of_ble_eq_true rfl⟩ (mc2 := 0) (ms2 := 0) (d2 := 49) (by omega) ?_
  refine hM _ (fun S2 hI2 => ?_)
  show LG g p e s m below meth c b 552 (lsL g b i) [.int (iI r), .int (iI r)] (hp g sh1 S2) n1 (k + 0 + 0) (u + 0 + 0)
  refine LG_same 1486 X dL_law_552 (by decide) ?_
  exact K sh1 S2 n1 _ _ (by omega) hI2
set_option maxHeartbeats 4000000 in
theorem cs_feed (X : LX g p s m meth c b L xs) (hi : 1 ≤ i ∧ i + 5 < L) (hI : INV2 q n sh S (F, P, V, T, H, cc) (F, P, V, T, H, cc)) (hcs : k + 2 ≤ 600000 ∧ u + 36 ≤ 7302250) (K : LK g p e s m below meth c b i q k u) : LG g p e s m below meth c b 557 (lsL g b i) [] (hp g sh S) n k u := by
  refine LG_aload X dL_law_557 rfl ?_
  refine LG_arg X dL_law_558 dL_law_559 dL_law_560 dL_law_561 dL_law_562 hi (by decide) ?_
  refine LG_long X dL_law_563 dL_law_564 dL_law_565 dL_law_566 dL_law_567 dL_law_568 dL_law_569 dL_law_571 dL_law_572 dL_law_573 dL_law_574 dL_law_575 dL_law_576 dL_law_577 dL_law_578 dL_law_581 dL_law_582 hi ?_
  generalize hz : fzL (zs xs (i + 2)) (zs xs (i + 3)) = z
  have hz1 := Int64.le_toInt z
  have hz2 := Int64.toInt_lt z
  have hz3 : z = iL z.toInt := (iL_of z).symm
  generalize z.toInt = y at hz1 hz2 hz3
  subst hz3
  refine LG_callV (As := [.int (iI (zs xs (i + 1))), .long (iL y)]) (rest := []) (ci := 9) (np := 2) X dL_law_583 kX9_feed lkL_63 (I_s0 hI) rfl rfl rfl (Nat.le_of_ble_eq_true rfl) ⟨Nat.le_of_ble_eq_true rfl, Nat.le_of_ble_eq_true rfl⟩ (mc2 := 0) (ms2 := 0) (d2 := 3) (by omega) ?_
  refine pr_feed hI zs_bd ⟨by omega, by omega⟩ _ (fun r sh1 S1 n1 h96 hM => ?_)
  show LG g p e s m below meth c b 586 (lsL g b i) [.int (iI r)] (hp g sh1 S1) n1 (k + 0) (u + 0)
  refine LG_aload X dL_law_586 rfl ?_
  refine LG_arg X dL_law_587 dL_law_588 dL_law_589 dL_law_590 dL_law_591 hi (by decide) ?_
  refine LG_long X dL_law_592 dL_law_593 dL_law_594 dL_law_595 dL_law_596 dL_law_597 dL_law_598 dL_law_600 dL_law_601 dL_law_602 dL_law_603 dL_law_604 dL_law_605 dL_law_606 dL_law_607 dL_law_610 dL_law_611 hi ?_
  rw [hz]
  refine LG_callV (As := [.int (iI (zs xs (i + 1))), .long (iL y)]) (rest := [.int (iI r)]) (ci := 10) (np := 2) X dL_law_612 kX10_feed lkL_67 h96 rfl rfl rfl (Nat.le_of_ble_eq_true rfl) ⟨Nat.le_of_ble_eq_true rfl, Nat.le_of_ble_eq_true rfl⟩ (mc2 := 0) (ms2 := 0) (d2 := 2) (by omega) ?_
  refine hM _ (fun S2 hI2 => ?_)
  show LG g p e s m below meth c b 615 (lsL g b i) [.int (iI r), .int (iI r)] (hp g sh1 S2) n1 (k + 0 + 0) (u + 0 + 0)
  refine LG_same 1486 X dL_law_615 (by decide) ?_
  exact K sh1 S2 n1 _ _ (by omega) hI2
set_option maxHeartbeats 4000000 in
theorem cs_text (X : LX g p s m meth c b L xs) (hi : 1 ≤ i ∧ i + 5 < L) (hI : INV2 q n sh S (F, P, V, T, H, cc) (F, P, V, T, H, cc)) (hcs : k + 2 ≤ 600000 ∧ u + 36 ≤ 7302250) (K : LK g p e s m below meth c b i q k u) : LG g p e s m below meth c b 620 (lsL g b i) [] (hp g sh S) n k u := by
  refine LG_aload X dL_law_620 rfl ?_
  refine LG_callV (As := []) (rest := []) (ci := 9) (np := 0) X dL_law_621 kX9_text lkL_68 (I_s0 hI) rfl rfl rfl (Nat.le_of_ble_eq_true rfl) ⟨Nat.le_of_ble_eq_true rfl, Nat.le_of_ble_eq_true rfl⟩ (mc2 := 0) (ms2 := 0) (d2 := 47) (by omega) ?_
  refine pr_text hI _ (fun r sh1 S1 n1 h96 hM => ?_)
  show LG g p e s m below meth c b 624 (lsL g b i) [.int (iI r)] (hp g sh1 S1) n1 (k + 0) (u + 0)
  refine LG_aload X dL_law_624 rfl ?_
  refine LG_callV (As := []) (rest := [.int (iI r)]) (ci := 10) (np := 0) X dL_law_625 kX10_text lkL_72 h96 rfl rfl rfl (Nat.le_of_ble_eq_true rfl) ⟨Nat.le_of_ble_eq_true rfl, Nat.le_of_ble_eq_true rfl⟩ (mc2 := 0) (ms2 := 0) (d2 := 47) (by omega) ?_
  refine hM _ (fun S2 hI2 => ?_)
  show LG g p e s m below meth c b 628 (lsL g b i) [.int (iI r), .int (iI r)] (hp g sh1 S2) n1 (k + 0 + 0) (u + 0 + 0)
  refine LG_same 1486 X dL_law_628 (by decide) ?_
  exact K sh1 S2 n1 _ _ (by omega) hI2
set_option maxHeartbeats 4000000 in
theorem cs_force (X : LX g p s m meth c b L xs) (hi : 1 ≤ i ∧ i + 5 < L) (hI : INV2 q n sh S (F, P, V, T, H, cc) (F, P, V, T, H, cc)) (hcs : k + 2 ≤ 600000 ∧ u + 36 ≤ 7302250) (K : LK g p e s m below meth c b i q k u) : LG g p e s m below meth c b 633 (lsL g b i) [] (hp g sh S) n k u := by
  refine LG_aload X dL_law_633 rfl ?_
  refine LG_arg X dL_law_634 dL_law_635 dL_law_636 dL_law_637 dL_law_638 hi (by decide) ?_
  refine LG_callV (As := [.int (iI (zs xs (i + 1)))]) (rest := []) (ci := 9) (np := 1) X dL_law_639 kX9_force lkL_73 (I_s0 hI) rfl rfl rfl (Nat.le_of_ble_eq_true rfl) ⟨Nat.le_of_ble_eq_true rfl, Nat.le_of_ble_eq_true rfl⟩ (mc2 := 0) (ms2 := 0) (d2 := 2) (by omega) ?_
  refine pr_force hI zs_bd _ (fun r sh1 S1 n1 h96 hM => ?_)
  show LG g p e s m below meth c b 642 (lsL g b i) [.int (iI r)] (hp g sh1 S1) n1 (k + 0) (u + 0)
  refine LG_aload X dL_law_642 rfl ?_
  refine LG_arg X dL_law_643 dL_law_644 dL_law_645 dL_law_646 dL_law_647 hi (by decide) ?_
  refine LG_callV (As := [.int (iI (zs xs (i + 1)))]) (rest := [.int (iI r)]) (ci := 10) (np := 1) X dL_law_648 kX10_force lkL_76 h96 rfl rfl rfl (Nat.le_of_ble_eq_true rfl) ⟨Nat.le_of_ble_eq_true rfl, Nat.le_of_ble_eq_true rfl⟩ (mc2 := 0) (ms2 := 0) (d2 := 2) (by omega) ?_
  refine hM _ (fun S2 hI2 => ?_)
  show LG g p e s m below meth c b 651 (lsL g b i) [.int (iI r), .int (iI r)] (hp g sh1 S2) n1 (k + 0 + 0) (u + 0 + 0)
  refine LG_same 1486 X dL_law_651 (by decide) ?_
  exact K sh1 S2 n1 _ _ (by omega) hI2
set_option maxHeartbeats 4000000 in
theorem cs_says (X : LX g p s m meth c b L xs) (hi : 1 ≤ i ∧ i + 5 < L) (hI : INV2 q n sh S (F, P, V, T, H, cc) (F, P, V, T, H, cc)) (hcs : k + 2 ≤ 600000 ∧ u + 36 ≤ 7302250) (K : LK g p e s m below meth c b i q k u) : LG g p e s m below meth c b 656 (lsL g b i) [] (hp g sh S) n k u := by
  refine LG_aload X dL_law_656 rfl ?_
  refine LG_arg X dL_law_657 dL_law_658 dL_law_659 dL_law_660 dL_law_661 hi (by decide) ?_
  refine LG_arg X dL_law_662 dL_law_663 dL_law_664 dL_law_665 dL_law_666 hi (by decide) ?_
  refine LG_arg X dL_law_667 dL_law_668 dL_law_669 dL_law_670 dL_law_671 hi (by decide) ?_
  refine LG_callV (As := [.int (iI (zs xs (i + 1))), .int (iI (zs xs (i + 2))), .int (iI (zs xs (i + 3)))]) (rest := []) (ci := 9) (np := 3) X dL_law_672 kX9_says lkL_77 (I_s0 hI) rfl rfl rfl (Nat.le_of_ble_eq_true rfl) ⟨Nat.le_of_ble_eq_true rfl, Nat.le_of_ble_eq_true rfl⟩ (mc2 := 0) (ms2 := 0) (d2 := 5) (by omega) ?_
  refine pr_says hI zs_bd zs_bd zs_bd _ (fun r sh1 S1 n1 h96 hM => ?_)
  show LG g p e s m below meth c b 675 (lsL g b i) [.long (iL r)] (hp g sh1 S1) n1 (k + 0) (u + 0)
  refine LG_aload X dL_law_675 rfl ?_
  refine LG_arg X dL_law_676 dL_law_677 dL_law_678 dL_law_679 dL_law_680 hi (by decide) ?_
  refine LG_arg X dL_law_681 dL_law_682 dL_law_683 dL_law_684 dL_law_685 hi (by decide) ?_
  refine LG_arg X dL_law_686 dL_law_687 dL_law_688 dL_law_689 dL_law_690 hi (by decide) ?_
  refine LG_callV (As := [.int (iI (zs xs (i + 1))), .int (iI (zs xs (i + 2))), .int (iI (zs xs (i + 3)))]) (rest := [.long (iL r)]) (ci := 10) (np := 3) X dL_law_691 kX10_says lkL_81 h96 rfl rfl rfl (Nat.le_of_ble_eq_true rfl) ⟨Nat.le_of_ble_eq_true rfl, Nat.le_of_ble_eq_true rfl⟩ (mc2 := 0) (ms2 := 0) (d2 := 48) (by omega) ?_
  refine hM _ (fun S2 hI2 => ?_)
  show LG g p e s m below meth c b 694 (lsL g b i) [.long (iL r), .long (iL r)] (hp g sh1 S2) n1 (k + 0 + 0) (u + 0 + 0)
  refine LG_sameL 1486 X dL_law_694 dL_law_695 (by decide) ?_
  exact K sh1 S2 n1 _ _ (by omega) hI2
set_option maxHeartbeats 4000000 in
theorem cs_divide (X : LX g p s m meth c b L xs) (hi : 1 ≤ i ∧ i + 5 < L) (hI : INV2 q n sh S (F, P, V, T, H, cc) (F, P, V, T, H, cc)) (hcs : k + 2 ≤ 600000 ∧ u + 36 ≤ 7302250) (K : LK g p e s m below meth c b i q k u) : LG g p e s m below meth c b 700 (lsL g b i) [] (hp g sh S) n k u := by
  refine LG_aload X dL_law_700 rfl ?_
  refine LG_arg X dL_law_701 dL_law_702 dL_law_703 dL_law_704 dL_law_705 hi (by decide) ?_
  refine LG_arg X dL_law_706 dL_law_707 dL_law_708 dL_law_709 dL_law_710 hi (by decide) ?_
  refine LG_arg X dL_law_711 dL_law_712 dL_law_713 dL_law_714 dL_law_715 hi (by decide) ?_
  refine LG_flag X dL_law_716 dL_law_717 dL_law_718 dL_law_719 dL_law_720 dL_law_721 dL_law_724 dL_law_725 dL_law_728 hi (fun fl hfl efl => ?_)
  refine LG_callV (As := [.int (iI (zs xs (i + 1))), .int (iI (zs xs (i + 2))), .int (iI (zs xs (i + 3))), .int (iI fl)]) (rest := []) (ci := 9) (np := 4) X dL_law_729 kX9_divide lkL_82 (I_s0 hI) rfl rfl rfl (Nat.le_of_ble_eq_true rfl) ⟨Nat.le_of_ble_eq_true rfl, Nat.le_of_ble_eq_true rfl⟩ (mc2 := 0) (ms2 := 0) (d2 := 5) (by omega) ?_
  refine pr_divide hI zs_bd zs_bd zs_bd hfl _ (fun r sh1 S1 n1 h96 hM => ?_)
  show LG g p e s m below meth c b 732 (lsL g b i) [.int (iI r)] (hp g sh1 S1) n1 (k + 0) (u + 0)
  refine LG_aload X dL_law_732 rfl ?_
  refine LG_arg X dL_law_733 dL_law_734 dL_law_735 dL_law_736 dL_law_737 hi (by decide) ?_
  refine LG_arg X dL_law_738 dL_law_739 dL_law_740 dL_law_741 dL_law_742 hi (by decide) ?_
  refine LG_arg X dL_law_743 dL_law_744 dL_law_745 dL_law_746 dL_law_747 hi (by decide) ?_
  refine LG_flag X dL_law_748 dL_law_749 dL_law_750 dL_law_751 dL_law_752 dL_law_753 dL_law_756 dL_law_757 dL_law_760 hi (fun fm hfm efm => ?_)
  rw [← efl] at efm
  rw [efm]
  refine LG_callV (As := [.int (iI (zs xs (i + 1))), .int (iI (zs xs (i + 2))), .int (iI (zs xs (i + 3))), .int (iI fl)]) (rest := [.int (iI r)]) (ci := 10) (np := 4) X dL_law_761 kX10_divide lkL_86 h96 rfl rfl rfl (Nat.le_of_ble_eq_true rfl) ⟨Nat.le_of_ble_eq_true rfl, Nat.le_of_ble_eq_true rfl⟩ (mc2 := 0) (ms2 := 0) (d2 := 5) (by omega) ?_
  refine hM _ (fun S2 hI2 => ?_)
  show LG g p e s m below meth c b 764 (lsL g b i) [.int (iI r), .int (iI r)] (hp g sh1 S2) n1 (k + 0 + 0) (u + 0 + 0)
  refine LG_same 1486 X dL_law_764 (by decide) ?_
  exact K sh1 S2 n1 _ _ (by omega) hI2
set_option maxHeartbeats 4000000 in
theorem cs_gcd (X : LX g p s m meth c b L xs) (hi : 1 ≤ i ∧ i + 5 < L) (hI : INV2 q n sh S (F, P, V, T, H, cc) (F, P, V, T, H, cc)) (hcs : k + 2 ≤ 600000 ∧ u + 36 ≤ 7302250) (K : LK g p e s m below meth c b i q k u) : LG g p e s m below meth c b 769 (lsL g b i) [] (hp g sh S) n k u := by
  refine LG_aload X dL_law_769 rfl ?_
  refine LG_arg X dL_law_770 dL_law_771 dL_law_772 dL_law_773 dL_law_774 hi (by decide) ?_
  refine LG_arg X dL_law_775 dL_law_776 dL_law_777 dL_law_778 dL_law_779 hi (by decide) ?_
  refine LG_arg X dL_law_780 dL_law_781 dL_law_782 dL_law_783 dL_law_784 hi (by decide) ?_
  refine LG_callV (As := [.int (iI (zs xs (i + 1))), .int (iI (zs xs (i + 2))), .int (iI (zs xs (i + 3)))]) (rest := []) (ci := 9) (np := 3) X dL_law_785 kX9_gcd lkL_87 (I_s0 hI) rfl rfl rfl (Nat.le_of_ble_eq_true rfl) ⟨Nat.le_of_ble_eq_true rfl, Nat.le_of_ble_eq_true rfl⟩ (mc2 := 0) (ms2 := 0) (d2 := 7) (by omega) ?_
  refine pr_gcd hI zs_bd zs_bd zs_bd _ (fun r sh1 S1 n1 h96 hM => ?_)
  show LG g p e s m below meth c b 788 (lsL g b i) [.int (iI r)] (hp g sh1 S1) n1 (k + 0) (u + 0)
  refine LG_aload X dL_law_788 rfl ?_
  refine LG_arg X dL_law_789 dL_law_790 dL_law_791 dL_law_792 dL_law_793 hi (by decide) ?_
  refine LG_arg X dL_law_794 dL_law_795 dL_law_796 dL_law_797 dL_law_798 hi (by decide) ?_
  refine LG_arg X dL_law_799 dL_law_800 dL_law_801 dL_law_802 dL_law_803 hi (by decide) ?_
  refine LG_callV (As := [.int (iI (zs xs (i + 1))), .int (iI (zs xs (i + 2))), .int (iI (zs xs (i + 3)))]) (rest := [.int (iI r)]) (ci := 10) (np := 3) X dL_law_804 kX10_gcd lkL_90 h96 rfl rfl rfl (Nat.le_of_ble_eq_true rfl) ⟨Nat.le_of_ble_eq_true rfl, Nat.le_of_ble_eq_true rfl⟩ (mc2 := 0) (ms2 := 0) (d2 := 6) (by omega) ?_
  refine hM _ (fun S2 hI2 => ?_)
  show LG g p e s m below meth c b 807 (lsL g b i) [.int (iI r), .int (iI r)] (hp g sh1 S2) n1 (k + 0 + 0) (u + 0 + 0)
  refine LG_same 1486 X dL_law_807 (by decide) ?_
  exact K sh1 S2 n1 _ _ (by omega) hI2
set_option maxHeartbeats 4000000 in
theorem cs_cofactor (X : LX g p s m meth c b L xs) (hi : 1 ≤ i ∧ i + 5 < L) (hI : INV2 q n sh S (F, P, V, T, H, cc) (F, P, V, T, H, cc)) (hcs : k + 2 ≤ 600000 ∧ u + 36 ≤ 7302250) (K : LK g p e s m below meth c b i q k u) : LG g p e s m below meth c b 812 (lsL g b i) [] (hp g sh S) n k u := by
  refine LG_aload X dL_law_812 rfl ?_
  refine LG_arg X dL_law_813 dL_law_814 dL_law_815 dL_law_816 dL_law_817 hi (by decide) ?_
  refine LG_arg X dL_law_818 dL_law_819 dL_law_820 dL_law_821 dL_law_822 hi (by decide) ?_
  refine LG_arg X dL_law_823 dL_law_824 dL_law_825 dL_law_826 dL_law_827 hi (by decide) ?_
  refine LG_callV (As := [.int (iI (zs xs (i + 1))), .int (iI (zs xs (i + 2))), .int (iI (zs xs (i + 3)))]) (rest := []) (ci := 9) (np := 3) X dL_law_828 kX9_cofactor lkL_91 (I_s0 hI) rfl rfl rfl (Nat.le_of_ble_eq_true rfl) ⟨Nat.le_of_ble_eq_true rfl, Nat.le_of_ble_eq_true rfl⟩ (mc2 := 0) (ms2 := 0) (d2 := 7) (by omega) ?_
  refine pr_cofactor hI zs_bd zs_bd zs_bd _ (fun r sh1 S1 n1 h96 hM => ?_)
  show LG g p e s m below meth c b 831 (lsL g b i) [.int (iI r)] (hp g sh1 S1) n1 (k + 0) (u + 0)
  refine LG_aload X dL_law_831 rfl ?_
  refine LG_arg X dL_law_832 dL_law_833 dL_law_834 dL_law_835 dL_law_836 hi (by decide) ?_
  refine LG_arg X dL_law_837 dL_law_838 dL_law_839 dL_law_840 dL_law_841 hi (by decide) ?_
  refine LG_arg X dL_law_842 dL_law_843 dL_law_844 dL_law_845 dL_law_846 hi (by decide) ?_
  refine LG_callV (As := [.int (iI (zs xs (i + 1))), .int (iI (zs xs (i + 2))), .int (iI (zs xs (i + 3)))]) (rest := [.int (iI r)]) (ci := 10) (np := 3) X dL_law_847 kX10_cofactor lkL_94 h96 rfl rfl rfl (Nat.le_of_ble_eq_true rfl) ⟨Nat.le_of_ble_eq_true rfl, Nat.le_of_ble_eq_true rfl⟩ (mc2 := 0) (ms2 := 0) (d2 := 6) (by omega) ?_
  refine hM _ (fun S2 hI2 => ?_)
  show LG g p e s m below meth c b 850 (lsL g b i) [.int (iI r), .int (iI r)] (hp g sh1 S2) n1 (k + 0 + 0) (u + 0 + 0)
  refine LG_same 1486 X dL_law_850 (by decide) ?_
  exact K sh1 S2 n1 _ _ (by omega) hI2
set_option maxHeartbeats 4000000 in
theorem cs_compose (X : LX g p s m meth c b L xs) (hi : 1 ≤ i ∧ i + 5 < L) (hI : INV2 q n sh S (F, P, V, T, H, cc) (F, P, V, T, H, cc)) (hcs : k + 2 ≤ 600000 ∧ u + 36 ≤ 7302250) (K : LK g p e s m below meth c b i q k u) : LG g p e s m below meth c b 855 (lsL g b i) [] (hp g sh S) n k u := by
  refine LG_aload X dL_law_855 rfl ?_
  refine LG_arg X dL_law_856 dL_law_857 dL_law_858 dL_law_859 dL_law_860 hi (by decide) ?_
  refine LG_arg X dL_law_861 dL_law_862 dL_law_863 dL_law_864 dL_law_865 hi (by decide) ?_
  refine LG_arg X dL_law_866 dL_law_867 dL_law_868 dL_law_869 dL_law_870 hi (by decide) ?_
  refine LG_callV (As := [.int (iI (zs xs (i + 1))), .int (iI (zs xs (i + 2))), .int (iI (zs xs (i + 3)))]) (rest := []) (ci := 9) (np := 3) X dL_law_871 kX9_compose lkL_95 (I_s0 hI) rfl rfl rfl (Nat.le_of_ble_eq_true rfl) ⟨Nat.le_of_ble_eq_true rfl, Nat.le_of_ble_eq_true rfl⟩ (mc2 := 0) (ms2 := 0) (d2 := 6) (by omega) ?_
  refine pr_compose hI zs_bd zs_bd zs_bd _ (fun r sh1 S1 n1 h96 hM => ?_)
  show LG g p e s m below meth c b 874 (lsL g b i) [.int (iI r)] (hp g sh1 S1) n1 (k + 0) (u + 0)
  refine LG_aload X dL_law_874 rfl ?_
  refine LG_arg X dL_law_875 dL_law_876 dL_law_877 dL_law_878 dL_law_879 hi (by decide) ?_
  refine LG_arg X dL_law_880 dL_law_881 dL_law_882 dL_law_883 dL_law_884 hi (by decide) ?_
  refine LG_arg X dL_law_885 dL_law_886 dL_law_887 dL_law_888 dL_law_889 hi (by decide) ?_
  refine LG_callV (As := [.int (iI (zs xs (i + 1))), .int (iI (zs xs (i + 2))), .int (iI (zs xs (i + 3)))]) (rest := [.int (iI r)]) (ci := 10) (np := 3) X dL_law_890 kX10_compose lkL_98 h96 rfl rfl rfl (Nat.le_of_ble_eq_true rfl) ⟨Nat.le_of_ble_eq_true rfl, Nat.le_of_ble_eq_true rfl⟩ (mc2 := 0) (ms2 := 0) (d2 := 6) (by omega) ?_
  refine hM _ (fun S2 hI2 => ?_)
  show LG g p e s m below meth c b 893 (lsL g b i) [.int (iI r), .int (iI r)] (hp g sh1 S2) n1 (k + 0 + 0) (u + 0 + 0)
  refine LG_same 1486 X dL_law_893 (by decide) ?_
  exact K sh1 S2 n1 _ _ (by omega) hI2
set_option maxHeartbeats 4000000 in
theorem cs_move (X : LX g p s m meth c b L xs) (hi : 1 ≤ i ∧ i + 5 < L) (hI : INV2 q n sh S (F, P, V, T, H, cc) (F, P, V, T, H, cc)) (hcs : k + 2 ≤ 600000 ∧ u + 36 ≤ 7302250) (K : LK g p e s m below meth c b i q k u) : LG g p e s m below meth c b 898 (lsL g b i) [] (hp g sh S) n k u := by
  refine LG_aload X dL_law_898 rfl ?_
  refine LG_arg X dL_law_899 dL_law_900 dL_law_901 dL_law_902 dL_law_903 hi (by decide) ?_
  refine LG_arg X dL_law_904 dL_law_905 dL_law_906 dL_law_907 dL_law_908 hi (by decide) ?_
  refine LG_arg X dL_law_909 dL_law_910 dL_law_911 dL_law_912 dL_law_913 hi (by decide) ?_
  refine LG_callV (As := [.int (iI (zs xs (i + 1))), .int (iI (zs xs (i + 2))), .int (iI (zs xs (i + 3)))]) (rest := []) (ci := 9) (np := 3) X dL_law_914 kX9_move lkL_99 (I_s0 hI) rfl rfl rfl (Nat.le_of_ble_eq_true rfl) ⟨Nat.le_of_ble_eq_true rfl, Nat.le_of_ble_eq_true rfl⟩ (mc2 := 0) (ms2 := 0) (d2 := 6) (by omega) ?_
  refine pr_move hI zs_bd zs_bd zs_bd _ (fun r sh1 S1 n1 h96 hM => ?_)
  show LG g p e s m below meth c b 917 (lsL g b i) [.int (iI r)] (hp g sh1 S1) n1 (k + 0) (u + 0)
  refine LG_aload X dL_law_917 rfl ?_
  refine LG_arg X dL_law_918 dL_law_919 dL_law_920 dL_law_921 dL_law_922 hi (by decide) ?_
  refine LG_arg X dL_law_923 dL_law_924 dL_law_925 dL_law_926 dL_law_927 hi (by decide) ?_
  refine LG_arg X dL_law_928 dL_law_929 dL_law_930 dL_law_931 dL_law_932 hi (by decide) ?_
  refine LG_callV (As := [.int (iI (zs xs (i + 1))), .int (iI (zs xs (i + 2))), .int (iI (zs xs (i + 3)))]) (rest := [.int (iI r)]) (ci := 10) (np := 3) X dL_law_933 kX10_move lkL_102 h96 rfl rfl rfl (Nat.le_of_ble_eq_true rfl) ⟨Nat.le_of_ble_eq_true rfl, Nat.le_of_ble_eq_true rfl⟩ (mc2 := 0) (ms2 := 0) (d2 := 3) (by omega) ?_
  refine hM _ (fun S2 hI2 => ?_)
  show LG g p e s m below meth c b 936 (lsL g b i) [.int (iI r), .int (iI r)] (hp g sh1 S2) n1 (k + 0 + 0) (u + 0 + 0)
  refine LG_same 1486 X dL_law_936 (by decide) ?_
  exact K sh1 S2 n1 _ _ (by omega) hI2
set_option maxHeartbeats 4000000 in
theorem cs_root (X : LX g p s m meth c b L xs) (hi : 1 ≤ i ∧ i + 5 < L) (hI : INV2 q n sh S (F, P, V, T, H, cc) (F, P, V, T, H, cc)) (hcs : k + 2 ≤ 600000 ∧ u + 36 ≤ 7302250) (K : LK g p e s m below meth c b i q k u) : LG g p e s m below meth c b 941 (lsL g b i) [] (hp g sh S) n k u := by
  refine LG_aload X dL_law_941 rfl ?_
  refine LG_arg X dL_law_942 dL_law_943 dL_law_944 dL_law_945 dL_law_946 hi (by decide) ?_
  refine LG_arg X dL_law_947 dL_law_948 dL_law_949 dL_law_950 dL_law_951 hi (by decide) ?_
  refine LG_callV (As := [.int (iI (zs xs (i + 1))), .int (iI (zs xs (i + 2)))]) (rest := []) (ci := 9) (np := 2) X dL_law_952 kX9_root lkL_103 (I_s0 hI) rfl rfl rfl (Nat.le_of_ble_eq_true rfl) ⟨Nat.le_of_ble_eq_true rfl, Nat.le_of_ble_eq_true rfl⟩ (mc2 := 0) (ms2 := 0) (d2 := 7) (by omega) ?_
  refine pr_root hI zs_bd zs_bd _ (fun r sh1 S1 n1 h96 hM => ?_)
  show LG g p e s m below meth c b 955 (lsL g b i) [.int (iI r)] (hp g sh1 S1) n1 (k + 0) (u + 0)
  refine LG_aload X dL_law_955 rfl ?_
  refine LG_arg X dL_law_956 dL_law_957 dL_law_958 dL_law_959 dL_law_960 hi (by decide) ?_
  refine LG_arg X dL_law_961 dL_law_962 dL_law_963 dL_law_964 dL_law_965 hi (by decide) ?_
  refine LG_callV (As := [.int (iI (zs xs (i + 1))), .int (iI (zs xs (i + 2)))]) (rest := [.int (iI r)]) (ci := 10) (np := 2) X dL_law_966 kX10_root lkL_106 h96 rfl rfl rfl (Nat.le_of_ble_eq_true rfl) ⟨Nat.le_of_ble_eq_true rfl, Nat.le_of_ble_eq_true rfl⟩ (mc2 := 0) (ms2 := 0) (d2 := 3) (by omega) ?_
  refine hM _ (fun S2 hI2 => ?_)
  show LG g p e s m below meth c b 969 (lsL g b i) [.int (iI r), .int (iI r)] (hp g sh1 S2) n1 (k + 0 + 0) (u + 0 + 0)
  refine LG_same 1486 X dL_law_969 (by decide) ?_
  exact K sh1 S2 n1 _ _ (by omega) hI2
set_option maxHeartbeats 4000000 in
theorem cs_order (X : LX g p s m meth c b L xs) (hi : 1 ≤ i ∧ i + 5 < L) (hI : INV2 q n sh S (F, P, V, T, H, cc) (F, P, V, T, H, cc)) (hcs : k + 2 ≤ 600000 ∧ u + 36 ≤ 7302250) (K : LK g p e s m below meth c b i q k u) : LG g p e s m below meth c b 974 (lsL g b i) [] (hp g sh S) n k u := by
  refine LG_aload X dL_law_974 rfl ?_
  refine LG_arg X dL_law_975 dL_law_976 dL_law_977 dL_law_978 dL_law_979 hi (by decide) ?_
  refine LG_arg X dL_law_980 dL_law_981 dL_law_982 dL_law_983 dL_law_984 hi (by decide) ?_
  refine LG_callV (As := [.int (iI (zs xs (i + 1))), .int (iI (zs xs (i + 2)))]) (rest := []) (ci := 9) (np := 2) X dL_law_985 kX9_order lkL_107 (I_s0 hI) rfl rfl rfl (Nat.le_of_ble_eq_true rfl) ⟨Nat.le_of_ble_eq_true rfl, Nat.le_of_ble_eq_true rfl⟩ (mc2 := 0) (ms2 := 0) (d2 := 6) (by omega) ?_
  refine pr_order hI zs_bd zs_bd _ (fun r sh1 S1 n1 h96 hM => ?_)
  show LG g p e s m below meth c b 988 (lsL g b i) [.int (iI r)] (hp g sh1 S1) n1 (k + 0) (u + 0)
  refine LG_aload X dL_law_988 rfl ?_
  refine LG_arg X dL_law_989 dL_law_990 dL_law_991 dL_law_992 dL_law_993 hi (by decide) ?_
  refine LG_arg X dL_law_994 dL_law_995 dL_law_996 dL_law_997 dL_law_998 hi (by decide) ?_
  refine LG_callV (As := [.int (iI (zs xs (i + 1))), .int (iI (zs xs (i + 2)))]) (rest := [.int (iI r)]) (ci := 10) (np := 2) X dL_law_999 kX10_order lkL_110 h96 rfl rfl rfl (Nat.le_of_ble_eq_true rfl) ⟨Nat.le_of_ble_eq_true rfl, Nat.le_of_ble_eq_true rfl⟩ (mc2 := 0) (ms2 := 0) (d2 := 3) (by omega) ?_
  refine hM _ (fun S2 hI2 => ?_)
  show LG g p e s m below meth c b 1002 (lsL g b i) [.int (iI r), .int (iI r)] (hp g sh1 S2) n1 (k + 0 + 0) (u + 0 + 0)
  refine LG_same 1486 X dL_law_1002 (by decide) ?_
  exact K sh1 S2 n1 _ _ (by omega) hI2
set_option maxHeartbeats 4000000 in
theorem cs_place (X : LX g p s m meth c b L xs) (hi : 1 ≤ i ∧ i + 5 < L) (hI : INV2 q n sh S (F, P, V, T, H, cc) (F, P, V, T, H, cc)) (hcs : k + 2 ≤ 600000 ∧ u + 36 ≤ 7302250) (K : LK g p e s m below meth c b i q k u) : LG g p e s m below meth c b 1007 (lsL g b i) [] (hp g sh S) n k u := by
  refine LG_aload X dL_law_1007 rfl ?_
  refine LG_arg X dL_law_1008 dL_law_1009 dL_law_1010 dL_law_1011 dL_law_1012 hi (by decide) ?_
  refine LG_callV (As := [.int (iI (zs xs (i + 1)))]) (rest := []) (ci := 9) (np := 1) X dL_law_1013 kX9_place lkL_111 (I_s0 hI) rfl rfl rfl (Nat.le_of_ble_eq_true rfl) ⟨Nat.le_of_ble_eq_true rfl, Nat.le_of_ble_eq_true rfl⟩ (mc2 := 0) (ms2 := 0) (d2 := 2) (by omega) ?_
  refine pr_place hI zs_bd _ (fun r sh1 S1 n1 h96 hM => ?_)
  show LG g p e s m below meth c b 1016 (lsL g b i) [.int (iI r)] (hp g sh1 S1) n1 (k + 0) (u + 0)
  refine LG_aload X dL_law_1016 rfl ?_
  refine LG_arg X dL_law_1017 dL_law_1018 dL_law_1019 dL_law_1020 dL_law_1021 hi (by decide) ?_
  refine LG_callV (As := [.int (iI (zs xs (i + 1)))]) (rest := [.int (iI r)]) (ci := 10) (np := 1) X dL_law_1022 kX10_place lkL_114 h96 rfl rfl rfl (Nat.le_of_ble_eq_true rfl) ⟨Nat.le_of_ble_eq_true rfl, Nat.le_of_ble_eq_true rfl⟩ (mc2 := 0) (ms2 := 0) (d2 := 2) (by omega) ?_
  refine hM _ (fun S2 hI2 => ?_)
  show LG g p e s m below meth c b 1025 (lsL g b i) [.int (iI r), .int (iI r)] (hp g sh1 S2) n1 (k + 0 + 0) (u + 0 + 0)
  refine LG_same 1486 X dL_law_1025 (by decide) ?_
  exact K sh1 S2 n1 _ _ (by omega) hI2
set_option maxHeartbeats 4000000 in
theorem cs_leave (X : LX g p s m meth c b L xs) (hi : 1 ≤ i ∧ i + 5 < L) (hI : INV2 q n sh S (F, P, V, T, H, cc) (F, P, V, T, H, cc)) (hcs : k + 2 ≤ 600000 ∧ u + 36 ≤ 7302250) (K : LK g p e s m below meth c b i q k u) : LG g p e s m below meth c b 1030 (lsL g b i) [] (hp g sh S) n k u := by
  refine LG_aload X dL_law_1030 rfl ?_
  refine LG_callV (As := []) (rest := []) (ci := 9) (np := 0) X dL_law_1031 kX9_leave lkL_115 (I_s0 hI) rfl rfl rfl (Nat.le_of_ble_eq_true rfl) ⟨Nat.le_of_ble_eq_true rfl, Nat.le_of_ble_eq_true rfl⟩ (mc2 := 0) (ms2 := 0) (d2 := 2) (by omega) ?_
  refine pr_leave hI _ (fun r sh1 S1 n1 h96 hM => ?_)
  show LG g p e s m below meth c b 1034 (lsL g b i) [.int (iI r)] (hp g sh1 S1) n1 (k + 0) (u + 0)
  refine LG_aload X dL_law_1034 rfl ?_
  refine LG_callV (As := []) (rest := [.int (iI r)]) (ci := 10) (np := 0) X dL_law_1035 kX10_leave lkL_118 h96 rfl rfl rfl (Nat.le_of_ble_eq_true rfl) ⟨Nat.le_of_ble_eq_true rfl, Nat.le_of_ble_eq_true rfl⟩ (mc2 := 0) (ms2 := 0) (d2 := 1) (by omega) ?_
  refine hM _ (fun S2 hI2 => ?_)
  show LG g p e s m below meth c b 1038 (lsL g b i) [.int (iI r), .int (iI r)] (hp g sh1 S2) n1 (k + 0 + 0) (u + 0 + 0)
  refine LG_same 1486 X dL_law_1038 (by decide) ?_
  exact K sh1 S2 n1 _ _ (by omega) hI2
set_option maxHeartbeats 4000000 in
theorem cs_see (X : LX g p s m meth c b L xs) (hi : 1 ≤ i ∧ i + 5 < L) (hI : INV2 q n sh S (F, P, V, T, H, cc) (F, P, V, T, H, cc)) (hcs : k + 2 ≤ 600000 ∧ u + 36 ≤ 7302250) (K : LK g p e s m below meth c b i q k u) : LG g p e s m below meth c b 1043 (lsL g b i) [] (hp g sh S) n k u := by
  refine LG_aload X dL_law_1043 rfl ?_
  refine LG_arg X dL_law_1044 dL_law_1045 dL_law_1046 dL_law_1047 dL_law_1048 hi (by decide) ?_
  refine LG_arg X dL_law_1049 dL_law_1050 dL_law_1051 dL_law_1052 dL_law_1053 hi (by decide) ?_
  refine LG_callV (As := [.int (iI (zs xs (i + 1))), .int (iI (zs xs (i + 2)))]) (rest := []) (ci := 9) (np := 2) X dL_law_1054 kX9_see lkL_119 (I_s0 hI) rfl rfl rfl (Nat.le_of_ble_eq_true rfl) ⟨Nat.le_of_ble_eq_true rfl, Nat.le_of_ble_eq_true rfl⟩ (mc2 := 0) (ms2 := 0) (d2 := 3) (by omega) ?_
  refine pr_see hI zs_bd zs_bd _ (fun r sh1 S1 n1 h96 hM => ?_)
  show LG g p e s m below meth c b 1057 (lsL g b i) [.int (iI r)] (hp g sh1 S1) n1 (k + 0) (u + 0)
  refine LG_aload X dL_law_1057 rfl ?_
  refine LG_arg X dL_law_1058 dL_law_1059 dL_law_1060 dL_law_1061 dL_law_1062 hi (by decide) ?_
  refine LG_arg X dL_law_1063 dL_law_1064 dL_law_1065 dL_law_1066 dL_law_1067 hi (by decide) ?_
  refine LG_callV (As := [.int (iI (zs xs (i + 1))), .int (iI (zs xs (i + 2)))]) (rest := [.int (iI r)]) (ci := 10) (np := 2) X dL_law_1068 kX10_see lkL_122 h96 rfl rfl rfl (Nat.le_of_ble_eq_true rfl) ⟨Nat.le_of_ble_eq_true rfl, Nat.le_of_ble_eq_true rfl⟩ (mc2 := 0) (ms2 := 0) (d2 := 3) (by omega) ?_
  refine hM _ (fun S2 hI2 => ?_)
  show LG g p e s m below meth c b 1071 (lsL g b i) [.int (iI r), .int (iI r)] (hp g sh1 S2) n1 (k + 0 + 0) (u + 0 + 0)
  refine LG_same 1486 X dL_law_1071 (by decide) ?_
  exact K sh1 S2 n1 _ _ (by omega) hI2
set_option maxHeartbeats 4000000 in
theorem cs_told (X : LX g p s m meth c b L xs) (hi : 1 ≤ i ∧ i + 5 < L) (hI : INV2 q n sh S (F, P, V, T, H, cc) (F, P, V, T, H, cc)) (hcs : k + 2 ≤ 600000 ∧ u + 36 ≤ 7302250) (K : LK g p e s m below meth c b i q k u) : LG g p e s m below meth c b 1076 (lsL g b i) [] (hp g sh S) n k u := by
  refine LG_aload X dL_law_1076 rfl ?_
  refine LG_arg X dL_law_1077 dL_law_1078 dL_law_1079 dL_law_1080 dL_law_1081 hi (by decide) ?_
  refine LG_arg X dL_law_1082 dL_law_1083 dL_law_1084 dL_law_1085 dL_law_1086 hi (by decide) ?_
  refine LG_callV (As := [.int (iI (zs xs (i + 1))), .int (iI (zs xs (i + 2)))]) (rest := []) (ci := 9) (np := 2) X dL_law_1087 kX9_told lkL_123 (I_s0 hI) rfl rfl rfl (Nat.le_of_ble_eq_true rfl) ⟨Nat.le_of_ble_eq_true rfl, Nat.le_of_ble_eq_true rfl⟩ (mc2 := 0) (ms2 := 0) (d2 := 3) (by omega) ?_
  refine pr_told hI zs_bd zs_bd _ (fun r sh1 S1 n1 h96 hM => ?_)
  show LG g p e s m below meth c b 1090 (lsL g b i) [.int (iI r)] (hp g sh1 S1) n1 (k + 0) (u + 0)
  refine LG_aload X dL_law_1090 rfl ?_
  refine LG_arg X dL_law_1091 dL_law_1092 dL_law_1093 dL_law_1094 dL_law_1095 hi (by decide) ?_
  refine LG_arg X dL_law_1096 dL_law_1097 dL_law_1098 dL_law_1099 dL_law_1100 hi (by decide) ?_
  refine LG_callV (As := [.int (iI (zs xs (i + 1))), .int (iI (zs xs (i + 2)))]) (rest := [.int (iI r)]) (ci := 10) (np := 2) X dL_law_1101 kX10_told lkL_126 h96 rfl rfl rfl (Nat.le_of_ble_eq_true rfl) ⟨Nat.le_of_ble_eq_true rfl, Nat.le_of_ble_eq_true rfl⟩ (mc2 := 0) (ms2 := 0) (d2 := 3) (by omega) ?_
  refine hM _ (fun S2 hI2 => ?_)
  show LG g p e s m below meth c b 1104 (lsL g b i) [.int (iI r), .int (iI r)] (hp g sh1 S2) n1 (k + 0 + 0) (u + 0 + 0)
  refine LG_same 1486 X dL_law_1104 (by decide) ?_
  exact K sh1 S2 n1 _ _ (by omega) hI2
set_option maxHeartbeats 4000000 in
theorem cs_value (X : LX g p s m meth c b L xs) (hi : 1 ≤ i ∧ i + 5 < L) (hI : INV2 q n sh S (F, P, V, T, H, cc) (F, P, V, T, H, cc)) (hcs : k + 2 ≤ 600000 ∧ u + 36 ≤ 7302250) (K : LK g p e s m below meth c b i q k u) : LG g p e s m below meth c b 1109 (lsL g b i) [] (hp g sh S) n k u := by
  refine LG_aload X dL_law_1109 rfl ?_
  refine LG_arg X dL_law_1110 dL_law_1111 dL_law_1112 dL_law_1113 dL_law_1114 hi (by decide) ?_
  refine LG_arg X dL_law_1115 dL_law_1116 dL_law_1117 dL_law_1118 dL_law_1119 hi (by decide) ?_
  refine LG_callV (As := [.int (iI (zs xs (i + 1))), .int (iI (zs xs (i + 2)))]) (rest := []) (ci := 9) (np := 2) X dL_law_1120 kX9_value lkL_127 (I_s0 hI) rfl rfl rfl (Nat.le_of_ble_eq_true rfl) ⟨Nat.le_of_ble_eq_true rfl, Nat.le_of_ble_eq_true rfl⟩ (mc2 := 0) (ms2 := 0) (d2 := 3) (by omega) ?_
  refine pr_value hI zs_bd zs_bd _ (fun r sh1 S1 n1 h96 hM => ?_)
  show LG g p e s m below meth c b 1123 (lsL g b i) [.int (iI r)] (hp g sh1 S1) n1 (k + 0) (u + 0)
  refine LG_aload X dL_law_1123 rfl ?_
  refine LG_arg X dL_law_1124 dL_law_1125 dL_law_1126 dL_law_1127 dL_law_1128 hi (by decide) ?_
  refine LG_arg X dL_law_1129 dL_law_1130 dL_law_1131 dL_law_1132 dL_law_1133 hi (by decide) ?_
  refine LG_callV (As := [.int (iI (zs xs (i + 1))), .int (iI (zs xs (i + 2)))]) (rest := [.int (iI r)]) (ci := 10) (np := 2) X dL_law_1134 kX10_value lkL_130 h96 rfl rfl rfl (Nat.le_of_ble_eq_true rfl) ⟨Nat.le_of_ble_eq_true rfl, Nat.le_of_ble_eq_true rfl⟩ (mc2 := 0) (ms2 := 0) (d2 := 3) (by omega) ?_
  refine hM _ (fun S2 hI2 => ?_)
  show LG g p e s m below meth c b 1137 (lsL g b i) [.int (iI r), .int (iI r)] (hp g sh1 S2) n1 (k + 0 + 0) (u + 0 + 0)
  refine LG_same 1486 X dL_law_1137 (by decide) ?_
  exact K sh1 S2 n1 _ _ (by omega) hI2
set_option maxHeartbeats 4000000 in
theorem cs_look (X : LX g p s m meth c b L xs) (hi : 1 ≤ i ∧ i + 5 < L) (hI : INV2 q n sh S (F, P, V, T, H, cc) (F, P, V, T, H, cc)) (hcs : k + 2 ≤ 600000 ∧ u + 36 ≤ 7302250) (K : LK g p e s m below meth c b i q k u) : LG g p e s m below meth c b 1142 (lsL g b i) [] (hp g sh S) n k u := by
  refine LG_aload X dL_law_1142 rfl ?_
  refine LG_arg X dL_law_1143 dL_law_1144 dL_law_1145 dL_law_1146 dL_law_1147 hi (by decide) ?_
  refine LG_callV (As := [.int (iI (zs xs (i + 1)))]) (rest := []) (ci := 9) (np := 1) X dL_law_1148 kX9_look lkL_131 (I_s0 hI) rfl rfl rfl (Nat.le_of_ble_eq_true rfl) ⟨Nat.le_of_ble_eq_true rfl, Nat.le_of_ble_eq_true rfl⟩ (mc2 := 0) (ms2 := 0) (d2 := 3) (by omega) ?_
  refine pr_look hI zs_bd _ (fun r sh1 S1 n1 h96 hM => ?_)
  show LG g p e s m below meth c b 1151 (lsL g b i) [.int (iI r)] (hp g sh1 S1) n1 (k + 0) (u + 0)
  refine LG_aload X dL_law_1151 rfl ?_
  refine LG_arg X dL_law_1152 dL_law_1153 dL_law_1154 dL_law_1155 dL_law_1156 hi (by decide) ?_
  refine LG_callV (As := [.int (iI (zs xs (i + 1)))]) (rest := [.int (iI r)]) (ci := 10) (np := 1) X dL_law_1157 kX10_look lkL_134 h96 rfl rfl rfl (Nat.le_of_ble_eq_true rfl) ⟨Nat.le_of_ble_eq_true rfl, Nat.le_of_ble_eq_true rfl⟩ (mc2 := 0) (ms2 := 0) (d2 := 3) (by omega) ?_
  refine hM _ (fun S2 hI2 => ?_)
  show LG g p e s m below meth c b 1160 (lsL g b i) [.int (iI r), .int (iI r)] (hp g sh1 S2) n1 (k + 0 + 0) (u + 0 + 0)
  refine LG_same 1486 X dL_law_1160 (by decide) ?_
  exact K sh1 S2 n1 _ _ (by omega) hI2
set_option maxHeartbeats 4000000 in
theorem cs_fill (X : LX g p s m meth c b L xs) (hi : 1 ≤ i ∧ i + 5 < L) (hI : INV2 q n sh S (F, P, V, T, H, cc) (F, P, V, T, H, cc)) (hcs : k + 2 ≤ 600000 ∧ u + 36 ≤ 7302250) (K : LK g p e s m below meth c b i q k u) : LG g p e s m below meth c b 1165 (lsL g b i) [] (hp g sh S) n k u := by
  refine LG_aload X dL_law_1165 rfl ?_
  refine LG_arg X dL_law_1166 dL_law_1167 dL_law_1168 dL_law_1169 dL_law_1170 hi (by decide) ?_
  refine LG_callV (As := [.int (iI (zs xs (i + 1)))]) (rest := []) (ci := 9) (np := 1) X dL_law_1171 kX9_fill lkL_135 (I_s0 hI) rfl rfl rfl (Nat.le_of_ble_eq_true rfl) ⟨Nat.le_of_ble_eq_true rfl, Nat.le_of_ble_eq_true rfl⟩ (mc2 := 0) (ms2 := 0) (d2 := 6) (by omega) ?_
  refine pr_fill hI zs_bd _ (fun r sh1 S1 n1 h96 hM => ?_)
  show LG g p e s m below meth c b 1174 (lsL g b i) [.int (iI r)] (hp g sh1 S1) n1 (k + 0) (u + 0)
  refine LG_aload X dL_law_1174 rfl ?_
  refine LG_arg X dL_law_1175 dL_law_1176 dL_law_1177 dL_law_1178 dL_law_1179 hi (by decide) ?_
  refine LG_callV (As := [.int (iI (zs xs (i + 1)))]) (rest := [.int (iI r)]) (ci := 10) (np := 1) X dL_law_1180 kX10_fill lkL_138 h96 rfl rfl rfl (Nat.le_of_ble_eq_true rfl) ⟨Nat.le_of_ble_eq_true rfl, Nat.le_of_ble_eq_true rfl⟩ (mc2 := 0) (ms2 := 0) (d2 := 4) (by omega) ?_
  refine hM _ (fun S2 hI2 => ?_)
  show LG g p e s m below meth c b 1183 (lsL g b i) [.int (iI r), .int (iI r)] (hp g sh1 S2) n1 (k + 0 + 0) (u + 0 + 0)
  refine LG_same 1486 X dL_law_1183 (by decide) ?_
  exact K sh1 S2 n1 _ _ (by omega) hI2
set_option maxHeartbeats 4000000 in
theorem cs_right (X : LX g p s m meth c b L xs) (hi : 1 ≤ i ∧ i + 5 < L) (hI : INV2 q n sh S (F, P, V, T, H, cc) (F, P, V, T, H, cc)) (hcs : k + 2 ≤ 600000 ∧ u + 36 ≤ 7302250) (K : LK g p e s m below meth c b i q k u) : LG g p e s m below meth c b 1188 (lsL g b i) [] (hp g sh S) n k u := by
  refine LG_aload X dL_law_1188 rfl ?_
  refine LG_arg X dL_law_1189 dL_law_1190 dL_law_1191 dL_law_1192 dL_law_1193 hi (by decide) ?_
  refine LG_arg X dL_law_1194 dL_law_1195 dL_law_1196 dL_law_1197 dL_law_1198 hi (by decide) ?_
  refine LG_callV (As := [.int (iI (zs xs (i + 1))), .int (iI (zs xs (i + 2)))]) (rest := []) (ci := 9) (np := 2) X dL_law_1199 kX9_right lkL_139 (I_s0 hI) rfl rfl rfl (Nat.le_of_ble_eq_true rfl) ⟨Nat.le_of_ble_eq_true rfl, Nat.le_of_ble_eq_true rfl⟩ (mc2 := 0) (ms2 := 0) (d2 := 7) (by omega) ?_
  refine pr_right hI zs_bd zs_bd _ (fun r sh1 S1 n1 h96 hM => ?_)
  show LG g p e s m below meth c b 1202 (lsL g b i) [.int (iI r)] (hp g sh1 S1) n1 (k + 0) (u + 0)
  refine LG_aload X dL_law_1202 rfl ?_
  refine LG_arg X dL_law_1203 dL_law_1204 dL_law_1205 dL_law_1206 dL_law_1207 hi (by decide) ?_
  refine LG_arg X dL_law_1208 dL_law_1209 dL_law_1210 dL_law_1211 dL_law_1212 hi (by decide) ?_
  refine LG_callV (As := [.int (iI (zs xs (i + 1))), .int (iI (zs xs (i + 2)))]) (rest := [.int (iI r)]) (ci := 10) (np := 2) X dL_law_1213 kX10_right lkL_142 h96 rfl rfl rfl (Nat.le_of_ble_eq_true rfl) ⟨Nat.le_of_ble_eq_true rfl, Nat.le_of_ble_eq_true rfl⟩ (mc2 := 0) (ms2 := 0) (d2 := 5) (by omega) ?_
  refine hM _ (fun S2 hI2 => ?_)
  show LG g p e s m below meth c b 1216 (lsL g b i) [.int (iI r), .int (iI r)] (hp g sh1 S2) n1 (k + 0 + 0) (u + 0 + 0)
  refine LG_same 1486 X dL_law_1216 (by decide) ?_
  exact K sh1 S2 n1 _ _ (by omega) hI2
set_option maxHeartbeats 4000000 in
theorem cs_relation (X : LX g p s m meth c b L xs) (hi : 1 ≤ i ∧ i + 5 < L) (hI : INV2 q n sh S (F, P, V, T, H, cc) (F, P, V, T, H, cc)) (hcs : k + 2 ≤ 600000 ∧ u + 36 ≤ 7302250) (K : LK g p e s m below meth c b i q k u) : LG g p e s m below meth c b 1221 (lsL g b i) [] (hp g sh S) n k u := by
  refine LG_aload X dL_law_1221 rfl ?_
  refine LG_arg X dL_law_1222 dL_law_1223 dL_law_1224 dL_law_1225 dL_law_1226 hi (by decide) ?_
  refine LG_callV (As := [.int (iI (zs xs (i + 1)))]) (rest := []) (ci := 9) (np := 1) X dL_law_1227 kX9_relation lkL_143 (I_s0 hI) rfl rfl rfl (Nat.le_of_ble_eq_true rfl) ⟨Nat.le_of_ble_eq_true rfl, Nat.le_of_ble_eq_true rfl⟩ (mc2 := 0) (ms2 := 0) (d2 := 5) (by omega) ?_
  refine pr_relation hI zs_bd _ (fun r sh1 S1 n1 h96 hM => ?_)
  show LG g p e s m below meth c b 1230 (lsL g b i) [.int (iI r)] (hp g sh1 S1) n1 (k + 0) (u + 0)
  refine LG_aload X dL_law_1230 rfl ?_
  refine LG_arg X dL_law_1231 dL_law_1232 dL_law_1233 dL_law_1234 dL_law_1235 hi (by decide) ?_
  refine LG_callV (As := [.int (iI (zs xs (i + 1)))]) (rest := [.int (iI r)]) (ci := 10) (np := 1) X dL_law_1236 kX10_relation lkL_146 h96 rfl rfl rfl (Nat.le_of_ble_eq_true rfl) ⟨Nat.le_of_ble_eq_true rfl, Nat.le_of_ble_eq_true rfl⟩ (mc2 := 0) (ms2 := 0) (d2 := 6) (by omega) ?_
  refine hM _ (fun S2 hI2 => ?_)
  show LG g p e s m below meth c b 1239 (lsL g b i) [.int (iI r), .int (iI r)] (hp g sh1 S2) n1 (k + 0 + 0) (u + 0 + 0)
  refine LG_same 1486 X dL_law_1239 (by decide) ?_
  exact K sh1 S2 n1 _ _ (by omega) hI2
set_option maxHeartbeats 4000000 in
theorem cs_power (X : LX g p s m meth c b L xs) (hi : 1 ≤ i ∧ i + 5 < L) (hI : INV2 q n sh S (F, P, V, T, H, cc) (F, P, V, T, H, cc)) (hcs : k + 2 ≤ 600000 ∧ u + 36 ≤ 7302250) (K : LK g p e s m below meth c b i q k u) : LG g p e s m below meth c b 1244 (lsL g b i) [] (hp g sh S) n k u := by
  refine LG_aload X dL_law_1244 rfl ?_
  refine LG_arg X dL_law_1245 dL_law_1246 dL_law_1247 dL_law_1248 dL_law_1249 hi (by decide) ?_
  refine LG_callV (As := [.int (iI (zs xs (i + 1)))]) (rest := []) (ci := 9) (np := 1) X dL_law_1250 kX9_power lkL_147 (I_s0 hI) rfl rfl rfl (Nat.le_of_ble_eq_true rfl) ⟨Nat.le_of_ble_eq_true rfl, Nat.le_of_ble_eq_true rfl⟩ (mc2 := 0) (ms2 := 0) (d2 := 4) (by omega) ?_
  refine pr_power hI zs_bd _ (fun r sh1 S1 n1 h96 hM => ?_)
  show LG g p e s m below meth c b 1253 (lsL g b i) [.int (iI r)] (hp g sh1 S1) n1 (k + 0) (u + 0)
  refine LG_aload X dL_law_1253 rfl ?_
  refine LG_arg X dL_law_1254 dL_law_1255 dL_law_1256 dL_law_1257 dL_law_1258 hi (by decide) ?_
  refine LG_callV (As := [.int (iI (zs xs (i + 1)))]) (rest := [.int (iI r)]) (ci := 10) (np := 1) X dL_law_1259 kX10_power lkL_150 h96 rfl rfl rfl (Nat.le_of_ble_eq_true rfl) ⟨Nat.le_of_ble_eq_true rfl, Nat.le_of_ble_eq_true rfl⟩ (mc2 := 0) (ms2 := 0) (d2 := 2) (by omega) ?_
  refine hM _ (fun S2 hI2 => ?_)
  show LG g p e s m below meth c b 1262 (lsL g b i) [.int (iI r), .int (iI r)] (hp g sh1 S2) n1 (k + 0 + 0) (u + 0 + 0)
  refine LG_same 1486 X dL_law_1262 (by decide) ?_
  exact K sh1 S2 n1 _ _ (by omega) hI2
set_option maxHeartbeats 4000000 in
theorem cs_count (X : LX g p s m meth c b L xs) (hi : 1 ≤ i ∧ i + 5 < L) (hI : INV2 q n sh S (F, P, V, T, H, cc) (F, P, V, T, H, cc)) (hcs : k + 2 ≤ 600000 ∧ u + 36 ≤ 7302250) (K : LK g p e s m below meth c b i q k u) : LG g p e s m below meth c b 1267 (lsL g b i) [] (hp g sh S) n k u := by
  refine LG_aload X dL_law_1267 rfl ?_
  refine LG_arg X dL_law_1268 dL_law_1269 dL_law_1270 dL_law_1271 dL_law_1272 hi (by decide) ?_
  refine LG_callV (As := [.int (iI (zs xs (i + 1)))]) (rest := []) (ci := 9) (np := 1) X dL_law_1273 kX9_count lkL_151 (I_s0 hI) rfl rfl rfl (Nat.le_of_ble_eq_true rfl) ⟨Nat.le_of_ble_eq_true rfl, Nat.le_of_ble_eq_true rfl⟩ (mc2 := 0) (ms2 := 0) (d2 := 2) (by omega) ?_
  refine pr_count hI zs_bd _ (fun r sh1 S1 n1 h96 hM => ?_)
  show LG g p e s m below meth c b 1276 (lsL g b i) [.int (iI r)] (hp g sh1 S1) n1 (k + 0) (u + 0)
  refine LG_aload X dL_law_1276 rfl ?_
  refine LG_arg X dL_law_1277 dL_law_1278 dL_law_1279 dL_law_1280 dL_law_1281 hi (by decide) ?_
  refine LG_callV (As := [.int (iI (zs xs (i + 1)))]) (rest := [.int (iI r)]) (ci := 10) (np := 1) X dL_law_1282 kX10_count lkL_154 h96 rfl rfl rfl (Nat.le_of_ble_eq_true rfl) ⟨Nat.le_of_ble_eq_true rfl, Nat.le_of_ble_eq_true rfl⟩ (mc2 := 0) (ms2 := 0) (d2 := 1) (by omega) ?_
  refine hM _ (fun S2 hI2 => ?_)
  show LG g p e s m below meth c b 1285 (lsL g b i) [.int (iI r), .int (iI r)] (hp g sh1 S2) n1 (k + 0 + 0) (u + 0 + 0)
  refine LG_same 1486 X dL_law_1285 (by decide) ?_
  exact K sh1 S2 n1 _ _ (by omega) hI2
set_option maxHeartbeats 4000000 in
theorem cs_counted (X : LX g p s m meth c b L xs) (hi : 1 ≤ i ∧ i + 5 < L) (hI : INV2 q n sh S (F, P, V, T, H, cc) (F, P, V, T, H, cc)) (hcs : k + 2 ≤ 600000 ∧ u + 36 ≤ 7302250) (K : LK g p e s m below meth c b i q k u) : LG g p e s m below meth c b 1290 (lsL g b i) [] (hp g sh S) n k u := by
  refine LG_aload X dL_law_1290 rfl ?_
  refine LG_callV (As := []) (rest := []) (ci := 9) (np := 0) X dL_law_1291 kX9_counted lkL_155 (I_s0 hI) rfl rfl rfl (Nat.le_of_ble_eq_true rfl) ⟨Nat.le_of_ble_eq_true rfl, Nat.le_of_ble_eq_true rfl⟩ (mc2 := 0) (ms2 := 0) (d2 := 1) (by omega) ?_
  refine pr_counted hI _ (fun r sh1 S1 n1 h96 hM => ?_)
  show LG g p e s m below meth c b 1294 (lsL g b i) [.long (iL r)] (hp g sh1 S1) n1 (k + 0) (u + 0)
  refine LG_aload X dL_law_1294 rfl ?_
  refine LG_callV (As := []) (rest := [.long (iL r)]) (ci := 10) (np := 0) X dL_law_1295 kX10_counted lkL_159 h96 rfl rfl rfl (Nat.le_of_ble_eq_true rfl) ⟨Nat.le_of_ble_eq_true rfl, Nat.le_of_ble_eq_true rfl⟩ (mc2 := 0) (ms2 := 0) (d2 := 1) (by omega) ?_
  refine hM _ (fun S2 hI2 => ?_)
  show LG g p e s m below meth c b 1298 (lsL g b i) [.long (iL r), .long (iL r)] (hp g sh1 S2) n1 (k + 0 + 0) (u + 0 + 0)
  refine LG_sameL 1486 X dL_law_1298 dL_law_1299 (by decide) ?_
  exact K sh1 S2 n1 _ _ (by omega) hI2
set_option maxHeartbeats 4000000 in
theorem cs_sheet (X : LX g p s m meth c b L xs) (hi : 1 ≤ i ∧ i + 5 < L) (hI : INV2 q n sh S (F, P, V, T, H, cc) (F, P, V, T, H, cc)) (hcs : k + 2 ≤ 600000 ∧ u + 36 ≤ 7302250) (K : LK g p e s m below meth c b i q k u) : LG g p e s m below meth c b 1304 (lsL g b i) [] (hp g sh S) n k u := by
  refine LG_aload X dL_law_1304 rfl ?_
  refine LG_arg X dL_law_1305 dL_law_1306 dL_law_1307 dL_law_1308 dL_law_1309 hi (by decide) ?_
  refine LG_arg X dL_law_1310 dL_law_1311 dL_law_1312 dL_law_1313 dL_law_1314 hi (by decide) ?_
  refine LG_arg X dL_law_1315 dL_law_1316 dL_law_1317 dL_law_1318 dL_law_1319 hi (by decide) ?_
  refine LG_callV (As := [.int (iI (zs xs (i + 1))), .int (iI (zs xs (i + 2))), .int (iI (zs xs (i + 3)))]) (rest := []) (ci := 9) (np := 3) X dL_law_1320 kX9_sheet lkL_160 (I_s0 hI) rfl rfl rfl (Nat.le_of_ble_eq_true rfl) ⟨Nat.le_of_ble_eq_true rfl, Nat.le_of_ble_eq_true rfl⟩ (mc2 := 0) (ms2 := 0) (d2 := 3) (by omega) ?_
  refine pr_sheet hI zs_bd zs_bd zs_bd _ (fun r sh1 S1 n1 h96 hM => ?_)
  show LG g p e s m below meth c b 1323 (lsL g b i) [.int (iI r)] (hp g sh1 S1) n1 (k + 0) (u + 0)
  refine LG_aload X dL_law_1323 rfl ?_
  refine LG_arg X dL_law_1324 dL_law_1325 dL_law_1326 dL_law_1327 dL_law_1328 hi (by decide) ?_
  refine LG_arg X dL_law_1329 dL_law_1330 dL_law_1331 dL_law_1332 dL_law_1333 hi (by decide) ?_
  refine LG_arg X dL_law_1334 dL_law_1335 dL_law_1336 dL_law_1337 dL_law_1338 hi (by decide) ?_
  refine LG_callV (As := [.int (iI (zs xs (i + 1))), .int (iI (zs xs (i + 2))), .int (iI (zs xs (i + 3)))]) (rest := [.int (iI r)]) (ci := 10) (np := 3) X dL_law_1339 kX10_sheet lkL_163 h96 rfl rfl rfl (Nat.le_of_ble_eq_true rfl) ⟨Nat.le_of_ble_eq_true rfl, Nat.le_of_ble_eq_true rfl⟩ (mc2 := 0) (ms2 := 0) (d2 := 3) (by omega) ?_
  refine hM _ (fun S2 hI2 => ?_)
  show LG g p e s m below meth c b 1342 (lsL g b i) [.int (iI r), .int (iI r)] (hp g sh1 S2) n1 (k + 0 + 0) (u + 0 + 0)
  refine LG_same 1486 X dL_law_1342 (by decide) ?_
  exact K sh1 S2 n1 _ _ (by omega) hI2
set_option maxHeartbeats 4000000 in
theorem cs_cell (X : LX g p s m meth c b L xs) (hi : 1 ≤ i ∧ i + 5 < L) (hI : INV2 q n sh S (F, P, V, T, H, cc) (F, P, V, T, H, cc)) (hcs : k + 2 ≤ 600000 ∧ u + 36 ≤ 7302250) (K : LK g p e s m below meth c b i q k u) : LG g p e s m below meth c b 1347 (lsL g b i) [] (hp g sh S) n k u := by
  refine LG_aload X dL_law_1347 rfl ?_
  refine LG_arg X dL_law_1348 dL_law_1349 dL_law_1350 dL_law_1351 dL_law_1352 hi (by decide) ?_
  refine LG_arg X dL_law_1353 dL_law_1354 dL_law_1355 dL_law_1356 dL_law_1357 hi (by decide) ?_
  refine LG_arg X dL_law_1358 dL_law_1359 dL_law_1360 dL_law_1361 dL_law_1362 hi (by decide) ?_
  refine LG_callV (As := [.int (iI (zs xs (i + 1))), .int (iI (zs xs (i + 2))), .int (iI (zs xs (i + 3)))]) (rest := []) (ci := 9) (np := 3) X dL_law_1363 kX9_cell lkL_164 (I_s0 hI) rfl rfl rfl (Nat.le_of_ble_eq_true rfl) ⟨Nat.le_of_ble_eq_true rfl, Nat.le_of_ble_eq_true rfl⟩ (mc2 := 0) (ms2 := 0) (d2 := 3) (by omega) ?_
  refine pr_cell hI zs_bd zs_bd zs_bd _ (fun r sh1 S1 n1 h96 hM => ?_)
  show LG g p e s m below meth c b 1366 (lsL g b i) [.int (iI r)] (hp g sh1 S1) n1 (k + 0) (u + 0)
  refine LG_aload X dL_law_1366 rfl ?_
  refine LG_arg X dL_law_1367 dL_law_1368 dL_law_1369 dL_law_1370 dL_law_1371 hi (by decide) ?_
  refine LG_arg X dL_law_1372 dL_law_1373 dL_law_1374 dL_law_1375 dL_law_1376 hi (by decide) ?_
  refine LG_arg X dL_law_1377 dL_law_1378 dL_law_1379 dL_law_1380 dL_law_1381 hi (by decide) ?_
  refine LG_callV (As := [.int (iI (zs xs (i + 1))), .int (iI (zs xs (i + 2))), .int (iI (zs xs (i + 3)))]) (rest := [.int (iI r)]) (ci := 10) (np := 3) X dL_law_1382 kX10_cell lkL_166 h96 rfl rfl rfl (Nat.le_of_ble_eq_true rfl) ⟨Nat.le_of_ble_eq_true rfl, Nat.le_of_ble_eq_true rfl⟩ (mc2 := 0) (ms2 := 0) (d2 := 3) (by omega) ?_
  refine hM _ (fun S2 hI2 => ?_)
  show LG g p e s m below meth c b 1385 (lsL g b i) [.int (iI r), .int (iI r)] (hp g sh1 S2) n1 (k + 0 + 0) (u + 0 + 0)
  refine LG_same 1486 X dL_law_1385 (by decide) ?_
  exact K sh1 S2 n1 _ _ (by omega) hI2
set_option maxHeartbeats 4000000 in
theorem cs_lay (X : LX g p s m meth c b L xs) (hi : 1 ≤ i ∧ i + 5 < L) (hI : INV2 q n sh S (F, P, V, T, H, cc) (F, P, V, T, H, cc)) (hcs : k + 2 ≤ 600000 ∧ u + 36 ≤ 7302250) (K : LK g p e s m below meth c b i q k u) : LG g p e s m below meth c b 1390 (lsL g b i) [] (hp g sh S) n k u := by
  refine LG_aload X dL_law_1390 rfl ?_
  refine LG_arg X dL_law_1391 dL_law_1392 dL_law_1393 dL_law_1394 dL_law_1395 hi (by decide) ?_
  refine LG_arg X dL_law_1396 dL_law_1397 dL_law_1398 dL_law_1399 dL_law_1400 hi (by decide) ?_
  refine LG_arg X dL_law_1401 dL_law_1402 dL_law_1403 dL_law_1404 dL_law_1405 hi (by decide) ?_
  refine LG_arg X dL_law_1406 dL_law_1407 dL_law_1408 dL_law_1409 dL_law_1410 hi (by decide) ?_
  refine LG_arg X dL_law_1411 dL_law_1412 dL_law_1413 dL_law_1414 dL_law_1415 hi (by decide) ?_
  refine LG_callV (As := [.int (iI (zs xs (i + 1))), .int (iI (zs xs (i + 2))), .int (iI (zs xs (i + 3))), .int (iI (zs xs (i + 4))), .int (iI (zs xs (i + 5)))]) (rest := []) (ci := 9) (np := 5) X dL_law_1416 kX9_lay lkL_167 (I_s0 hI) rfl rfl rfl (Nat.le_of_ble_eq_true rfl) ⟨Nat.le_of_ble_eq_true rfl, Nat.le_of_ble_eq_true rfl⟩ (mc2 := 0) (ms2 := 0) (d2 := 5) (by omega) ?_
  refine pr_lay hI zs_bd zs_bd zs_bd zs_bd zs_bd _ (fun r sh1 S1 n1 h96 hM => ?_)
  show LG g p e s m below meth c b 1419 (lsL g b i) [.int (iI r)] (hp g sh1 S1) n1 (k + 0) (u + 0)
  refine LG_aload X dL_law_1419 rfl ?_
  refine LG_arg X dL_law_1420 dL_law_1421 dL_law_1422 dL_law_1423 dL_law_1424 hi (by decide) ?_
  refine LG_arg X dL_law_1425 dL_law_1426 dL_law_1427 dL_law_1428 dL_law_1429 hi (by decide) ?_
  refine LG_arg X dL_law_1430 dL_law_1431 dL_law_1432 dL_law_1433 dL_law_1434 hi (by decide) ?_
  refine LG_arg X dL_law_1435 dL_law_1436 dL_law_1437 dL_law_1438 dL_law_1439 hi (by decide) ?_
  refine LG_arg X dL_law_1440 dL_law_1441 dL_law_1442 dL_law_1443 dL_law_1444 hi (by decide) ?_
  refine LG_callV (As := [.int (iI (zs xs (i + 1))), .int (iI (zs xs (i + 2))), .int (iI (zs xs (i + 3))), .int (iI (zs xs (i + 4))), .int (iI (zs xs (i + 5)))]) (rest := [.int (iI r)]) (ci := 10) (np := 5) X dL_law_1445 kX10_lay lkL_171 h96 rfl rfl rfl (Nat.le_of_ble_eq_true rfl) ⟨Nat.le_of_ble_eq_true rfl, Nat.le_of_ble_eq_true rfl⟩ (mc2 := 0) (ms2 := 0) (d2 := 3) (by omega) ?_
  refine hM _ (fun S2 hI2 => ?_)
  show LG g p e s m below meth c b 1448 (lsL g b i) [.int (iI r), .int (iI r)] (hp g sh1 S2) n1 (k + 0 + 0) (u + 0 + 0)
  refine LG_same 1486 X dL_law_1448 (by decide) ?_
  exact K sh1 S2 n1 _ _ (by omega) hI2
set_option maxHeartbeats 4000000 in
theorem cs_taken (X : LX g p s m meth c b L xs) (hi : 1 ≤ i ∧ i + 5 < L) (hI : INV2 q n sh S (F, P, V, T, H, cc) (F, P, V, T, H, cc)) (hcs : k + 2 ≤ 600000 ∧ u + 36 ≤ 7302250) (K : LK g p e s m below meth c b i q k u) : LG g p e s m below meth c b 1453 (lsL g b i) [] (hp g sh S) n k u := by
  refine LG_aload X dL_law_1453 rfl ?_
  refine LG_arg X dL_law_1454 dL_law_1455 dL_law_1456 dL_law_1457 dL_law_1458 hi (by decide) ?_
  refine LG_arg X dL_law_1459 dL_law_1460 dL_law_1461 dL_law_1462 dL_law_1463 hi (by decide) ?_
  refine LG_callV (As := [.int (iI (zs xs (i + 1))), .int (iI (zs xs (i + 2)))]) (rest := []) (ci := 9) (np := 2) X dL_law_1464 kX9_taken lkL_172 (I_s0 hI) rfl rfl rfl (Nat.le_of_ble_eq_true rfl) ⟨Nat.le_of_ble_eq_true rfl, Nat.le_of_ble_eq_true rfl⟩ (mc2 := 0) (ms2 := 0) (d2 := 3) (by omega) ?_
  refine pr_taken hI zs_bd zs_bd _ (fun r sh1 S1 n1 h96 hM => ?_)
  show LG g p e s m below meth c b 1467 (lsL g b i) [.int (iI r)] (hp g sh1 S1) n1 (k + 0) (u + 0)
  refine LG_aload X dL_law_1467 rfl ?_
  refine LG_arg X dL_law_1468 dL_law_1469 dL_law_1470 dL_law_1471 dL_law_1472 hi (by decide) ?_
  refine LG_arg X dL_law_1473 dL_law_1474 dL_law_1475 dL_law_1476 dL_law_1477 hi (by decide) ?_
  refine LG_callV (As := [.int (iI (zs xs (i + 1))), .int (iI (zs xs (i + 2)))]) (rest := [.int (iI r)]) (ci := 10) (np := 2) X dL_law_1478 kX10_taken lkL_175 h96 rfl rfl rfl (Nat.le_of_ble_eq_true rfl) ⟨Nat.le_of_ble_eq_true rfl, Nat.le_of_ble_eq_true rfl⟩ (mc2 := 0) (ms2 := 0) (d2 := 3) (by omega) ?_
  refine hM _ (fun S2 hI2 => ?_)
  show LG g p e s m below meth c b 1481 (lsL g b i) [.int (iI r), .int (iI r)] (hp g sh1 S2) n1 (k + 0 + 0) (u + 0 + 0)
  refine LG_same 1486 X dL_law_1481 (by decide) ?_
  exact K sh1 S2 n1 _ _ (by omega) hI2
end LROWS
