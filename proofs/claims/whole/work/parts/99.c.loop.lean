/-! The law: its branches, its loop. -/
theorem br_feed {p : Program} {l : Launch} {e : Env} {s : State} {m : MethodId} {below : List Frame} {meth : Method} {c : Code} {bs L : Nat} {xs : Nat → Int32} {cy : Nat → ClassId} {D : va_G} (X : LCx p s m meth c bs L xs cy D) (hL : L ≤ 2560) {i : Nat} (hi : i + 5 ≤ L) {σ : Sg} (h : Rel σ) (kk : ∀ σ', Rel σ' → LG p l e s m below meth c bs cy D 731 (LV bs s.heap.size i) [] σ') : LG p l e s m below meth c bs cy D 132 (LV bs s.heap.size i) [] σ := by
  obtain ⟨z, σ1, σ2, e1, e2, r⟩ := k_feed h (xs (i + 1))
  refine lg_1 X dL_law_132 ?_
  refine lg_arg X hL (j := 1) dL_law_133 dL_law_134 dL_law_135 dL_law_136 dL_law_137 rfl (by decide) (by omega) ?_
  refine lg_call X (k := 0) dL_law_138 mL_13 (e1 l s.heap.size cy D) o0 rfl (by decide) rfl rfl (Nat.le_of_ble_eq_true rfl) ?_
  refine lg_2 X dL_law_141 ?_
  refine lg_arg X hL (j := 1) dL_law_142 dL_law_143 dL_law_144 dL_law_145 dL_law_146 rfl (by decide) (by omega) ?_
  refine lg_call X (k := 159) dL_law_147 mL_17 (e2 l s.heap.size cy D) o159 rfl (by decide) rfl rfl (Nat.le_of_ble_eq_true rfl) ?_
  refine lg_eq X (tgt := 731) dL_law_150 (by decide) ?_
  exact kk _ r
theorem br_write {p : Program} {l : Launch} {e : Env} {s : State} {m : MethodId} {below : List Frame} {meth : Method} {c : Code} {bs L : Nat} {xs : Nat → Int32} {cy : Nat → ClassId} {D : va_G} (X : LCx p s m meth c bs L xs cy D) (hL : L ≤ 2560) {i : Nat} (hi : i + 5 ≤ L) {σ : Sg} (h : Rel σ) (kk : ∀ σ', Rel σ' → LG p l e s m below meth c bs cy D 731 (LV bs s.heap.size i) [] σ') : LG p l e s m below meth c bs cy D 155 (LV bs s.heap.size i) [] σ := by
  obtain ⟨z, σ1, σ2, e1, e2, r⟩ := k_write h 
  refine lg_1 X dL_law_155 ?_
  refine lg_call X (k := 0) dL_law_156 mL_18 (e1 l s.heap.size cy D) o0 rfl (by decide) rfl rfl (Nat.le_of_ble_eq_true rfl) ?_
  refine lg_2 X dL_law_159 ?_
  refine lg_call X (k := 159) dL_law_160 mL_22 (e2 l s.heap.size cy D) o159 rfl (by decide) rfl rfl (Nat.le_of_ble_eq_true rfl) ?_
  refine lg_eq X (tgt := 731) dL_law_163 (by decide) ?_
  exact kk _ r
theorem br_fault {p : Program} {l : Launch} {e : Env} {s : State} {m : MethodId} {below : List Frame} {meth : Method} {c : Code} {bs L : Nat} {xs : Nat → Int32} {cy : Nat → ClassId} {D : va_G} (X : LCx p s m meth c bs L xs cy D) (hL : L ≤ 2560) {i : Nat} (hi : i + 5 ≤ L) {σ : Sg} (h : Rel σ) (kk : ∀ σ', Rel σ' → LG p l e s m below meth c bs cy D 731 (LV bs s.heap.size i) [] σ') : LG p l e s m below meth c bs cy D 168 (LV bs s.heap.size i) [] σ := by
  obtain ⟨z, σ1, σ2, e1, e2, r⟩ := k_fault h 
  refine lg_1 X dL_law_168 ?_
  refine lg_call X (k := 0) dL_law_169 mL_23 (e1 l s.heap.size cy D) o0 rfl (by decide) rfl rfl (Nat.le_of_ble_eq_true rfl) ?_
  refine lg_2 X dL_law_172 ?_
  refine lg_call X (k := 159) dL_law_173 mL_26 (e2 l s.heap.size cy D) o159 rfl (by decide) rfl rfl (Nat.le_of_ble_eq_true rfl) ?_
  refine lg_eq X (tgt := 731) dL_law_176 (by decide) ?_
  exact kk _ r
theorem br_put {p : Program} {l : Launch} {e : Env} {s : State} {m : MethodId} {below : List Frame} {meth : Method} {c : Code} {bs L : Nat} {xs : Nat → Int32} {cy : Nat → ClassId} {D : va_G} (X : LCx p s m meth c bs L xs cy D) (hL : L ≤ 2560) {i : Nat} (hi : i + 5 ≤ L) {σ : Sg} (h : Rel σ) (kk : ∀ σ', Rel σ' → LG p l e s m below meth c bs cy D 731 (LV bs s.heap.size i) [] σ') : LG p l e s m below meth c bs cy D 181 (LV bs s.heap.size i) [] σ := by
  obtain ⟨z, σ1, σ2, e1, e2, r⟩ := k_put h (xs (i + 1)) (xs (i + 2)) (xs (i + 3)) (xs (i + 4))
  refine lg_1 X dL_law_181 ?_
  refine lg_arg X hL (j := 1) dL_law_182 dL_law_183 dL_law_184 dL_law_185 dL_law_186 rfl (by decide) (by omega) ?_
  refine lg_arg X hL (j := 2) dL_law_187 dL_law_188 dL_law_189 dL_law_190 dL_law_191 rfl (by decide) (by omega) ?_
  refine lg_arg X hL (j := 3) dL_law_192 dL_law_193 dL_law_194 dL_law_195 dL_law_196 rfl (by decide) (by omega) ?_
  refine lg_arg X hL (j := 4) dL_law_197 dL_law_198 dL_law_199 dL_law_200 dL_law_201 rfl (by decide) (by omega) ?_
  refine lg_call X (k := 0) dL_law_202 mL_27 (e1 l s.heap.size cy D) o0 rfl (by decide) rfl rfl (Nat.le_of_ble_eq_true rfl) ?_
  refine lg_2 X dL_law_205 ?_
  refine lg_arg X hL (j := 1) dL_law_206 dL_law_207 dL_law_208 dL_law_209 dL_law_210 rfl (by decide) (by omega) ?_
  refine lg_arg X hL (j := 2) dL_law_211 dL_law_212 dL_law_213 dL_law_214 dL_law_215 rfl (by decide) (by omega) ?_
  refine lg_arg X hL (j := 3) dL_law_216 dL_law_217 dL_law_218 dL_law_219 dL_law_220 rfl (by decide) (by omega) ?_
  refine lg_arg X hL (j := 4) dL_law_221 dL_law_222 dL_law_223 dL_law_224 dL_law_225 rfl (by decide) (by omega) ?_
  refine lg_call X (k := 159) dL_law_226 mL_31 (e2 l s.heap.size cy D) o159 rfl (by decide) rfl rfl (Nat.le_of_ble_eq_true rfl) ?_
  refine lg_eq X (tgt := 731) dL_law_229 (by decide) ?_
  exact kk _ r
theorem br_told {p : Program} {l : Launch} {e : Env} {s : State} {m : MethodId} {below : List Frame} {meth : Method} {c : Code} {bs L : Nat} {xs : Nat → Int32} {cy : Nat → ClassId} {D : va_G} (X : LCx p s m meth c bs L xs cy D) (hL : L ≤ 2560) {i : Nat} (hi : i + 5 ≤ L) {σ : Sg} (h : Rel σ) (kk : ∀ σ', Rel σ' → LG p l e s m below meth c bs cy D 731 (LV bs s.heap.size i) [] σ') : LG p l e s m below meth c bs cy D 234 (LV bs s.heap.size i) [] σ := by
  obtain ⟨z, σ1, σ2, e1, e2, r⟩ := k_told h (xs (i + 1))
  refine lg_1 X dL_law_234 ?_
  refine lg_arg X hL (j := 1) dL_law_235 dL_law_236 dL_law_237 dL_law_238 dL_law_239 rfl (by decide) (by omega) ?_
  refine lg_call X (k := 0) dL_law_240 mL_32 (e1 l s.heap.size cy D) o0 rfl (by decide) rfl rfl (Nat.le_of_ble_eq_true rfl) ?_
  refine lg_2 X dL_law_243 ?_
  refine lg_arg X hL (j := 1) dL_law_244 dL_law_245 dL_law_246 dL_law_247 dL_law_248 rfl (by decide) (by omega) ?_
  refine lg_call X (k := 159) dL_law_249 mL_35 (e2 l s.heap.size cy D) o159 rfl (by decide) rfl rfl (Nat.le_of_ble_eq_true rfl) ?_
  refine lg_eq X (tgt := 731) dL_law_252 (by decide) ?_
  exact kk _ r
theorem br_number {p : Program} {l : Launch} {e : Env} {s : State} {m : MethodId} {below : List Frame} {meth : Method} {c : Code} {bs L : Nat} {xs : Nat → Int32} {cy : Nat → ClassId} {D : va_G} (X : LCx p s m meth c bs L xs cy D) (hL : L ≤ 2560) {i : Nat} (hi : i + 5 ≤ L) {σ : Sg} (h : Rel σ) (kk : ∀ σ', Rel σ' → LG p l e s m below meth c bs cy D 731 (LV bs s.heap.size i) [] σ') : LG p l e s m below meth c bs cy D 257 (LV bs s.heap.size i) [] σ := by
  obtain ⟨z, σ1, σ2, e1, e2, r⟩ := k_number h (xs (i + 1)) (xs (i + 2))
  refine lg_1 X dL_law_257 ?_
  refine lg_arg X hL (j := 1) dL_law_258 dL_law_259 dL_law_260 dL_law_261 dL_law_262 rfl (by decide) (by omega) ?_
  refine lg_arg X hL (j := 2) dL_law_263 dL_law_264 dL_law_265 dL_law_266 dL_law_267 rfl (by decide) (by omega) ?_
  refine lg_call X (k := 0) dL_law_268 mL_36 (e1 l s.heap.size cy D) o0 rfl (by decide) rfl rfl (Nat.le_of_ble_eq_true rfl) ?_
  refine lg_2 X dL_law_271 ?_
  refine lg_arg X hL (j := 1) dL_law_272 dL_law_273 dL_law_274 dL_law_275 dL_law_276 rfl (by decide) (by omega) ?_
  refine lg_arg X hL (j := 2) dL_law_277 dL_law_278 dL_law_279 dL_law_280 dL_law_281 rfl (by decide) (by omega) ?_
  refine lg_call X (k := 159) dL_law_282 mL_40 (e2 l s.heap.size cy D) o159 rfl (by decide) rfl rfl (Nat.le_of_ble_eq_true rfl) ?_
  refine lg_eq X (tgt := 731) dL_law_285 (by decide) ?_
  exact kk _ r
theorem br_square {p : Program} {l : Launch} {e : Env} {s : State} {m : MethodId} {below : List Frame} {meth : Method} {c : Code} {bs L : Nat} {xs : Nat → Int32} {cy : Nat → ClassId} {D : va_G} (X : LCx p s m meth c bs L xs cy D) (hL : L ≤ 2560) {i : Nat} (hi : i + 5 ≤ L) {σ : Sg} (h : Rel σ) (kk : ∀ σ', Rel σ' → LG p l e s m below meth c bs cy D 731 (LV bs s.heap.size i) [] σ') : LG p l e s m below meth c bs cy D 290 (LV bs s.heap.size i) [] σ := by
  obtain ⟨z, σ1, σ2, e1, e2, r⟩ := k_square h (xs (i + 1)) (xs (i + 2))
  refine lg_1 X dL_law_290 ?_
  refine lg_arg X hL (j := 1) dL_law_291 dL_law_292 dL_law_293 dL_law_294 dL_law_295 rfl (by decide) (by omega) ?_
  refine lg_arg X hL (j := 2) dL_law_296 dL_law_297 dL_law_298 dL_law_299 dL_law_300 rfl (by decide) (by omega) ?_
  refine lg_call X (k := 0) dL_law_301 mL_41 (e1 l s.heap.size cy D) o0 rfl (by decide) rfl rfl (Nat.le_of_ble_eq_true rfl) ?_
  refine lg_2 X dL_law_304 ?_
  refine lg_arg X hL (j := 1) dL_law_305 dL_law_306 dL_law_307 dL_law_308 dL_law_309 rfl (by decide) (by omega) ?_
  refine lg_arg X hL (j := 2) dL_law_310 dL_law_311 dL_law_312 dL_law_313 dL_law_314 rfl (by decide) (by omega) ?_
  refine lg_call X (k := 159) dL_law_315 mL_44 (e2 l s.heap.size cy D) o159 rfl (by decide) rfl rfl (Nat.le_of_ble_eq_true rfl) ?_
  refine lg_eq X (tgt := 731) dL_law_318 (by decide) ?_
  exact kk _ r
theorem br_run {p : Program} {l : Launch} {e : Env} {s : State} {m : MethodId} {below : List Frame} {meth : Method} {c : Code} {bs L : Nat} {xs : Nat → Int32} {cy : Nat → ClassId} {D : va_G} (X : LCx p s m meth c bs L xs cy D) (hL : L ≤ 2560) {i : Nat} (hi : i + 5 ≤ L) {σ : Sg} (h : Rel σ) (kk : ∀ σ', Rel σ' → LG p l e s m below meth c bs cy D 731 (LV bs s.heap.size i) [] σ') : LG p l e s m below meth c bs cy D 323 (LV bs s.heap.size i) [] σ := by
  obtain ⟨z, σ1, σ2, e1, e2, r⟩ := k_run h (xs (i + 1)) (xs (i + 2))
  refine lg_1 X dL_law_323 ?_
  refine lg_arg X hL (j := 1) dL_law_324 dL_law_325 dL_law_326 dL_law_327 dL_law_328 rfl (by decide) (by omega) ?_
  refine lg_arg X hL (j := 2) dL_law_329 dL_law_330 dL_law_331 dL_law_332 dL_law_333 rfl (by decide) (by omega) ?_
  refine lg_call X (k := 0) dL_law_334 mL_45 (e1 l s.heap.size cy D) o0 rfl (by decide) rfl rfl (Nat.le_of_ble_eq_true rfl) ?_
  refine lg_2 X dL_law_337 ?_
  refine lg_arg X hL (j := 1) dL_law_338 dL_law_339 dL_law_340 dL_law_341 dL_law_342 rfl (by decide) (by omega) ?_
  refine lg_arg X hL (j := 2) dL_law_343 dL_law_344 dL_law_345 dL_law_346 dL_law_347 rfl (by decide) (by omega) ?_
  refine lg_call X (k := 159) dL_law_348 mL_48 (e2 l s.heap.size cy D) o159 rfl (by decide) rfl rfl (Nat.le_of_ble_eq_true rfl) ?_
  refine lg_eq X (tgt := 731) dL_law_351 (by decide) ?_
  exact kk _ r
theorem br_multiply {p : Program} {l : Launch} {e : Env} {s : State} {m : MethodId} {below : List Frame} {meth : Method} {c : Code} {bs L : Nat} {xs : Nat → Int32} {cy : Nat → ClassId} {D : va_G} (X : LCx p s m meth c bs L xs cy D) (hL : L ≤ 2560) {i : Nat} (hi : i + 5 ≤ L) {σ : Sg} (h : Rel σ) (kk : ∀ σ', Rel σ' → LG p l e s m below meth c bs cy D 731 (LV bs s.heap.size i) [] σ') : LG p l e s m below meth c bs cy D 356 (LV bs s.heap.size i) [] σ := by
  obtain ⟨z, σ1, σ2, e1, e2, r⟩ := k_multiply h (xs (i + 1)) (xs (i + 2))
  refine lg_1 X dL_law_356 ?_
  refine lg_arg X hL (j := 1) dL_law_357 dL_law_358 dL_law_359 dL_law_360 dL_law_361 rfl (by decide) (by omega) ?_
  refine lg_arg X hL (j := 2) dL_law_362 dL_law_363 dL_law_364 dL_law_365 dL_law_366 rfl (by decide) (by omega) ?_
  refine lg_call X (k := 0) dL_law_367 mL_49 (e1 l s.heap.size cy D) o0 rfl (by decide) rfl rfl (Nat.le_of_ble_eq_true rfl) ?_
  refine lg_2 X dL_law_370 ?_
  refine lg_arg X hL (j := 1) dL_law_371 dL_law_372 dL_law_373 dL_law_374 dL_law_375 rfl (by decide) (by omega) ?_
  refine lg_arg X hL (j := 2) dL_law_376 dL_law_377 dL_law_378 dL_law_379 dL_law_380 rfl (by decide) (by omega) ?_
  refine lg_call X (k := 159) dL_law_381 mL_52 (e2 l s.heap.size cy D) o159 rfl (by decide) rfl rfl (Nat.le_of_ble_eq_true rfl) ?_
  refine lg_eq X (tgt := 731) dL_law_384 (by decide) ?_
  exact kk _ r
theorem br_back {p : Program} {l : Launch} {e : Env} {s : State} {m : MethodId} {below : List Frame} {meth : Method} {c : Code} {bs L : Nat} {xs : Nat → Int32} {cy : Nat → ClassId} {D : va_G} (X : LCx p s m meth c bs L xs cy D) (hL : L ≤ 2560) {i : Nat} (hi : i + 5 ≤ L) {σ : Sg} (h : Rel σ) (kk : ∀ σ', Rel σ' → LG p l e s m below meth c bs cy D 731 (LV bs s.heap.size i) [] σ') : LG p l e s m below meth c bs cy D 389 (LV bs s.heap.size i) [] σ := by
  obtain ⟨z, σ1, σ2, e1, e2, r⟩ := k_back h (xs (i + 1))
  refine lg_1 X dL_law_389 ?_
  refine lg_arg X hL (j := 1) dL_law_390 dL_law_391 dL_law_392 dL_law_393 dL_law_394 rfl (by decide) (by omega) ?_
  refine lg_call X (k := 0) dL_law_395 mL_53 (e1 l s.heap.size cy D) o0 rfl (by decide) rfl rfl (Nat.le_of_ble_eq_true rfl) ?_
  refine lg_2 X dL_law_398 ?_
  refine lg_arg X hL (j := 1) dL_law_399 dL_law_400 dL_law_401 dL_law_402 dL_law_403 rfl (by decide) (by omega) ?_
  refine lg_call X (k := 159) dL_law_404 mL_56 (e2 l s.heap.size cy D) o159 rfl (by decide) rfl rfl (Nat.le_of_ble_eq_true rfl) ?_
  refine lg_eq X (tgt := 731) dL_law_407 (by decide) ?_
  exact kk _ r
theorem br_carry {p : Program} {l : Launch} {e : Env} {s : State} {m : MethodId} {below : List Frame} {meth : Method} {c : Code} {bs L : Nat} {xs : Nat → Int32} {cy : Nat → ClassId} {D : va_G} (X : LCx p s m meth c bs L xs cy D) (hL : L ≤ 2560) {i : Nat} (hi : i + 5 ≤ L) {σ : Sg} (h : Rel σ) (kk : ∀ σ', Rel σ' → LG p l e s m below meth c bs cy D 731 (LV bs s.heap.size i) [] σ') : LG p l e s m below meth c bs cy D 412 (LV bs s.heap.size i) [] σ := by
  obtain ⟨z, σ1, σ2, e1, e2, r⟩ := k_carry h (xs (i + 1)) (xs (i + 2))
  refine lg_1 X dL_law_412 ?_
  refine lg_arg X hL (j := 1) dL_law_413 dL_law_414 dL_law_415 dL_law_416 dL_law_417 rfl (by decide) (by omega) ?_
  refine lg_arg X hL (j := 2) dL_law_418 dL_law_419 dL_law_420 dL_law_421 dL_law_422 rfl (by decide) (by omega) ?_
  refine lg_call X (k := 0) dL_law_423 mL_57 (e1 l s.heap.size cy D) o0 rfl (by decide) rfl rfl (Nat.le_of_ble_eq_true rfl) ?_
  refine lg_2 X dL_law_426 ?_
  refine lg_arg X hL (j := 1) dL_law_427 dL_law_428 dL_law_429 dL_law_430 dL_law_431 rfl (by decide) (by omega) ?_
  refine lg_arg X hL (j := 2) dL_law_432 dL_law_433 dL_law_434 dL_law_435 dL_law_436 rfl (by decide) (by omega) ?_
  refine lg_call X (k := 159) dL_law_437 mL_60 (e2 l s.heap.size cy D) o159 rfl (by decide) rfl rfl (Nat.le_of_ble_eq_true rfl) ?_
  refine lg_eq X (tgt := 731) dL_law_440 (by decide) ?_
  exact kk _ r
theorem br_raise {p : Program} {l : Launch} {e : Env} {s : State} {m : MethodId} {below : List Frame} {meth : Method} {c : Code} {bs L : Nat} {xs : Nat → Int32} {cy : Nat → ClassId} {D : va_G} (X : LCx p s m meth c bs L xs cy D) (hL : L ≤ 2560) {i : Nat} (hi : i + 5 ≤ L) {σ : Sg} (h : Rel σ) (kk : ∀ σ', Rel σ' → LG p l e s m below meth c bs cy D 731 (LV bs s.heap.size i) [] σ') : LG p l e s m below meth c bs cy D 445 (LV bs s.heap.size i) [] σ := by
  obtain ⟨z, σ1, σ2, e1, e2, r⟩ := k_raise h (xs (i + 1)) (xs (i + 2))
  refine lg_1 X dL_law_445 ?_
  refine lg_arg X hL (j := 1) dL_law_446 dL_law_447 dL_law_448 dL_law_449 dL_law_450 rfl (by decide) (by omega) ?_
  refine lg_arg X hL (j := 2) dL_law_451 dL_law_452 dL_law_453 dL_law_454 dL_law_455 rfl (by decide) (by omega) ?_
  refine lg_call X (k := 0) dL_law_456 mL_61 (e1 l s.heap.size cy D) o0 rfl (by decide) rfl rfl (Nat.le_of_ble_eq_true rfl) ?_
  refine lg_2 X dL_law_459 ?_
  refine lg_arg X hL (j := 1) dL_law_460 dL_law_461 dL_law_462 dL_law_463 dL_law_464 rfl (by decide) (by omega) ?_
  refine lg_arg X hL (j := 2) dL_law_465 dL_law_466 dL_law_467 dL_law_468 dL_law_469 rfl (by decide) (by omega) ?_
  refine lg_call X (k := 159) dL_law_470 mL_64 (e2 l s.heap.size cy D) o159 rfl (by decide) rfl rfl (Nat.le_of_ble_eq_true rfl) ?_
  refine lg_eq X (tgt := 731) dL_law_473 (by decide) ?_
  exact kk _ r
theorem br_take {p : Program} {l : Launch} {e : Env} {s : State} {m : MethodId} {below : List Frame} {meth : Method} {c : Code} {bs L : Nat} {xs : Nat → Int32} {cy : Nat → ClassId} {D : va_G} (X : LCx p s m meth c bs L xs cy D) (hL : L ≤ 2560) {i : Nat} (hi : i + 5 ≤ L) {σ : Sg} (h : Rel σ) (kk : ∀ σ', Rel σ' → LG p l e s m below meth c bs cy D 731 (LV bs s.heap.size i) [] σ') : LG p l e s m below meth c bs cy D 478 (LV bs s.heap.size i) [] σ := by
  obtain ⟨z, σ1, σ2, e1, e2, r⟩ := k_take h (xs (i + 1))
  refine lg_1 X dL_law_478 ?_
  refine lg_arg X hL (j := 1) dL_law_479 dL_law_480 dL_law_481 dL_law_482 dL_law_483 rfl (by decide) (by omega) ?_
  refine lg_call X (k := 0) dL_law_484 mL_65 (e1 l s.heap.size cy D) o0 rfl (by decide) rfl rfl (Nat.le_of_ble_eq_true rfl) ?_
  refine lg_2 X dL_law_487 ?_
  refine lg_arg X hL (j := 1) dL_law_488 dL_law_489 dL_law_490 dL_law_491 dL_law_492 rfl (by decide) (by omega) ?_
  refine lg_call X (k := 159) dL_law_493 mL_68 (e2 l s.heap.size cy D) o159 rfl (by decide) rfl rfl (Nat.le_of_ble_eq_true rfl) ?_
  refine lg_eq X (tgt := 731) dL_law_496 (by decide) ?_
  exact kk _ r
theorem br_drift {p : Program} {l : Launch} {e : Env} {s : State} {m : MethodId} {below : List Frame} {meth : Method} {c : Code} {bs L : Nat} {xs : Nat → Int32} {cy : Nat → ClassId} {D : va_G} (X : LCx p s m meth c bs L xs cy D) (hL : L ≤ 2560) {i : Nat} (hi : i + 5 ≤ L) {σ : Sg} (h : Rel σ) (kk : ∀ σ', Rel σ' → LG p l e s m below meth c bs cy D 731 (LV bs s.heap.size i) [] σ') : LG p l e s m below meth c bs cy D 501 (LV bs s.heap.size i) [] σ := by
  obtain ⟨z, σ1, σ2, e1, e2, r⟩ := k_drift h (xs (i + 1))
  refine lg_1 X dL_law_501 ?_
  refine lg_arg X hL (j := 1) dL_law_502 dL_law_503 dL_law_504 dL_law_505 dL_law_506 rfl (by decide) (by omega) ?_
  refine lg_call X (k := 0) dL_law_507 mL_69 (e1 l s.heap.size cy D) o0 rfl (by decide) rfl rfl (Nat.le_of_ble_eq_true rfl) ?_
  refine lg_2 X dL_law_510 ?_
  refine lg_arg X hL (j := 1) dL_law_511 dL_law_512 dL_law_513 dL_law_514 dL_law_515 rfl (by decide) (by omega) ?_
  refine lg_call X (k := 159) dL_law_516 mL_72 (e2 l s.heap.size cy D) o159 rfl (by decide) rfl rfl (Nat.le_of_ble_eq_true rfl) ?_
  refine lg_eq X (tgt := 731) dL_law_519 (by decide) ?_
  exact kk _ r
theorem br_undo {p : Program} {l : Launch} {e : Env} {s : State} {m : MethodId} {below : List Frame} {meth : Method} {c : Code} {bs L : Nat} {xs : Nat → Int32} {cy : Nat → ClassId} {D : va_G} (X : LCx p s m meth c bs L xs cy D) (hL : L ≤ 2560) {i : Nat} (hi : i + 5 ≤ L) {σ : Sg} (h : Rel σ) (kk : ∀ σ', Rel σ' → LG p l e s m below meth c bs cy D 731 (LV bs s.heap.size i) [] σ') : LG p l e s m below meth c bs cy D 524 (LV bs s.heap.size i) [] σ := by
  obtain ⟨z, σ1, σ2, e1, e2, r⟩ := k_undo h (xs (i + 1))
  refine lg_1 X dL_law_524 ?_
  refine lg_arg X hL (j := 1) dL_law_525 dL_law_526 dL_law_527 dL_law_528 dL_law_529 rfl (by decide) (by omega) ?_
  refine lg_call X (k := 0) dL_law_530 mL_73 (e1 l s.heap.size cy D) o0 rfl (by decide) rfl rfl (Nat.le_of_ble_eq_true rfl) ?_
  refine lg_2 X dL_law_533 ?_
  refine lg_arg X hL (j := 1) dL_law_534 dL_law_535 dL_law_536 dL_law_537 dL_law_538 rfl (by decide) (by omega) ?_
  refine lg_call X (k := 159) dL_law_539 mL_76 (e2 l s.heap.size cy D) o159 rfl (by decide) rfl rfl (Nat.le_of_ble_eq_true rfl) ?_
  refine lg_eq X (tgt := 731) dL_law_542 (by decide) ?_
  exact kk _ r
theorem br_pair {p : Program} {l : Launch} {e : Env} {s : State} {m : MethodId} {below : List Frame} {meth : Method} {c : Code} {bs L : Nat} {xs : Nat → Int32} {cy : Nat → ClassId} {D : va_G} (X : LCx p s m meth c bs L xs cy D) (hL : L ≤ 2560) {i : Nat} (hi : i + 5 ≤ L) {σ : Sg} (h : Rel σ) (kk : ∀ σ', Rel σ' → LG p l e s m below meth c bs cy D 731 (LV bs s.heap.size i) [] σ') : LG p l e s m below meth c bs cy D 547 (LV bs s.heap.size i) [] σ := by
  obtain ⟨z, σ1, σ2, e1, e2, r⟩ := k_pair h (xs (i + 1)) (xs (i + 2)) (xs (i + 3))
  refine lg_1 X dL_law_547 ?_
  refine lg_arg X hL (j := 1) dL_law_548 dL_law_549 dL_law_550 dL_law_551 dL_law_552 rfl (by decide) (by omega) ?_
  refine lg_arg X hL (j := 2) dL_law_553 dL_law_554 dL_law_555 dL_law_556 dL_law_557 rfl (by decide) (by omega) ?_
  refine lg_arg X hL (j := 3) dL_law_558 dL_law_559 dL_law_560 dL_law_561 dL_law_562 rfl (by decide) (by omega) ?_
  refine lg_call X (k := 0) dL_law_563 mL_77 (e1 l s.heap.size cy D) o0 rfl (by decide) rfl rfl (Nat.le_of_ble_eq_true rfl) ?_
  refine lg_2 X dL_law_566 ?_
  refine lg_arg X hL (j := 1) dL_law_567 dL_law_568 dL_law_569 dL_law_570 dL_law_571 rfl (by decide) (by omega) ?_
  refine lg_arg X hL (j := 2) dL_law_572 dL_law_573 dL_law_574 dL_law_575 dL_law_576 rfl (by decide) (by omega) ?_
  refine lg_arg X hL (j := 3) dL_law_577 dL_law_578 dL_law_579 dL_law_580 dL_law_581 rfl (by decide) (by omega) ?_
  refine lg_call X (k := 159) dL_law_582 mL_81 (e2 l s.heap.size cy D) o159 rfl (by decide) rfl rfl (Nat.le_of_ble_eq_true rfl) ?_
  refine lg_eq X (tgt := 731) dL_law_585 (by decide) ?_
  exact kk _ r
theorem br_note {p : Program} {l : Launch} {e : Env} {s : State} {m : MethodId} {below : List Frame} {meth : Method} {c : Code} {bs L : Nat} {xs : Nat → Int32} {cy : Nat → ClassId} {D : va_G} (X : LCx p s m meth c bs L xs cy D) (hL : L ≤ 2560) {i : Nat} (hi : i + 5 ≤ L) {σ : Sg} (h : Rel σ) (kk : ∀ σ', Rel σ' → LG p l e s m below meth c bs cy D 731 (LV bs s.heap.size i) [] σ') : LG p l e s m below meth c bs cy D 590 (LV bs s.heap.size i) [] σ := by
  obtain ⟨z, σ1, σ2, e1, e2, r⟩ := k_note h (xs (i + 1)) (xs (i + 2)) (!(xs (i + 3) == 0))
  refine lg_1 X dL_law_590 ?_
  refine lg_arg X hL (j := 1) dL_law_591 dL_law_592 dL_law_593 dL_law_594 dL_law_595 rfl (by decide) (by omega) ?_
  refine lg_arg X hL (j := 2) dL_law_596 dL_law_597 dL_law_598 dL_law_599 dL_law_600 rfl (by decide) (by omega) ?_
  refine lg_arg X hL (j := 3) dL_law_601 dL_law_602 dL_law_603 dL_law_604 dL_law_605 rfl (by decide) (by omega) ?_
  refine lg_bool X dL_law_606 dL_law_609 dL_law_610 dL_law_613 ?_
  refine lg_call X (k := 0) dL_law_614 mL_82 (e1 l s.heap.size cy D) o0 rfl (by decide) rfl rfl (Nat.le_of_ble_eq_true rfl) ?_
  refine lg_2 X dL_law_617 ?_
  refine lg_arg X hL (j := 1) dL_law_618 dL_law_619 dL_law_620 dL_law_621 dL_law_622 rfl (by decide) (by omega) ?_
  refine lg_arg X hL (j := 2) dL_law_623 dL_law_624 dL_law_625 dL_law_626 dL_law_627 rfl (by decide) (by omega) ?_
  refine lg_arg X hL (j := 3) dL_law_628 dL_law_629 dL_law_630 dL_law_631 dL_law_632 rfl (by decide) (by omega) ?_
  refine lg_bool X dL_law_633 dL_law_636 dL_law_637 dL_law_640 ?_
  refine lg_call X (k := 159) dL_law_641 mL_86 (e2 l s.heap.size cy D) o159 rfl (by decide) rfl rfl (Nat.le_of_ble_eq_true rfl) ?_
  refine lg_eq X (tgt := 731) dL_law_644 (by decide) ?_
  exact kk _ r
theorem br_tear {p : Program} {l : Launch} {e : Env} {s : State} {m : MethodId} {below : List Frame} {meth : Method} {c : Code} {bs L : Nat} {xs : Nat → Int32} {cy : Nat → ClassId} {D : va_G} (X : LCx p s m meth c bs L xs cy D) (hL : L ≤ 2560) {i : Nat} (hi : i + 5 ≤ L) {σ : Sg} (h : Rel σ) (kk : ∀ σ', Rel σ' → LG p l e s m below meth c bs cy D 731 (LV bs s.heap.size i) [] σ') : LG p l e s m below meth c bs cy D 649 (LV bs s.heap.size i) [] σ := by
  obtain ⟨z, σ1, σ2, e1, e2, r⟩ := k_tear h 
  refine lg_1 X dL_law_649 ?_
  refine lg_call X (k := 0) dL_law_650 mL_87 (e1 l s.heap.size cy D) o0 rfl (by decide) rfl rfl (Nat.le_of_ble_eq_true rfl) ?_
  refine lg_2 X dL_law_653 ?_
  refine lg_call X (k := 159) dL_law_654 mL_90 (e2 l s.heap.size cy D) o159 rfl (by decide) rfl rfl (Nat.le_of_ble_eq_true rfl) ?_
  refine lg_eq X (tgt := 731) dL_law_657 (by decide) ?_
  exact kk _ r
theorem br_seed {p : Program} {l : Launch} {e : Env} {s : State} {m : MethodId} {below : List Frame} {meth : Method} {c : Code} {bs L : Nat} {xs : Nat → Int32} {cy : Nat → ClassId} {D : va_G} (X : LCx p s m meth c bs L xs cy D) (hL : L ≤ 2560) {i : Nat} (hi : i + 5 ≤ L) {σ : Sg} (h : Rel σ) (kk : ∀ σ', Rel σ' → LG p l e s m below meth c bs cy D 731 (LV bs s.heap.size i) [] σ') : LG p l e s m below meth c bs cy D 662 (LV bs s.heap.size i) [] σ := by
  obtain ⟨z, σ1, σ2, e1, e2, r⟩ := k_seed h (xs (i + 1))
  refine lg_1 X dL_law_662 ?_
  refine lg_arg X hL (j := 1) dL_law_663 dL_law_664 dL_law_665 dL_law_666 dL_law_667 rfl (by decide) (by omega) ?_
  refine lg_call X (k := 0) dL_law_668 mL_91 (e1 l s.heap.size cy D) o0 rfl (by decide) rfl rfl (Nat.le_of_ble_eq_true rfl) ?_
  refine lg_2 X dL_law_671 ?_
  refine lg_arg X hL (j := 1) dL_law_672 dL_law_673 dL_law_674 dL_law_675 dL_law_676 rfl (by decide) (by omega) ?_
  refine lg_call X (k := 159) dL_law_677 mL_94 (e2 l s.heap.size cy D) o159 rfl (by decide) rfl rfl (Nat.le_of_ble_eq_true rfl) ?_
  refine lg_eq X (tgt := 731) dL_law_680 (by decide) ?_
  exact kk _ r
theorem br_keep {p : Program} {l : Launch} {e : Env} {s : State} {m : MethodId} {below : List Frame} {meth : Method} {c : Code} {bs L : Nat} {xs : Nat → Int32} {cy : Nat → ClassId} {D : va_G} (X : LCx p s m meth c bs L xs cy D) (hL : L ≤ 2560) {i : Nat} (hi : i + 5 ≤ L) {σ : Sg} (h : Rel σ) (kk : ∀ σ', Rel σ' → LG p l e s m below meth c bs cy D 731 (LV bs s.heap.size i) [] σ') : LG p l e s m below meth c bs cy D 685 (LV bs s.heap.size i) [] σ := by
  obtain ⟨z, σ1, σ2, e1, e2, r⟩ := k_keep h (xs (i + 1))
  refine lg_1 X dL_law_685 ?_
  refine lg_arg X hL (j := 1) dL_law_686 dL_law_687 dL_law_688 dL_law_689 dL_law_690 rfl (by decide) (by omega) ?_
  refine lg_call X (k := 0) dL_law_691 mL_95 (e1 l s.heap.size cy D) o0 rfl (by decide) rfl rfl (Nat.le_of_ble_eq_true rfl) ?_
  refine lg_2 X dL_law_694 ?_
  refine lg_arg X hL (j := 1) dL_law_695 dL_law_696 dL_law_697 dL_law_698 dL_law_699 rfl (by decide) (by omega) ?_
  refine lg_call X (k := 159) dL_law_700 mL_98 (e2 l s.heap.size cy D) o159 rfl (by decide) rfl rfl (Nat.le_of_ble_eq_true rfl) ?_
  refine lg_eq X (tgt := 731) dL_law_703 (by decide) ?_
  exact kk _ r
theorem br_goBack {p : Program} {l : Launch} {e : Env} {s : State} {m : MethodId} {below : List Frame} {meth : Method} {c : Code} {bs L : Nat} {xs : Nat → Int32} {cy : Nat → ClassId} {D : va_G} (X : LCx p s m meth c bs L xs cy D) (hL : L ≤ 2560) {i : Nat} (hi : i + 5 ≤ L) {σ : Sg} (h : Rel σ) (kk : ∀ σ', Rel σ' → LG p l e s m below meth c bs cy D 731 (LV bs s.heap.size i) [] σ') : LG p l e s m below meth c bs cy D 708 (LV bs s.heap.size i) [] σ := by
  obtain ⟨z, σ1, σ2, e1, e2, r⟩ := k_goBack h (xs (i + 1))
  refine lg_1 X dL_law_708 ?_
  refine lg_arg X hL (j := 1) dL_law_709 dL_law_710 dL_law_711 dL_law_712 dL_law_713 rfl (by decide) (by omega) ?_
  refine lg_call X (k := 0) dL_law_714 mL_99 (e1 l s.heap.size cy D) o0 rfl (by decide) rfl rfl (Nat.le_of_ble_eq_true rfl) ?_
  refine lg_2 X dL_law_717 ?_
  refine lg_arg X hL (j := 1) dL_law_718 dL_law_719 dL_law_720 dL_law_721 dL_law_722 rfl (by decide) (by omega) ?_
  refine lg_call X (k := 159) dL_law_723 mL_102 (e2 l s.heap.size cy D) o159 rfl (by decide) rfl rfl (Nat.le_of_ble_eq_true rfl) ?_
  refine lg_eq X (tgt := 731) dL_law_726 (by decide) ?_
  exact kk _ r
theorem nI_m5 {L : Nat} (h : L ≤ 2560) : (Int32.ofNat L - nI 5).toInt = (L : Int) - 5 := by
  show (nI L - nI 5).toInt = _
  rw [Int32.toInt_sub, nI_int (by omega), nI_int (by omega), Int.bmod_eq_of_le (by omega) (by omega)]
  rfl
set_option maxRecDepth 100000 in
set_option maxHeartbeats 4000000 in
theorem lp_law {p : Program} {l : Launch} {e : Env} {s : State} {m : MethodId} {below : List Frame} {meth : Method} {c : Code} {bs L : Nat} {xs : Nat → Int32} {cy : Nat → ClassId} {D : va_G} (X : LCx p s m meth c bs L xs cy D) (hL : L ≤ 2560) : ∀ (f i : Nat) (σ : Sg), i ≤ L → L ≤ i + f → Rel σ → LG p l e s m below meth c bs cy D 18 (LV bs s.heap.size i) [] σ := by
  intro f
  induction f with
  | zero =>
    intro i σ hi hf h H locs ls hW hS hl
    refine lv_iload_n X.hx X.hb dL_law_18 rfl (lv_at hl 3 rfl) ?_
    refine lv_aload_n X.hx X.hb dL_law_19 rfl (lv_at hl 0 rfl) ?_
    refine va_slen X.hx X.hb X.hX X.hbl (by have := X.hbl; show ¬ s.heap.size ≤ bs; omega) hS dL_law_20 ?_
    refine lv_iconst (v := nI 5) X.hx X.hb dL_law_21 (by decide) ?_
    refine lv_isub X.hx X.hb dL_law_22 ?_
    refine lv_icmp_gt (tgt := 737) X.hx X.hb dL_law_23 (by decide) (fun _ => lg_end X H locs ls hW hS hl) (fun c1 => absurd ?_ c1)
    show Int32.ofNat L - nI 5 < nI i
    rw [Int32.lt_iff_toInt_lt, nI_m5 hL, nI_int (by omega)]
    omega
  | succ f ih =>
    intro i σ hi hf h H locs ls hW hS hl
    refine lv_iload_n X.hx X.hb dL_law_18 rfl (lv_at hl 3 rfl) ?_
    refine lv_aload_n X.hx X.hb dL_law_19 rfl (lv_at hl 0 rfl) ?_
    refine va_slen X.hx X.hb X.hX X.hbl (by have := X.hbl; show ¬ s.heap.size ≤ bs; omega) hS dL_law_20 ?_
    refine lv_iconst (v := nI 5) X.hx X.hb dL_law_21 (by decide) ?_
    refine lv_isub X.hx X.hb dL_law_22 ?_
    refine lv_icmp_gt (tgt := 737) X.hx X.hb dL_law_23 (by decide) (fun _ => lg_end X H locs ls hW hS hl) (fun c1 => ?_)
    have hi5 : i + 5 ≤ L := by
      by_cases q : i + 5 ≤ L
      · exact q
      · refine absurd ?_ c1
        show Int32.ofNat L - nI 5 < nI i
        rw [Int32.lt_iff_toInt_lt, nI_m5 hL, nI_int (by omega)]
        omega
    have nxt : ∀ σ', Rel σ' → LG p l e s m below meth c bs cy D 731 (LV bs s.heap.size i) [] σ' := by
      intro σ' h' H locs ls hW hS hl
      refine lv_iinc (v := nI (i + 5)) (lv' := [(3, .int (nI (i + 5))), (0, .ref bs), (1, .ref (s.heap.size + 0)), (2, .ref (s.heap.size + 159))]) X.hx X.hb dL_law_731 hl (k := 3) rfl (by rw [← nI_add]; rfl) (by decide) rfl (fun ls hl => ?_)
      refine lv_goto (tgt := 18) X.hx X.hb dL_law_734 (by decide) ?_
      exact ih (i + 5) σ' hi5 (by omega) h' H locs ls hW hS (lv_sub hl [1, 2, 3, 0] rfl)
    refine lv_aload_n X.hx X.hb dL_law_26 rfl (lv_at hl 0 rfl) ?_
    refine lv_iload_n X.hx X.hb dL_law_27 rfl (lv_at hl 3 rfl) ?_
    refine va_sld X.hx X.hb X.hX X.hbl (by have := X.hbl; show ¬ s.heap.size ≤ bs; omega) hS (vp_in_nI (show i < L by omega) (by omega)) dL_law_28 ?_
    refine lv_bipush (v := 31) X.hx X.hb dL_law_29 (by decide) ?_
    refine lv_iand X.hx X.hb dL_law_31 ?_
    generalize (xs (nI i).toNatClampNeg &&& 31) = y
    by_cases hy : 0 ≤ y.toInt ∧ y.toInt ≤ 20
    · have hc : y.toInt = 0 ∨ y.toInt = 1 ∨ y.toInt = 2 ∨ y.toInt = 3 ∨ y.toInt = 4 ∨ y.toInt = 5 ∨ y.toInt = 6 ∨ y.toInt = 7 ∨ y.toInt = 8 ∨ y.toInt = 9 ∨ y.toInt = 10 ∨ y.toInt = 11 ∨ y.toInt = 12 ∨ y.toInt = 13 ∨ y.toInt = 14 ∨ y.toInt = 15 ∨ y.toInt = 16 ∨ y.toInt = 17 ∨ y.toInt = 18 ∨ y.toInt = 19 ∨ y.toInt = 20 := by omega
      rcases hc with q | q | q | q | q | q | q | q | q | q | q | q | q | q | q | q | q | q | q | q | q
      · exact lv_tableIn (tgt := 132) (off := 100) X.hx X.hb dL_law_32 (by omega) (by omega) (by rw [q]; rfl) (by decide) (br_feed X hL hi5 h nxt H locs ls hW hS hl)
      · exact lv_tableIn (tgt := 155) (off := 123) X.hx X.hb dL_law_32 (by omega) (by omega) (by rw [q]; rfl) (by decide) (br_write X hL hi5 h nxt H locs ls hW hS hl)
      · exact lv_tableIn (tgt := 168) (off := 136) X.hx X.hb dL_law_32 (by omega) (by omega) (by rw [q]; rfl) (by decide) (br_fault X hL hi5 h nxt H locs ls hW hS hl)
      · exact lv_tableIn (tgt := 181) (off := 149) X.hx X.hb dL_law_32 (by omega) (by omega) (by rw [q]; rfl) (by decide) (br_put X hL hi5 h nxt H locs ls hW hS hl)
      · exact lv_tableIn (tgt := 234) (off := 202) X.hx X.hb dL_law_32 (by omega) (by omega) (by rw [q]; rfl) (by decide) (br_told X hL hi5 h nxt H locs ls hW hS hl)
      · exact lv_tableIn (tgt := 257) (off := 225) X.hx X.hb dL_law_32 (by omega) (by omega) (by rw [q]; rfl) (by decide) (br_number X hL hi5 h nxt H locs ls hW hS hl)
      · exact lv_tableIn (tgt := 290) (off := 258) X.hx X.hb dL_law_32 (by omega) (by omega) (by rw [q]; rfl) (by decide) (br_square X hL hi5 h nxt H locs ls hW hS hl)
      · exact lv_tableIn (tgt := 323) (off := 291) X.hx X.hb dL_law_32 (by omega) (by omega) (by rw [q]; rfl) (by decide) (br_run X hL hi5 h nxt H locs ls hW hS hl)
      · exact lv_tableIn (tgt := 356) (off := 324) X.hx X.hb dL_law_32 (by omega) (by omega) (by rw [q]; rfl) (by decide) (br_multiply X hL hi5 h nxt H locs ls hW hS hl)
      · exact lv_tableIn (tgt := 389) (off := 357) X.hx X.hb dL_law_32 (by omega) (by omega) (by rw [q]; rfl) (by decide) (br_back X hL hi5 h nxt H locs ls hW hS hl)
      · exact lv_tableIn (tgt := 412) (off := 380) X.hx X.hb dL_law_32 (by omega) (by omega) (by rw [q]; rfl) (by decide) (br_carry X hL hi5 h nxt H locs ls hW hS hl)
      · exact lv_tableIn (tgt := 445) (off := 413) X.hx X.hb dL_law_32 (by omega) (by omega) (by rw [q]; rfl) (by decide) (br_raise X hL hi5 h nxt H locs ls hW hS hl)
      · exact lv_tableIn (tgt := 478) (off := 446) X.hx X.hb dL_law_32 (by omega) (by omega) (by rw [q]; rfl) (by decide) (br_take X hL hi5 h nxt H locs ls hW hS hl)
      · exact lv_tableIn (tgt := 501) (off := 469) X.hx X.hb dL_law_32 (by omega) (by omega) (by rw [q]; rfl) (by decide) (br_drift X hL hi5 h nxt H locs ls hW hS hl)
      · exact lv_tableIn (tgt := 524) (off := 492) X.hx X.hb dL_law_32 (by omega) (by omega) (by rw [q]; rfl) (by decide) (br_undo X hL hi5 h nxt H locs ls hW hS hl)
      · exact lv_tableIn (tgt := 547) (off := 515) X.hx X.hb dL_law_32 (by omega) (by omega) (by rw [q]; rfl) (by decide) (br_pair X hL hi5 h nxt H locs ls hW hS hl)
      · exact lv_tableIn (tgt := 590) (off := 558) X.hx X.hb dL_law_32 (by omega) (by omega) (by rw [q]; rfl) (by decide) (br_note X hL hi5 h nxt H locs ls hW hS hl)
      · exact lv_tableIn (tgt := 649) (off := 617) X.hx X.hb dL_law_32 (by omega) (by omega) (by rw [q]; rfl) (by decide) (br_tear X hL hi5 h nxt H locs ls hW hS hl)
      · exact lv_tableIn (tgt := 662) (off := 630) X.hx X.hb dL_law_32 (by omega) (by omega) (by rw [q]; rfl) (by decide) (br_seed X hL hi5 h nxt H locs ls hW hS hl)
      · exact lv_tableIn (tgt := 685) (off := 653) X.hx X.hb dL_law_32 (by omega) (by omega) (by rw [q]; rfl) (by decide) (br_keep X hL hi5 h nxt H locs ls hW hS hl)
      · exact lv_tableIn (tgt := 708) (off := 676) X.hx X.hb dL_law_32 (by omega) (by omega) (by rw [q]; rfl) (by decide) (br_goBack X hL hi5 h nxt H locs ls hW hS hl)
    · exact lv_tableOut (tgt := 731) X.hx X.hb dL_law_32 (by omega) (by decide) (nxt σ h H locs ls hW hS hl)
