/-! ===== the law: one theorem a case ===== -/
section LCS
variable {p : Program} {l : Launch} {e : Env} {s : State} {m : MethodId} {below : List Frame} {meth : Method} {cd : Code} {H : Heap} {locs : List Loc} {cells slots : Nat} {Q : State → Prop} {ls : Array Slot} {D : va_G} {c : Nat → ClassId} {b L i T : Nat} {xs : Nat → Int32} {a : Nat → Nat} {bb : Nat → Nat → Nat} {a' : Nat → Nat} {o : Nat} {f : Nat → Int64} {θ : Nat → Nat → Nat → Nat} {ρ κ φ : Nat → Nat → Nat} {δ : Int64}
set_option maxRecDepth 100000 in
theorem lc_pin (hfl : l.stackTraces = false) (C : LC p s m cd b L xs D c) (h : Rl θ ρ κ φ T) (hT : T + 5760 < 200000000) (hi : i + 5 ≤ L) (hW : kw D (fun q => s.heap.size ≤ q) s.heap (wM c a' φ δ ++ (wP c a bb θ ρ κ ++ wO c o f)) H locs) (hl : lv_has ls 9 [(4, .int (nI i)), (3, .ref o), (2, .ref (a' 0)), (1, .ref (a 0)), (0, .ref b)]) (hcs : cells + 1 ≤ 601024 ∧ slots + 6 ≤ 7293033) (kk : LK p l e s m below meth cd Q b i D c a bb a' o (T + 5760) (cells + 1) (slots + 6)) : W p l e room_1 s m #[Value.ref b] below meth cd H locs cells slots Q (F0 m 164 ls []) := by
  obtain ⟨S, hK, hN, hSt, hV, hX, hbl, hL⟩ := id C
  have hA : ∀ q, s.heap.size ≤ q → (fun q => s.heap.size ≤ q) q := fun _ h => h
  obtain ⟨k, r, θ', ρ', κ', φ', f', hk, h5, h0, hR, hMW, hMI⟩ := st_pin l hfl D c (xs (i + 1)) (xs (i + 2)) (xs (i + 3)) a bb a' o f θ ρ κ φ δ T h hT
  refine lv_aload_n S.1 S.2.1 dL_law_164 rfl (lv_at hl 3 rfl) ?_
  refine lc_ld C hW 1 (by omega) (lv_at hl 0 rfl) (lv_at hl 4 rfl) dL_law_165 dL_law_166 dL_law_168 rfl dL_law_169 dL_law_170 ?_
  refine lc_ld C hW 2 (by omega) (lv_at hl 0 rfl) (lv_at hl 4 rfl) dL_law_171 dL_law_172 dL_law_174 rfl dL_law_175 dL_law_176 ?_
  refine lc_ld C hW 3 (by omega) (lv_at hl 0 rfl) (lv_at hl 4 rfl) dL_law_177 dL_law_178 dL_law_180 rfl dL_law_181 dL_law_182 ?_
  refine lv_aload_n S.1 S.2.1 dL_law_183 rfl (lv_at hl 1 rfl) ?_
  refine k_SW (rest := []) S hK hl.1 hW (KFr.rgt hW hA) hN hSt hV (hMW _) gL_law_L_pin rfl pdL_pin ⟨⟨rfl, rfl⟩, Nat.le_of_ble_eq_true rfl, Nat.le_of_ble_eq_true rfl⟩ rfl (Nat.le_of_ble_eq_true rfl) dL_law_184 hcs (fun H locs hW => ?_)
  refine lv_istore (lv' := [(5, .int (nI k)), (4, .int (nI i)), (3, .ref o), (2, .ref (a' 0)), (1, .ref (a 0)), (0, .ref b)]) S.1 S.2.1 dL_law_187 hl (by decide) rfl (fun ls hl => ?_)
  refine lv_aload_n S.1 S.2.1 dL_law_189 rfl (lv_at hl 3 rfl) ?_
  refine lc_ld C hW 1 (by omega) (lv_at hl 1 rfl) (lv_at hl 5 rfl) dL_law_190 dL_law_191 dL_law_193 rfl dL_law_194 dL_law_195 ?_
  refine lc_ld C hW 2 (by omega) (lv_at hl 1 rfl) (lv_at hl 5 rfl) dL_law_196 dL_law_197 dL_law_199 rfl dL_law_200 dL_law_201 ?_
  refine lc_ld C hW 3 (by omega) (lv_at hl 1 rfl) (lv_at hl 5 rfl) dL_law_202 dL_law_203 dL_law_205 rfl dL_law_206 dL_law_207 ?_
  refine k_VI (rest := []) S hK hl.1 hW (KFr.lft hW hA) (hMI _) gL_law_X3_pin rfl pdX3_pin ⟨⟨rfl, rfl⟩, Nat.le_of_ble_eq_true rfl, Nat.le_of_ble_eq_true rfl⟩ 0 3 rfl rfl rfl rfl (Nat.le_of_ble_eq_true rfl) dL_law_208 hcs (fun H locs hW => ?_)
  refine lv_istore (lv' := [(6, .int r), (5, .int (nI k)), (4, .int (nI i)), (3, .ref o), (2, .ref (a' 0)), (1, .ref (a 0)), (0, .ref b)]) S.1 S.2.1 dL_law_211 hl (by decide) rfl (fun ls hl => ?_)
  exact lc_tail C hW hl hk h5 h0 hcs dL_law_213 dL_law_214 dL_law_217 dL_law_219 dL_law_224 dL_law_226 dL_law_229 dL_law_230 dL_law_231 dL_law_232 dL_law_234 dL_law_235 dL_law_236 dL_law_241 (by decide) (fun H locs hW => kk _ _ _ _ _ _ _ _ _ hR hW (lv_sub hl [2, 3, 4, 5, 6] rfl))
set_option maxRecDepth 100000 in
theorem lc_pull (hfl : l.stackTraces = false) (C : LC p s m cd b L xs D c) (h : Rl θ ρ κ φ T) (hT : T + 5760 < 200000000) (hi : i + 5 ≤ L) (hW : kw D (fun q => s.heap.size ≤ q) s.heap (wM c a' φ δ ++ (wP c a bb θ ρ κ ++ wO c o f)) H locs) (hl : lv_has ls 9 [(4, .int (nI i)), (3, .ref o), (2, .ref (a' 0)), (1, .ref (a 0)), (0, .ref b)]) (hcs : cells + 1 ≤ 601024 ∧ slots + 6 ≤ 7293033) (kk : LK p l e s m below meth cd Q b i D c a bb a' o (T + 5760) (cells + 1) (slots + 6)) : W p l e room_1 s m #[Value.ref b] below meth cd H locs cells slots Q (F0 m 244 ls []) := by
  obtain ⟨S, hK, hN, hSt, hV, hX, hbl, hL⟩ := id C
  have hA : ∀ q, s.heap.size ≤ q → (fun q => s.heap.size ≤ q) q := fun _ h => h
  obtain ⟨k, r, θ', ρ', κ', φ', f', hk, h5, h0, hR, hMW, hMI⟩ := st_pull l hfl D c (xs (i + 1)) (xs (i + 2)) (xs (i + 3)) (xs (i + 4)) a bb a' o f θ ρ κ φ δ T h hT
  refine lv_aload_n S.1 S.2.1 dL_law_244 rfl (lv_at hl 3 rfl) ?_
  refine lc_ld C hW 1 (by omega) (lv_at hl 0 rfl) (lv_at hl 4 rfl) dL_law_245 dL_law_246 dL_law_248 rfl dL_law_249 dL_law_250 ?_
  refine lc_ld C hW 2 (by omega) (lv_at hl 0 rfl) (lv_at hl 4 rfl) dL_law_251 dL_law_252 dL_law_254 rfl dL_law_255 dL_law_256 ?_
  refine lc_ld C hW 3 (by omega) (lv_at hl 0 rfl) (lv_at hl 4 rfl) dL_law_257 dL_law_258 dL_law_260 rfl dL_law_261 dL_law_262 ?_
  refine lc_ld C hW 4 (by omega) (lv_at hl 0 rfl) (lv_at hl 4 rfl) dL_law_263 dL_law_264 dL_law_266 rfl dL_law_267 dL_law_268 ?_
  refine lv_aload_n S.1 S.2.1 dL_law_269 rfl (lv_at hl 1 rfl) ?_
  refine k_SW (rest := []) S hK hl.1 hW (KFr.rgt hW hA) hN hSt hV (hMW _) gL_law_L_pull rfl pdL_pull ⟨⟨rfl, rfl⟩, Nat.le_of_ble_eq_true rfl, Nat.le_of_ble_eq_true rfl⟩ rfl (Nat.le_of_ble_eq_true rfl) dL_law_270 hcs (fun H locs hW => ?_)
  refine lv_istore (lv' := [(5, .int (nI k)), (4, .int (nI i)), (3, .ref o), (2, .ref (a' 0)), (1, .ref (a 0)), (0, .ref b)]) S.1 S.2.1 dL_law_273 hl (by decide) rfl (fun ls hl => ?_)
  refine lv_aload_n S.1 S.2.1 dL_law_275 rfl (lv_at hl 3 rfl) ?_
  refine lc_ld C hW 1 (by omega) (lv_at hl 1 rfl) (lv_at hl 5 rfl) dL_law_276 dL_law_277 dL_law_279 rfl dL_law_280 dL_law_281 ?_
  refine lc_ld C hW 2 (by omega) (lv_at hl 1 rfl) (lv_at hl 5 rfl) dL_law_282 dL_law_283 dL_law_285 rfl dL_law_286 dL_law_287 ?_
  refine lc_ld C hW 3 (by omega) (lv_at hl 1 rfl) (lv_at hl 5 rfl) dL_law_288 dL_law_289 dL_law_291 rfl dL_law_292 dL_law_293 ?_
  refine lc_ld C hW 4 (by omega) (lv_at hl 1 rfl) (lv_at hl 5 rfl) dL_law_294 dL_law_295 dL_law_297 rfl dL_law_298 dL_law_299 ?_
  refine k_VI (rest := []) S hK hl.1 hW (KFr.lft hW hA) (hMI _) gL_law_X3_pull rfl pdX3_pull ⟨⟨rfl, rfl⟩, Nat.le_of_ble_eq_true rfl, Nat.le_of_ble_eq_true rfl⟩ 0 3 rfl rfl rfl rfl (Nat.le_of_ble_eq_true rfl) dL_law_300 hcs (fun H locs hW => ?_)
  refine lv_istore (lv' := [(6, .int r), (5, .int (nI k)), (4, .int (nI i)), (3, .ref o), (2, .ref (a' 0)), (1, .ref (a 0)), (0, .ref b)]) S.1 S.2.1 dL_law_303 hl (by decide) rfl (fun ls hl => ?_)
  exact lc_tail C hW hl hk h5 h0 hcs dL_law_305 dL_law_306 dL_law_309 dL_law_311 dL_law_316 dL_law_318 dL_law_321 dL_law_322 dL_law_323 dL_law_324 dL_law_326 dL_law_327 dL_law_328 dL_law_333 (by decide) (fun H locs hW => kk _ _ _ _ _ _ _ _ _ hR hW (lv_sub hl [2, 3, 4, 5, 6] rfl))
set_option maxRecDepth 100000 in
theorem lc_copy (hfl : l.stackTraces = false) (C : LC p s m cd b L xs D c) (h : Rl θ ρ κ φ T) (hT : T + 5760 < 200000000) (hi : i + 5 ≤ L) (hW : kw D (fun q => s.heap.size ≤ q) s.heap (wM c a' φ δ ++ (wP c a bb θ ρ κ ++ wO c o f)) H locs) (hl : lv_has ls 9 [(4, .int (nI i)), (3, .ref o), (2, .ref (a' 0)), (1, .ref (a 0)), (0, .ref b)]) (hcs : cells + 1 ≤ 601024 ∧ slots + 6 ≤ 7293033) (kk : LK p l e s m below meth cd Q b i D c a bb a' o (T + 5760) (cells + 1) (slots + 6)) : W p l e room_1 s m #[Value.ref b] below meth cd H locs cells slots Q (F0 m 336 ls []) := by
  obtain ⟨S, hK, hN, hSt, hV, hX, hbl, hL⟩ := id C
  have hA : ∀ q, s.heap.size ≤ q → (fun q => s.heap.size ≤ q) q := fun _ h => h
  obtain ⟨k, r, θ', ρ', κ', φ', f', hk, h5, h0, hR, hMW, hMI⟩ := st_copy l hfl D c (xs (i + 1)) (xs (i + 2)) (xs (i + 3)) (xs (i + 4)) a bb a' o f θ ρ κ φ δ T h hT
  refine lv_aload_n S.1 S.2.1 dL_law_336 rfl (lv_at hl 3 rfl) ?_
  refine lc_ld C hW 1 (by omega) (lv_at hl 0 rfl) (lv_at hl 4 rfl) dL_law_337 dL_law_338 dL_law_340 rfl dL_law_341 dL_law_342 ?_
  refine lc_ld C hW 2 (by omega) (lv_at hl 0 rfl) (lv_at hl 4 rfl) dL_law_343 dL_law_344 dL_law_346 rfl dL_law_347 dL_law_348 ?_
  refine lc_ld C hW 3 (by omega) (lv_at hl 0 rfl) (lv_at hl 4 rfl) dL_law_349 dL_law_350 dL_law_352 rfl dL_law_353 dL_law_354 ?_
  refine lc_ld C hW 4 (by omega) (lv_at hl 0 rfl) (lv_at hl 4 rfl) dL_law_355 dL_law_356 dL_law_358 rfl dL_law_359 dL_law_360 ?_
  refine lv_aload_n S.1 S.2.1 dL_law_361 rfl (lv_at hl 1 rfl) ?_
  refine k_SW (rest := []) S hK hl.1 hW (KFr.rgt hW hA) hN hSt hV (hMW _) gL_law_L_copy rfl pdL_copy ⟨⟨rfl, rfl⟩, Nat.le_of_ble_eq_true rfl, Nat.le_of_ble_eq_true rfl⟩ rfl (Nat.le_of_ble_eq_true rfl) dL_law_362 hcs (fun H locs hW => ?_)
  refine lv_istore (lv' := [(5, .int (nI k)), (4, .int (nI i)), (3, .ref o), (2, .ref (a' 0)), (1, .ref (a 0)), (0, .ref b)]) S.1 S.2.1 dL_law_365 hl (by decide) rfl (fun ls hl => ?_)
  refine lv_aload_n S.1 S.2.1 dL_law_367 rfl (lv_at hl 3 rfl) ?_
  refine lc_ld C hW 1 (by omega) (lv_at hl 1 rfl) (lv_at hl 5 rfl) dL_law_368 dL_law_369 dL_law_371 rfl dL_law_372 dL_law_373 ?_
  refine lc_ld C hW 2 (by omega) (lv_at hl 1 rfl) (lv_at hl 5 rfl) dL_law_374 dL_law_375 dL_law_377 rfl dL_law_378 dL_law_379 ?_
  refine lc_ld C hW 3 (by omega) (lv_at hl 1 rfl) (lv_at hl 5 rfl) dL_law_380 dL_law_381 dL_law_383 rfl dL_law_384 dL_law_385 ?_
  refine lc_ld C hW 4 (by omega) (lv_at hl 1 rfl) (lv_at hl 5 rfl) dL_law_386 dL_law_387 dL_law_389 rfl dL_law_390 dL_law_391 ?_
  refine k_VI (rest := []) S hK hl.1 hW (KFr.lft hW hA) (hMI _) gL_law_X3_copy rfl pdX3_copy ⟨⟨rfl, rfl⟩, Nat.le_of_ble_eq_true rfl, Nat.le_of_ble_eq_true rfl⟩ 0 3 rfl rfl rfl rfl (Nat.le_of_ble_eq_true rfl) dL_law_392 hcs (fun H locs hW => ?_)
  refine lv_istore (lv' := [(6, .int r), (5, .int (nI k)), (4, .int (nI i)), (3, .ref o), (2, .ref (a' 0)), (1, .ref (a 0)), (0, .ref b)]) S.1 S.2.1 dL_law_395 hl (by decide) rfl (fun ls hl => ?_)
  exact lc_tail C hW hl hk h5 h0 hcs dL_law_397 dL_law_398 dL_law_401 dL_law_403 dL_law_408 dL_law_410 dL_law_413 dL_law_414 dL_law_415 dL_law_416 dL_law_418 dL_law_419 dL_law_420 dL_law_425 (by decide) (fun H locs hW => kk _ _ _ _ _ _ _ _ _ hR hW (lv_sub hl [2, 3, 4, 5, 6] rfl))
set_option maxRecDepth 100000 in
theorem lc_wind (hfl : l.stackTraces = false) (C : LC p s m cd b L xs D c) (h : Rl θ ρ κ φ T) (hT : T + 5760 < 200000000) (hi : i + 5 ≤ L) (hW : kw D (fun q => s.heap.size ≤ q) s.heap (wM c a' φ δ ++ (wP c a bb θ ρ κ ++ wO c o f)) H locs) (hl : lv_has ls 9 [(4, .int (nI i)), (3, .ref o), (2, .ref (a' 0)), (1, .ref (a 0)), (0, .ref b)]) (hcs : cells + 1 ≤ 601024 ∧ slots + 6 ≤ 7293033) (kk : LK p l e s m below meth cd Q b i D c a bb a' o (T + 5760) (cells + 1) (slots + 6)) : W p l e room_1 s m #[Value.ref b] below meth cd H locs cells slots Q (F0 m 428 ls []) := by
  obtain ⟨S, hK, hN, hSt, hV, hX, hbl, hL⟩ := id C
  have hA : ∀ q, s.heap.size ≤ q → (fun q => s.heap.size ≤ q) q := fun _ h => h
  obtain ⟨k, r, θ', ρ', κ', φ', f', hk, h5, h0, hR, hMW, hMI⟩ := st_wind l hfl D c (xs (i + 1)) a bb a' o f θ ρ κ φ δ T h hT
  refine lv_aload_n S.1 S.2.1 dL_law_428 rfl (lv_at hl 3 rfl) ?_
  refine lc_ld C hW 1 (by omega) (lv_at hl 0 rfl) (lv_at hl 4 rfl) dL_law_429 dL_law_430 dL_law_432 rfl dL_law_433 dL_law_434 ?_
  refine lv_aload_n S.1 S.2.1 dL_law_435 rfl (lv_at hl 1 rfl) ?_
  refine k_SW (rest := []) S hK hl.1 hW (KFr.rgt hW hA) hN hSt hV (hMW _) gL_law_L_wind rfl pdL_wind ⟨⟨rfl, rfl⟩, Nat.le_of_ble_eq_true rfl, Nat.le_of_ble_eq_true rfl⟩ rfl (Nat.le_of_ble_eq_true rfl) dL_law_436 hcs (fun H locs hW => ?_)
  refine lv_istore (lv' := [(5, .int (nI k)), (4, .int (nI i)), (3, .ref o), (2, .ref (a' 0)), (1, .ref (a 0)), (0, .ref b)]) S.1 S.2.1 dL_law_439 hl (by decide) rfl (fun ls hl => ?_)
  refine lv_aload_n S.1 S.2.1 dL_law_441 rfl (lv_at hl 3 rfl) ?_
  refine lc_ld C hW 1 (by omega) (lv_at hl 1 rfl) (lv_at hl 5 rfl) dL_law_442 dL_law_443 dL_law_445 rfl dL_law_446 dL_law_447 ?_
  refine k_VI (rest := []) S hK hl.1 hW (KFr.lft hW hA) (hMI _) gL_law_X3_wind rfl pdX3_wind ⟨⟨rfl, rfl⟩, Nat.le_of_ble_eq_true rfl, Nat.le_of_ble_eq_true rfl⟩ 0 3 rfl rfl rfl rfl (Nat.le_of_ble_eq_true rfl) dL_law_448 hcs (fun H locs hW => ?_)
  refine lv_istore (lv' := [(6, .int r), (5, .int (nI k)), (4, .int (nI i)), (3, .ref o), (2, .ref (a' 0)), (1, .ref (a 0)), (0, .ref b)]) S.1 S.2.1 dL_law_451 hl (by decide) rfl (fun ls hl => ?_)
  exact lc_tail C hW hl hk h5 h0 hcs dL_law_453 dL_law_454 dL_law_457 dL_law_459 dL_law_464 dL_law_466 dL_law_469 dL_law_470 dL_law_471 dL_law_472 dL_law_474 dL_law_475 dL_law_476 dL_law_481 (by decide) (fun H locs hW => kk _ _ _ _ _ _ _ _ _ hR hW (lv_sub hl [2, 3, 4, 5, 6] rfl))
set_option maxRecDepth 100000 in
theorem lc_vanes (hfl : l.stackTraces = false) (C : LC p s m cd b L xs D c) (h : Rl θ ρ κ φ T) (hT : T + 5760 < 200000000) (hi : i + 5 ≤ L) (hW : kw D (fun q => s.heap.size ≤ q) s.heap (wM c a' φ δ ++ (wP c a bb θ ρ κ ++ wO c o f)) H locs) (hl : lv_has ls 9 [(4, .int (nI i)), (3, .ref o), (2, .ref (a' 0)), (1, .ref (a 0)), (0, .ref b)]) (hcs : cells + 1 ≤ 601024 ∧ slots + 6 ≤ 7293033) (kk : LK p l e s m below meth cd Q b i D c a bb a' o (T + 5760) (cells + 1) (slots + 6)) : W p l e room_1 s m #[Value.ref b] below meth cd H locs cells slots Q (F0 m 484 ls []) := by
  obtain ⟨S, hK, hN, hSt, hV, hX, hbl, hL⟩ := id C
  have hA : ∀ q, s.heap.size ≤ q → (fun q => s.heap.size ≤ q) q := fun _ h => h
  obtain ⟨k, r, θ', ρ', κ', φ', f', hk, h5, h0, hR, hMW, hMI⟩ := st_vanes l hfl D c (xs (i + 1)) a bb a' o f θ ρ κ φ δ T h hT
  refine lv_aload_n S.1 S.2.1 dL_law_484 rfl (lv_at hl 3 rfl) ?_
  refine lc_ld C hW 1 (by omega) (lv_at hl 0 rfl) (lv_at hl 4 rfl) dL_law_485 dL_law_486 dL_law_488 rfl dL_law_489 dL_law_490 ?_
  refine lv_aload_n S.1 S.2.1 dL_law_491 rfl (lv_at hl 1 rfl) ?_
  refine k_SW (rest := []) S hK hl.1 hW (KFr.rgt hW hA) hN hSt hV (hMW _) gL_law_L_vanes rfl pdL_vanes ⟨⟨rfl, rfl⟩, Nat.le_of_ble_eq_true rfl, Nat.le_of_ble_eq_true rfl⟩ rfl (Nat.le_of_ble_eq_true rfl) dL_law_492 hcs (fun H locs hW => ?_)
  refine lv_istore (lv' := [(5, .int (nI k)), (4, .int (nI i)), (3, .ref o), (2, .ref (a' 0)), (1, .ref (a 0)), (0, .ref b)]) S.1 S.2.1 dL_law_495 hl (by decide) rfl (fun ls hl => ?_)
  refine lv_aload_n S.1 S.2.1 dL_law_497 rfl (lv_at hl 3 rfl) ?_
  refine lc_ld C hW 1 (by omega) (lv_at hl 1 rfl) (lv_at hl 5 rfl) dL_law_498 dL_law_499 dL_law_501 rfl dL_law_502 dL_law_503 ?_
  refine k_VI (rest := []) S hK hl.1 hW (KFr.lft hW hA) (hMI _) gL_law_X3_vanes rfl pdX3_vanes ⟨⟨rfl, rfl⟩, Nat.le_of_ble_eq_true rfl, Nat.le_of_ble_eq_true rfl⟩ 0 3 rfl rfl rfl rfl (Nat.le_of_ble_eq_true rfl) dL_law_504 hcs (fun H locs hW => ?_)
  refine lv_istore (lv' := [(6, .int r), (5, .int (nI k)), (4, .int (nI i)), (3, .ref o), (2, .ref (a' 0)), (1, .ref (a 0)), (0, .ref b)]) S.1 S.2.1 dL_law_507 hl (by decide) rfl (fun ls hl => ?_)
  exact lc_tail C hW hl hk h5 h0 hcs dL_law_509 dL_law_510 dL_law_513 dL_law_515 dL_law_520 dL_law_522 dL_law_525 dL_law_526 dL_law_527 dL_law_528 dL_law_530 dL_law_531 dL_law_532 dL_law_537 (by decide) (fun H locs hW => kk _ _ _ _ _ _ _ _ _ hR hW (lv_sub hl [2, 3, 4, 5, 6] rfl))
set_option maxRecDepth 100000 in
theorem lc_shift (hfl : l.stackTraces = false) (C : LC p s m cd b L xs D c) (h : Rl θ ρ κ φ T) (hT : T + 5760 < 200000000) (hi : i + 5 ≤ L) (hW : kw D (fun q => s.heap.size ≤ q) s.heap (wM c a' φ δ ++ (wP c a bb θ ρ κ ++ wO c o f)) H locs) (hl : lv_has ls 9 [(4, .int (nI i)), (3, .ref o), (2, .ref (a' 0)), (1, .ref (a 0)), (0, .ref b)]) (hcs : cells + 1 ≤ 601024 ∧ slots + 6 ≤ 7293033) (kk : LK p l e s m below meth cd Q b i D c a bb a' o (T + 5760) (cells + 1) (slots + 6)) : W p l e room_1 s m #[Value.ref b] below meth cd H locs cells slots Q (F0 m 540 ls []) := by
  obtain ⟨S, hK, hN, hSt, hV, hX, hbl, hL⟩ := id C
  have hA : ∀ q, s.heap.size ≤ q → (fun q => s.heap.size ≤ q) q := fun _ h => h
  obtain ⟨k, r, θ', ρ', κ', φ', f', hk, h5, h0, hR, hMW, hMI⟩ := st_shift l hfl D c (xs (i + 1)) a bb a' o f θ ρ κ φ δ T h hT
  refine lv_aload_n S.1 S.2.1 dL_law_540 rfl (lv_at hl 3 rfl) ?_
  refine lc_ld C hW 1 (by omega) (lv_at hl 0 rfl) (lv_at hl 4 rfl) dL_law_541 dL_law_542 dL_law_544 rfl dL_law_545 dL_law_546 ?_
  refine lv_aload_n S.1 S.2.1 dL_law_547 rfl (lv_at hl 1 rfl) ?_
  refine k_SW (rest := []) S hK hl.1 hW (KFr.rgt hW hA) hN hSt hV (hMW _) gL_law_L_shift rfl pdL_shift ⟨⟨rfl, rfl⟩, Nat.le_of_ble_eq_true rfl, Nat.le_of_ble_eq_true rfl⟩ rfl (Nat.le_of_ble_eq_true rfl) dL_law_548 hcs (fun H locs hW => ?_)
  refine lv_istore (lv' := [(5, .int (nI k)), (4, .int (nI i)), (3, .ref o), (2, .ref (a' 0)), (1, .ref (a 0)), (0, .ref b)]) S.1 S.2.1 dL_law_551 hl (by decide) rfl (fun ls hl => ?_)
  refine lv_aload_n S.1 S.2.1 dL_law_553 rfl (lv_at hl 3 rfl) ?_
  refine lc_ld C hW 1 (by omega) (lv_at hl 1 rfl) (lv_at hl 5 rfl) dL_law_554 dL_law_555 dL_law_557 rfl dL_law_558 dL_law_559 ?_
  refine k_VI (rest := []) S hK hl.1 hW (KFr.lft hW hA) (hMI _) gL_law_X3_shift rfl pdX3_shift ⟨⟨rfl, rfl⟩, Nat.le_of_ble_eq_true rfl, Nat.le_of_ble_eq_true rfl⟩ 0 3 rfl rfl rfl rfl (Nat.le_of_ble_eq_true rfl) dL_law_560 hcs (fun H locs hW => ?_)
  refine lv_istore (lv' := [(6, .int r), (5, .int (nI k)), (4, .int (nI i)), (3, .ref o), (2, .ref (a' 0)), (1, .ref (a 0)), (0, .ref b)]) S.1 S.2.1 dL_law_563 hl (by decide) rfl (fun ls hl => ?_)
  exact lc_tail C hW hl hk h5 h0 hcs dL_law_565 dL_law_566 dL_law_569 dL_law_571 dL_law_576 dL_law_578 dL_law_581 dL_law_582 dL_law_583 dL_law_584 dL_law_586 dL_law_587 dL_law_588 dL_law_593 (by decide) (fun H locs hW => kk _ _ _ _ _ _ _ _ _ hR hW (lv_sub hl [2, 3, 4, 5, 6] rfl))
set_option maxRecDepth 100000 in
theorem lc_play (hfl : l.stackTraces = false) (C : LC p s m cd b L xs D c) (h : Rl θ ρ κ φ T) (hT : T + 5760 < 200000000) (hi : i + 5 ≤ L) (hW : kw D (fun q => s.heap.size ≤ q) s.heap (wM c a' φ δ ++ (wP c a bb θ ρ κ ++ wO c o f)) H locs) (hl : lv_has ls 9 [(4, .int (nI i)), (3, .ref o), (2, .ref (a' 0)), (1, .ref (a 0)), (0, .ref b)]) (hcs : cells + 1 ≤ 601024 ∧ slots + 6 ≤ 7293033) (kk : LK p l e s m below meth cd Q b i D c a bb a' o (T + 5760) (cells + 1) (slots + 6)) : W p l e room_1 s m #[Value.ref b] below meth cd H locs cells slots Q (F0 m 596 ls []) := by
  obtain ⟨S, hK, hN, hSt, hV, hX, hbl, hL⟩ := id C
  have hA : ∀ q, s.heap.size ≤ q → (fun q => s.heap.size ≤ q) q := fun _ h => h
  obtain ⟨k, r, θ', ρ', κ', φ', f', hk, h5, h0, hR, hMW, hMI⟩ := st_play l hfl D c (xs (i + 1)) a bb a' o f θ ρ κ φ δ T h hT
  refine lv_aload_n S.1 S.2.1 dL_law_596 rfl (lv_at hl 3 rfl) ?_
  refine lc_ld C hW 1 (by omega) (lv_at hl 0 rfl) (lv_at hl 4 rfl) dL_law_597 dL_law_598 dL_law_600 rfl dL_law_601 dL_law_602 ?_
  refine lv_aload_n S.1 S.2.1 dL_law_603 rfl (lv_at hl 1 rfl) ?_
  refine k_SW (rest := []) S hK hl.1 hW (KFr.rgt hW hA) hN hSt hV (hMW _) gL_law_L_play rfl pdL_play ⟨⟨rfl, rfl⟩, Nat.le_of_ble_eq_true rfl, Nat.le_of_ble_eq_true rfl⟩ rfl (Nat.le_of_ble_eq_true rfl) dL_law_604 hcs (fun H locs hW => ?_)
  refine lv_istore (lv' := [(5, .int (nI k)), (4, .int (nI i)), (3, .ref o), (2, .ref (a' 0)), (1, .ref (a 0)), (0, .ref b)]) S.1 S.2.1 dL_law_607 hl (by decide) rfl (fun ls hl => ?_)
  refine lv_aload_n S.1 S.2.1 dL_law_609 rfl (lv_at hl 3 rfl) ?_
  refine lc_ld C hW 1 (by omega) (lv_at hl 1 rfl) (lv_at hl 5 rfl) dL_law_610 dL_law_611 dL_law_613 rfl dL_law_614 dL_law_615 ?_
  refine k_VI (rest := []) S hK hl.1 hW (KFr.lft hW hA) (hMI _) gL_law_X3_play rfl pdX3_play ⟨⟨rfl, rfl⟩, Nat.le_of_ble_eq_true rfl, Nat.le_of_ble_eq_true rfl⟩ 0 3 rfl rfl rfl rfl (Nat.le_of_ble_eq_true rfl) dL_law_616 hcs (fun H locs hW => ?_)
  refine lv_istore (lv' := [(6, .int r), (5, .int (nI k)), (4, .int (nI i)), (3, .ref o), (2, .ref (a' 0)), (1, .ref (a 0)), (0, .ref b)]) S.1 S.2.1 dL_law_619 hl (by decide) rfl (fun ls hl => ?_)
  exact lc_tail C hW hl hk h5 h0 hcs dL_law_621 dL_law_622 dL_law_625 dL_law_627 dL_law_632 dL_law_634 dL_law_637 dL_law_638 dL_law_639 dL_law_640 dL_law_642 dL_law_643 dL_law_644 dL_law_649 (by decide) (fun H locs hW => kk _ _ _ _ _ _ _ _ _ hR hW (lv_sub hl [2, 3, 4, 5, 6] rfl))
set_option maxRecDepth 100000 in
theorem lc_mend (hfl : l.stackTraces = false) (C : LC p s m cd b L xs D c) (h : Rl θ ρ κ φ T) (hT : T + 5760 < 200000000) (hi : i + 5 ≤ L) (hW : kw D (fun q => s.heap.size ≤ q) s.heap (wM c a' φ δ ++ (wP c a bb θ ρ κ ++ wO c o f)) H locs) (hl : lv_has ls 9 [(4, .int (nI i)), (3, .ref o), (2, .ref (a' 0)), (1, .ref (a 0)), (0, .ref b)]) (hcs : cells + 1 ≤ 601024 ∧ slots + 6 ≤ 7293033) (kk : LK p l e s m below meth cd Q b i D c a bb a' o (T + 5760) (cells + 1) (slots + 6)) : W p l e room_1 s m #[Value.ref b] below meth cd H locs cells slots Q (F0 m 652 ls []) := by
  obtain ⟨S, hK, hN, hSt, hV, hX, hbl, hL⟩ := id C
  have hA : ∀ q, s.heap.size ≤ q → (fun q => s.heap.size ≤ q) q := fun _ h => h
  obtain ⟨k, r, θ', ρ', κ', φ', f', hk, h5, h0, hR, hMW, hMI⟩ := st_mend l hfl D c (xs (i + 1)) a bb a' o f θ ρ κ φ δ T h hT
  refine lv_aload_n S.1 S.2.1 dL_law_652 rfl (lv_at hl 3 rfl) ?_
  refine lc_ld C hW 1 (by omega) (lv_at hl 0 rfl) (lv_at hl 4 rfl) dL_law_653 dL_law_654 dL_law_656 rfl dL_law_657 dL_law_658 ?_
  refine lv_aload_n S.1 S.2.1 dL_law_659 rfl (lv_at hl 1 rfl) ?_
  refine k_SW (rest := []) S hK hl.1 hW (KFr.rgt hW hA) hN hSt hV (hMW _) gL_law_L_mend rfl pdL_mend ⟨⟨rfl, rfl⟩, Nat.le_of_ble_eq_true rfl, Nat.le_of_ble_eq_true rfl⟩ rfl (Nat.le_of_ble_eq_true rfl) dL_law_660 hcs (fun H locs hW => ?_)
  refine lv_istore (lv' := [(5, .int (nI k)), (4, .int (nI i)), (3, .ref o), (2, .ref (a' 0)), (1, .ref (a 0)), (0, .ref b)]) S.1 S.2.1 dL_law_663 hl (by decide) rfl (fun ls hl => ?_)
  refine lv_aload_n S.1 S.2.1 dL_law_665 rfl (lv_at hl 3 rfl) ?_
  refine lc_ld C hW 1 (by omega) (lv_at hl 1 rfl) (lv_at hl 5 rfl) dL_law_666 dL_law_667 dL_law_669 rfl dL_law_670 dL_law_671 ?_
  refine k_VI (rest := []) S hK hl.1 hW (KFr.lft hW hA) (hMI _) gL_law_X3_mend rfl pdX3_mend ⟨⟨rfl, rfl⟩, Nat.le_of_ble_eq_true rfl, Nat.le_of_ble_eq_true rfl⟩ 0 3 rfl rfl rfl rfl (Nat.le_of_ble_eq_true rfl) dL_law_672 hcs (fun H locs hW => ?_)
  refine lv_istore (lv' := [(6, .int r), (5, .int (nI k)), (4, .int (nI i)), (3, .ref o), (2, .ref (a' 0)), (1, .ref (a 0)), (0, .ref b)]) S.1 S.2.1 dL_law_675 hl (by decide) rfl (fun ls hl => ?_)
  exact lc_tail C hW hl hk h5 h0 hcs dL_law_677 dL_law_678 dL_law_681 dL_law_683 dL_law_688 dL_law_690 dL_law_693 dL_law_694 dL_law_695 dL_law_696 dL_law_698 dL_law_699 dL_law_700 dL_law_705 (by decide) (fun H locs hW => kk _ _ _ _ _ _ _ _ _ hR hW (lv_sub hl [2, 3, 4, 5, 6] rfl))
set_option maxRecDepth 100000 in
theorem lc_set (hfl : l.stackTraces = false) (C : LC p s m cd b L xs D c) (h : Rl θ ρ κ φ T) (hT : T + 5760 < 200000000) (hi : i + 5 ≤ L) (hW : kw D (fun q => s.heap.size ≤ q) s.heap (wM c a' φ δ ++ (wP c a bb θ ρ κ ++ wO c o f)) H locs) (hl : lv_has ls 9 [(4, .int (nI i)), (3, .ref o), (2, .ref (a' 0)), (1, .ref (a 0)), (0, .ref b)]) (hcs : cells + 1 ≤ 601024 ∧ slots + 6 ≤ 7293033) (kk : LK p l e s m below meth cd Q b i D c a bb a' o (T + 5760) (cells + 1) (slots + 6)) : W p l e room_1 s m #[Value.ref b] below meth cd H locs cells slots Q (F0 m 708 ls []) := by
  obtain ⟨S, hK, hN, hSt, hV, hX, hbl, hL⟩ := id C
  have hA : ∀ q, s.heap.size ≤ q → (fun q => s.heap.size ≤ q) q := fun _ h => h
  obtain ⟨k, r, θ', ρ', κ', φ', f', hk, h5, h0, hR, hMW, hMI⟩ := st_set l hfl D c (xs (i + 1)) (xs (i + 2)) a bb a' o f θ ρ κ φ δ T h hT
  refine lv_aload_n S.1 S.2.1 dL_law_708 rfl (lv_at hl 3 rfl) ?_
  refine lc_ld C hW 1 (by omega) (lv_at hl 0 rfl) (lv_at hl 4 rfl) dL_law_709 dL_law_710 dL_law_712 rfl dL_law_713 dL_law_714 ?_
  refine lc_ld C hW 2 (by omega) (lv_at hl 0 rfl) (lv_at hl 4 rfl) dL_law_715 dL_law_716 dL_law_718 rfl dL_law_719 dL_law_720 ?_
  refine lv_aload_n S.1 S.2.1 dL_law_721 rfl (lv_at hl 1 rfl) ?_
  refine k_SW (rest := []) S hK hl.1 hW (KFr.rgt hW hA) hN hSt hV (hMW _) gL_law_L_set rfl pdL_set ⟨⟨rfl, rfl⟩, Nat.le_of_ble_eq_true rfl, Nat.le_of_ble_eq_true rfl⟩ rfl (Nat.le_of_ble_eq_true rfl) dL_law_722 hcs (fun H locs hW => ?_)
  refine lv_istore (lv' := [(5, .int (nI k)), (4, .int (nI i)), (3, .ref o), (2, .ref (a' 0)), (1, .ref (a 0)), (0, .ref b)]) S.1 S.2.1 dL_law_725 hl (by decide) rfl (fun ls hl => ?_)
  refine lv_aload_n S.1 S.2.1 dL_law_727 rfl (lv_at hl 3 rfl) ?_
  refine lc_ld C hW 1 (by omega) (lv_at hl 1 rfl) (lv_at hl 5 rfl) dL_law_728 dL_law_729 dL_law_731 rfl dL_law_732 dL_law_733 ?_
  refine lc_ld C hW 2 (by omega) (lv_at hl 1 rfl) (lv_at hl 5 rfl) dL_law_734 dL_law_735 dL_law_737 rfl dL_law_738 dL_law_739 ?_
  refine k_VI (rest := []) S hK hl.1 hW (KFr.lft hW hA) (hMI _) gL_law_X3_set rfl pdX3_set ⟨⟨rfl, rfl⟩, Nat.le_of_ble_eq_true rfl, Nat.le_of_ble_eq_true rfl⟩ 0 3 rfl rfl rfl rfl (Nat.le_of_ble_eq_true rfl) dL_law_740 hcs (fun H locs hW => ?_)
  refine lv_istore (lv' := [(6, .int r), (5, .int (nI k)), (4, .int (nI i)), (3, .ref o), (2, .ref (a' 0)), (1, .ref (a 0)), (0, .ref b)]) S.1 S.2.1 dL_law_743 hl (by decide) rfl (fun ls hl => ?_)
  exact lc_tail C hW hl hk h5 h0 hcs dL_law_745 dL_law_746 dL_law_749 dL_law_751 dL_law_756 dL_law_758 dL_law_761 dL_law_762 dL_law_763 dL_law_764 dL_law_766 dL_law_767 dL_law_768 dL_law_773 (by decide) (fun H locs hW => kk _ _ _ _ _ _ _ _ _ hR hW (lv_sub hl [2, 3, 4, 5, 6] rfl))
set_option maxRecDepth 100000 in
theorem lc_append (hfl : l.stackTraces = false) (C : LC p s m cd b L xs D c) (h : Rl θ ρ κ φ T) (hT : T + 5760 < 200000000) (hi : i + 5 ≤ L) (hW : kw D (fun q => s.heap.size ≤ q) s.heap (wM c a' φ δ ++ (wP c a bb θ ρ κ ++ wO c o f)) H locs) (hl : lv_has ls 9 [(4, .int (nI i)), (3, .ref o), (2, .ref (a' 0)), (1, .ref (a 0)), (0, .ref b)]) (hcs : cells + 1 ≤ 601024 ∧ slots + 6 ≤ 7293033) (kk : LK p l e s m below meth cd Q b i D c a bb a' o (T + 5760) (cells + 1) (slots + 6)) : W p l e room_1 s m #[Value.ref b] below meth cd H locs cells slots Q (F0 m 776 ls []) := by
  obtain ⟨S, hK, hN, hSt, hV, hX, hbl, hL⟩ := id C
  have hA : ∀ q, s.heap.size ≤ q → (fun q => s.heap.size ≤ q) q := fun _ h => h
  obtain ⟨k, r, θ', ρ', κ', φ', f', hk, h5, h0, hR, hMW, hMI⟩ := st_append l hfl D c (xs (i + 1)) a bb a' o f θ ρ κ φ δ T h hT
  refine lv_aload_n S.1 S.2.1 dL_law_776 rfl (lv_at hl 3 rfl) ?_
  refine lc_ld C hW 1 (by omega) (lv_at hl 0 rfl) (lv_at hl 4 rfl) dL_law_777 dL_law_778 dL_law_780 rfl dL_law_781 dL_law_782 ?_
  refine lv_aload_n S.1 S.2.1 dL_law_783 rfl (lv_at hl 1 rfl) ?_
  refine k_SW (rest := []) S hK hl.1 hW (KFr.rgt hW hA) hN hSt hV (hMW _) gL_law_L_append rfl pdL_append ⟨⟨rfl, rfl⟩, Nat.le_of_ble_eq_true rfl, Nat.le_of_ble_eq_true rfl⟩ rfl (Nat.le_of_ble_eq_true rfl) dL_law_784 hcs (fun H locs hW => ?_)
  refine lv_istore (lv' := [(5, .int (nI k)), (4, .int (nI i)), (3, .ref o), (2, .ref (a' 0)), (1, .ref (a 0)), (0, .ref b)]) S.1 S.2.1 dL_law_787 hl (by decide) rfl (fun ls hl => ?_)
  refine lv_aload_n S.1 S.2.1 dL_law_789 rfl (lv_at hl 3 rfl) ?_
  refine lc_ld C hW 1 (by omega) (lv_at hl 1 rfl) (lv_at hl 5 rfl) dL_law_790 dL_law_791 dL_law_793 rfl dL_law_794 dL_law_795 ?_
  refine k_VI (rest := []) S hK hl.1 hW (KFr.lft hW hA) (hMI _) gL_law_X3_append rfl pdX3_append ⟨⟨rfl, rfl⟩, Nat.le_of_ble_eq_true rfl, Nat.le_of_ble_eq_true rfl⟩ 0 3 rfl rfl rfl rfl (Nat.le_of_ble_eq_true rfl) dL_law_796 hcs (fun H locs hW => ?_)
  refine lv_istore (lv' := [(6, .int r), (5, .int (nI k)), (4, .int (nI i)), (3, .ref o), (2, .ref (a' 0)), (1, .ref (a 0)), (0, .ref b)]) S.1 S.2.1 dL_law_799 hl (by decide) rfl (fun ls hl => ?_)
  exact lc_tail C hW hl hk h5 h0 hcs dL_law_801 dL_law_802 dL_law_805 dL_law_807 dL_law_812 dL_law_814 dL_law_817 dL_law_818 dL_law_819 dL_law_820 dL_law_822 dL_law_823 dL_law_824 dL_law_829 (by decide) (fun H locs hW => kk _ _ _ _ _ _ _ _ _ hR hW (lv_sub hl [2, 3, 4, 5, 6] rfl))
set_option maxRecDepth 100000 in
theorem lc_clearBuffer (hfl : l.stackTraces = false) (C : LC p s m cd b L xs D c) (h : Rl θ ρ κ φ T) (hT : T + 5760 < 200000000) (hi : i + 5 ≤ L) (hW : kw D (fun q => s.heap.size ≤ q) s.heap (wM c a' φ δ ++ (wP c a bb θ ρ κ ++ wO c o f)) H locs) (hl : lv_has ls 9 [(4, .int (nI i)), (3, .ref o), (2, .ref (a' 0)), (1, .ref (a 0)), (0, .ref b)]) (hcs : cells + 1 ≤ 601024 ∧ slots + 6 ≤ 7293033) (kk : LK p l e s m below meth cd Q b i D c a bb a' o (T + 5760) (cells + 1) (slots + 6)) : W p l e room_1 s m #[Value.ref b] below meth cd H locs cells slots Q (F0 m 832 ls []) := by
  obtain ⟨S, hK, hN, hSt, hV, hX, hbl, hL⟩ := id C
  have hA : ∀ q, s.heap.size ≤ q → (fun q => s.heap.size ≤ q) q := fun _ h => h
  have hcs0 : cells ≤ 601024 ∧ slots ≤ 7293033 := ⟨by omega, by omega⟩
  obtain ⟨r, θ', ρ', κ', φ', hR, h2, h3⟩ := st_clearBuffer l D c a bb a' θ ρ κ φ δ T h hT
  refine lv_aload_n S.1 S.2.1 dL_law_832 rfl (lv_at hl 3 rfl) ?_
  refine k_VI2 (rest := []) S hK hl.1 hW (KFr.mid hW hA) hN (h2 _) gL_law_X2_clearBuffer rfl pdX2_clearBuffer ⟨⟨rfl, rfl⟩, Nat.le_of_ble_eq_true rfl, Nat.le_of_ble_eq_true rfl⟩ 0 2 rfl rfl rfl rfl (Nat.le_of_ble_eq_true rfl) dL_law_833 hcs0 (fun H locs hW => ?_)
  refine lv_aload_n S.1 S.2.1 dL_law_836 rfl (lv_at hl 2 rfl) ?_
  refine k_VI (rest := [.int r]) S hK hl.1 hW (KFr.lft hW hA) (h3 _) gL_law_X3_clearBuffer rfl pdX3_clearBuffer ⟨⟨rfl, rfl⟩, Nat.le_of_ble_eq_true rfl, Nat.le_of_ble_eq_true rfl⟩ 0 3 rfl rfl rfl rfl (Nat.le_of_ble_eq_true rfl) dL_law_837 hcs0 (fun H locs hW => ?_)
  exact lv_icmp_eq (tgt := 1683) S.1 S.2.1 dL_law_840 (by decide) (fun _ => W.widen (Nat.le_add_right _ _) (Nat.le_add_right _ _) (kk _ _ _ _ _ _ _ _ _ hR hW hl)) (fun q => absurd rfl q)
set_option maxRecDepth 100000 in
theorem lc_firstError (hfl : l.stackTraces = false) (C : LC p s m cd b L xs D c) (h : Rl θ ρ κ φ T) (hT : T + 5760 < 200000000) (hi : i + 5 ≤ L) (hW : kw D (fun q => s.heap.size ≤ q) s.heap (wM c a' φ δ ++ (wP c a bb θ ρ κ ++ wO c o f)) H locs) (hl : lv_has ls 9 [(4, .int (nI i)), (3, .ref o), (2, .ref (a' 0)), (1, .ref (a 0)), (0, .ref b)]) (hcs : cells + 1 ≤ 601024 ∧ slots + 6 ≤ 7293033) (kk : LK p l e s m below meth cd Q b i D c a bb a' o (T + 5760) (cells + 1) (slots + 6)) : W p l e room_1 s m #[Value.ref b] below meth cd H locs cells slots Q (F0 m 845 ls []) := by
  obtain ⟨S, hK, hN, hSt, hV, hX, hbl, hL⟩ := id C
  have hA : ∀ q, s.heap.size ≤ q → (fun q => s.heap.size ≤ q) q := fun _ h => h
  have hcs0 : cells ≤ 601024 ∧ slots ≤ 7293033 := ⟨by omega, by omega⟩
  obtain ⟨r, θ', ρ', κ', φ', hR, h2, h3⟩ := st_firstError l D c a bb a' θ ρ κ φ δ T h hT
  refine lv_aload_n S.1 S.2.1 dL_law_845 rfl (lv_at hl 3 rfl) ?_
  refine k_VI2 (rest := []) S hK hl.1 hW (KFr.mid hW hA) hN (h2 _) gL_law_X2_firstError rfl pdX2_firstError ⟨⟨rfl, rfl⟩, Nat.le_of_ble_eq_true rfl, Nat.le_of_ble_eq_true rfl⟩ 0 2 rfl rfl rfl rfl (Nat.le_of_ble_eq_true rfl) dL_law_846 hcs0 (fun H locs hW => ?_)
  refine lv_aload_n S.1 S.2.1 dL_law_849 rfl (lv_at hl 2 rfl) ?_
  refine k_VI (rest := [.int r]) S hK hl.1 hW (KFr.lft hW hA) (h3 _) gL_law_X3_firstError rfl pdX3_firstError ⟨⟨rfl, rfl⟩, Nat.le_of_ble_eq_true rfl, Nat.le_of_ble_eq_true rfl⟩ 0 3 rfl rfl rfl rfl (Nat.le_of_ble_eq_true rfl) dL_law_850 hcs0 (fun H locs hW => ?_)
  exact lv_icmp_eq (tgt := 1683) S.1 S.2.1 dL_law_853 (by decide) (fun _ => W.widen (Nat.le_add_right _ _) (Nat.le_add_right _ _) (kk _ _ _ _ _ _ _ _ _ hR hW hl)) (fun q => absurd rfl q)
set_option maxRecDepth 100000 in
theorem lc_pins (hfl : l.stackTraces = false) (C : LC p s m cd b L xs D c) (h : Rl θ ρ κ φ T) (hT : T + 5760 < 200000000) (hi : i + 5 ≤ L) (hW : kw D (fun q => s.heap.size ≤ q) s.heap (wM c a' φ δ ++ (wP c a bb θ ρ κ ++ wO c o f)) H locs) (hl : lv_has ls 9 [(4, .int (nI i)), (3, .ref o), (2, .ref (a' 0)), (1, .ref (a 0)), (0, .ref b)]) (hcs : cells + 1 ≤ 601024 ∧ slots + 6 ≤ 7293033) (kk : LK p l e s m below meth cd Q b i D c a bb a' o (T + 5760) (cells + 1) (slots + 6)) : W p l e room_1 s m #[Value.ref b] below meth cd H locs cells slots Q (F0 m 858 ls []) := by
  obtain ⟨S, hK, hN, hSt, hV, hX, hbl, hL⟩ := id C
  have hA : ∀ q, s.heap.size ≤ q → (fun q => s.heap.size ≤ q) q := fun _ h => h
  obtain ⟨k, r, θ', ρ', κ', φ', f', hk, h5, h0, hR, hMW, hMI⟩ := st_pins l hfl D c  a bb a' o f θ ρ κ φ δ T h hT
  refine lv_aload_n S.1 S.2.1 dL_law_858 rfl (lv_at hl 3 rfl) ?_
  refine lv_aload_n S.1 S.2.1 dL_law_859 rfl (lv_at hl 1 rfl) ?_
  refine k_SW (rest := []) S hK hl.1 hW (KFr.rgt hW hA) hN hSt hV (hMW _) gL_law_L_pins rfl pdL_pins ⟨⟨rfl, rfl⟩, Nat.le_of_ble_eq_true rfl, Nat.le_of_ble_eq_true rfl⟩ rfl (Nat.le_of_ble_eq_true rfl) dL_law_860 hcs (fun H locs hW => ?_)
  refine lv_istore (lv' := [(5, .int (nI k)), (4, .int (nI i)), (3, .ref o), (2, .ref (a' 0)), (1, .ref (a 0)), (0, .ref b)]) S.1 S.2.1 dL_law_863 hl (by decide) rfl (fun ls hl => ?_)
  refine lv_aload_n S.1 S.2.1 dL_law_865 rfl (lv_at hl 3 rfl) ?_
  refine k_VI (rest := []) S hK hl.1 hW (KFr.lft hW hA) (hMI _) gL_law_X3_pins rfl pdX3_pins ⟨⟨rfl, rfl⟩, Nat.le_of_ble_eq_true rfl, Nat.le_of_ble_eq_true rfl⟩ 0 3 rfl rfl rfl rfl (Nat.le_of_ble_eq_true rfl) dL_law_866 hcs (fun H locs hW => ?_)
  refine lv_istore (lv' := [(6, .int r), (5, .int (nI k)), (4, .int (nI i)), (3, .ref o), (2, .ref (a' 0)), (1, .ref (a 0)), (0, .ref b)]) S.1 S.2.1 dL_law_869 hl (by decide) rfl (fun ls hl => ?_)
  exact lc_tail C hW hl hk h5 h0 hcs dL_law_871 dL_law_872 dL_law_875 dL_law_877 dL_law_882 dL_law_884 dL_law_887 dL_law_888 dL_law_889 dL_law_890 dL_law_892 dL_law_893 dL_law_894 dL_law_899 (by decide) (fun H locs hW => kk _ _ _ _ _ _ _ _ _ hR hW (lv_sub hl [2, 3, 4, 5, 6] rfl))
set_option maxRecDepth 100000 in
theorem lc_undo (hfl : l.stackTraces = false) (C : LC p s m cd b L xs D c) (h : Rl θ ρ κ φ T) (hT : T + 5760 < 200000000) (hi : i + 5 ≤ L) (hW : kw D (fun q => s.heap.size ≤ q) s.heap (wM c a' φ δ ++ (wP c a bb θ ρ κ ++ wO c o f)) H locs) (hl : lv_has ls 9 [(4, .int (nI i)), (3, .ref o), (2, .ref (a' 0)), (1, .ref (a 0)), (0, .ref b)]) (hcs : cells + 1 ≤ 601024 ∧ slots + 6 ≤ 7293033) (kk : LK p l e s m below meth cd Q b i D c a bb a' o (T + 5760) (cells + 1) (slots + 6)) : W p l e room_1 s m #[Value.ref b] below meth cd H locs cells slots Q (F0 m 902 ls []) := by
  obtain ⟨S, hK, hN, hSt, hV, hX, hbl, hL⟩ := id C
  have hA : ∀ q, s.heap.size ≤ q → (fun q => s.heap.size ≤ q) q := fun _ h => h
  obtain ⟨k, r, θ', ρ', κ', φ', f', hk, h5, h0, hR, hMW, hMI⟩ := st_undo l hfl D c  a bb a' o f θ ρ κ φ δ T h hT
  refine lv_aload_n S.1 S.2.1 dL_law_902 rfl (lv_at hl 3 rfl) ?_
  refine lv_aload_n S.1 S.2.1 dL_law_903 rfl (lv_at hl 1 rfl) ?_
  refine k_SW (rest := []) S hK hl.1 hW (KFr.rgt hW hA) hN hSt hV (hMW _) gL_law_L_undo rfl pdL_undo ⟨⟨rfl, rfl⟩, Nat.le_of_ble_eq_true rfl, Nat.le_of_ble_eq_true rfl⟩ rfl (Nat.le_of_ble_eq_true rfl) dL_law_904 hcs (fun H locs hW => ?_)
  refine lv_istore (lv' := [(5, .int (nI k)), (4, .int (nI i)), (3, .ref o), (2, .ref (a' 0)), (1, .ref (a 0)), (0, .ref b)]) S.1 S.2.1 dL_law_907 hl (by decide) rfl (fun ls hl => ?_)
  refine lv_aload_n S.1 S.2.1 dL_law_909 rfl (lv_at hl 3 rfl) ?_
  refine k_VI (rest := []) S hK hl.1 hW (KFr.lft hW hA) (hMI _) gL_law_X3_undo rfl pdX3_undo ⟨⟨rfl, rfl⟩, Nat.le_of_ble_eq_true rfl, Nat.le_of_ble_eq_true rfl⟩ 0 3 rfl rfl rfl rfl (Nat.le_of_ble_eq_true rfl) dL_law_910 hcs (fun H locs hW => ?_)
  refine lv_istore (lv' := [(6, .int r), (5, .int (nI k)), (4, .int (nI i)), (3, .ref o), (2, .ref (a' 0)), (1, .ref (a 0)), (0, .ref b)]) S.1 S.2.1 dL_law_913 hl (by decide) rfl (fun ls hl => ?_)
  exact lc_tail C hW hl hk h5 h0 hcs dL_law_915 dL_law_916 dL_law_919 dL_law_921 dL_law_926 dL_law_928 dL_law_931 dL_law_932 dL_law_933 dL_law_934 dL_law_936 dL_law_937 dL_law_938 dL_law_943 (by decide) (fun H locs hW => kk _ _ _ _ _ _ _ _ _ hR hW (lv_sub hl [2, 3, 4, 5, 6] rfl))
set_option maxRecDepth 100000 in
theorem lc_keep (hfl : l.stackTraces = false) (C : LC p s m cd b L xs D c) (h : Rl θ ρ κ φ T) (hT : T + 5760 < 200000000) (hi : i + 5 ≤ L) (hW : kw D (fun q => s.heap.size ≤ q) s.heap (wM c a' φ δ ++ (wP c a bb θ ρ κ ++ wO c o f)) H locs) (hl : lv_has ls 9 [(4, .int (nI i)), (3, .ref o), (2, .ref (a' 0)), (1, .ref (a 0)), (0, .ref b)]) (hcs : cells + 1 ≤ 601024 ∧ slots + 6 ≤ 7293033) (kk : LK p l e s m below meth cd Q b i D c a bb a' o (T + 5760) (cells + 1) (slots + 6)) : W p l e room_1 s m #[Value.ref b] below meth cd H locs cells slots Q (F0 m 946 ls []) := by
  obtain ⟨S, hK, hN, hSt, hV, hX, hbl, hL⟩ := id C
  have hA : ∀ q, s.heap.size ≤ q → (fun q => s.heap.size ≤ q) q := fun _ h => h
  have hcs0 : cells ≤ 601024 ∧ slots ≤ 7293033 := ⟨by omega, by omega⟩
  obtain ⟨r, θ', ρ', κ', φ', hR, h2, h3⟩ := st_keep l D c a bb a' θ ρ κ φ δ T h hT
  refine lv_aload_n S.1 S.2.1 dL_law_946 rfl (lv_at hl 3 rfl) ?_
  refine k_VI2 (rest := []) S hK hl.1 hW (KFr.mid hW hA) hN (h2 _) gL_law_X2_keep rfl pdX2_keep ⟨⟨rfl, rfl⟩, Nat.le_of_ble_eq_true rfl, Nat.le_of_ble_eq_true rfl⟩ 0 2 rfl rfl rfl rfl (Nat.le_of_ble_eq_true rfl) dL_law_947 hcs0 (fun H locs hW => ?_)
  refine lv_aload_n S.1 S.2.1 dL_law_950 rfl (lv_at hl 2 rfl) ?_
  refine k_VI (rest := [.int r]) S hK hl.1 hW (KFr.lft hW hA) (h3 _) gL_law_X3_keep rfl pdX3_keep ⟨⟨rfl, rfl⟩, Nat.le_of_ble_eq_true rfl, Nat.le_of_ble_eq_true rfl⟩ 0 3 rfl rfl rfl rfl (Nat.le_of_ble_eq_true rfl) dL_law_951 hcs0 (fun H locs hW => ?_)
  exact lv_icmp_eq (tgt := 1683) S.1 S.2.1 dL_law_954 (by decide) (fun _ => W.widen (Nat.le_add_right _ _) (Nat.le_add_right _ _) (kk _ _ _ _ _ _ _ _ _ hR hW hl)) (fun q => absurd rfl q)
set_option maxRecDepth 100000 in
theorem lc_restore (hfl : l.stackTraces = false) (C : LC p s m cd b L xs D c) (h : Rl θ ρ κ φ T) (hT : T + 5760 < 200000000) (hi : i + 5 ≤ L) (hW : kw D (fun q => s.heap.size ≤ q) s.heap (wM c a' φ δ ++ (wP c a bb θ ρ κ ++ wO c o f)) H locs) (hl : lv_has ls 9 [(4, .int (nI i)), (3, .ref o), (2, .ref (a' 0)), (1, .ref (a 0)), (0, .ref b)]) (hcs : cells + 1 ≤ 601024 ∧ slots + 6 ≤ 7293033) (kk : LK p l e s m below meth cd Q b i D c a bb a' o (T + 5760) (cells + 1) (slots + 6)) : W p l e room_1 s m #[Value.ref b] below meth cd H locs cells slots Q (F0 m 959 ls []) := by
  obtain ⟨S, hK, hN, hSt, hV, hX, hbl, hL⟩ := id C
  have hA : ∀ q, s.heap.size ≤ q → (fun q => s.heap.size ≤ q) q := fun _ h => h
  obtain ⟨k, r, θ', ρ', κ', φ', f', hk, h5, h0, hR, hMW, hMI⟩ := st_restore l hfl D c  a bb a' o f θ ρ κ φ δ T h hT
  refine lv_aload_n S.1 S.2.1 dL_law_959 rfl (lv_at hl 3 rfl) ?_
  refine lv_aload_n S.1 S.2.1 dL_law_960 rfl (lv_at hl 1 rfl) ?_
  refine k_SW (rest := []) S hK hl.1 hW (KFr.rgt hW hA) hN hSt hV (hMW _) gL_law_L_restore rfl pdL_restore ⟨⟨rfl, rfl⟩, Nat.le_of_ble_eq_true rfl, Nat.le_of_ble_eq_true rfl⟩ rfl (Nat.le_of_ble_eq_true rfl) dL_law_961 hcs (fun H locs hW => ?_)
  refine lv_istore (lv' := [(5, .int (nI k)), (4, .int (nI i)), (3, .ref o), (2, .ref (a' 0)), (1, .ref (a 0)), (0, .ref b)]) S.1 S.2.1 dL_law_964 hl (by decide) rfl (fun ls hl => ?_)
  refine lv_aload_n S.1 S.2.1 dL_law_966 rfl (lv_at hl 3 rfl) ?_
  refine k_VI (rest := []) S hK hl.1 hW (KFr.lft hW hA) (hMI _) gL_law_X3_restore rfl pdX3_restore ⟨⟨rfl, rfl⟩, Nat.le_of_ble_eq_true rfl, Nat.le_of_ble_eq_true rfl⟩ 0 3 rfl rfl rfl rfl (Nat.le_of_ble_eq_true rfl) dL_law_967 hcs (fun H locs hW => ?_)
  refine lv_istore (lv' := [(6, .int r), (5, .int (nI k)), (4, .int (nI i)), (3, .ref o), (2, .ref (a' 0)), (1, .ref (a 0)), (0, .ref b)]) S.1 S.2.1 dL_law_970 hl (by decide) rfl (fun ls hl => ?_)
  exact lc_tail C hW hl hk h5 h0 hcs dL_law_972 dL_law_973 dL_law_976 dL_law_978 dL_law_983 dL_law_985 dL_law_988 dL_law_989 dL_law_990 dL_law_991 dL_law_993 dL_law_994 dL_law_995 dL_law_1000 (by decide) (fun H locs hW => kk _ _ _ _ _ _ _ _ _ hR hW (lv_sub hl [2, 3, 4, 5, 6] rfl))
set_option maxRecDepth 100000 in
theorem lc_whyNot (hfl : l.stackTraces = false) (C : LC p s m cd b L xs D c) (h : Rl θ ρ κ φ T) (hT : T + 5760 < 200000000) (hi : i + 5 ≤ L) (hW : kw D (fun q => s.heap.size ≤ q) s.heap (wM c a' φ δ ++ (wP c a bb θ ρ κ ++ wO c o f)) H locs) (hl : lv_has ls 9 [(4, .int (nI i)), (3, .ref o), (2, .ref (a' 0)), (1, .ref (a 0)), (0, .ref b)]) (hcs : cells + 1 ≤ 601024 ∧ slots + 6 ≤ 7293033) (kk : LK p l e s m below meth cd Q b i D c a bb a' o (T + 5760) (cells + 1) (slots + 6)) : W p l e room_1 s m #[Value.ref b] below meth cd H locs cells slots Q (F0 m 1003 ls []) := by
  obtain ⟨S, hK, hN, hSt, hV, hX, hbl, hL⟩ := id C
  have hA : ∀ q, s.heap.size ≤ q → (fun q => s.heap.size ≤ q) q := fun _ h => h
  obtain ⟨k, r, θ', ρ', κ', φ', f', hk, h5, h0, hR, hMW, hMI⟩ := st_whyNot l hfl D c (xs (i + 1)) (xs (i + 2)) (xs (i + 3)) a bb a' o f θ ρ κ φ δ T h hT
  refine lv_aload_n S.1 S.2.1 dL_law_1003 rfl (lv_at hl 3 rfl) ?_
  refine lc_ld C hW 1 (by omega) (lv_at hl 0 rfl) (lv_at hl 4 rfl) dL_law_1004 dL_law_1005 dL_law_1007 rfl dL_law_1008 dL_law_1009 ?_
  refine lc_ld C hW 2 (by omega) (lv_at hl 0 rfl) (lv_at hl 4 rfl) dL_law_1010 dL_law_1011 dL_law_1013 rfl dL_law_1014 dL_law_1015 ?_
  refine lc_ld C hW 3 (by omega) (lv_at hl 0 rfl) (lv_at hl 4 rfl) dL_law_1016 dL_law_1017 dL_law_1019 rfl dL_law_1020 dL_law_1021 ?_
  refine lv_aload_n S.1 S.2.1 dL_law_1022 rfl (lv_at hl 1 rfl) ?_
  refine k_SW (rest := []) S hK hl.1 hW (KFr.rgt hW hA) hN hSt hV (hMW _) gL_law_L_whyNot rfl pdL_whyNot ⟨⟨rfl, rfl⟩, Nat.le_of_ble_eq_true rfl, Nat.le_of_ble_eq_true rfl⟩ rfl (Nat.le_of_ble_eq_true rfl) dL_law_1023 hcs (fun H locs hW => ?_)
  refine lv_istore (lv' := [(5, .int (nI k)), (4, .int (nI i)), (3, .ref o), (2, .ref (a' 0)), (1, .ref (a 0)), (0, .ref b)]) S.1 S.2.1 dL_law_1026 hl (by decide) rfl (fun ls hl => ?_)
  refine lv_aload_n S.1 S.2.1 dL_law_1028 rfl (lv_at hl 3 rfl) ?_
  refine lc_ld C hW 1 (by omega) (lv_at hl 1 rfl) (lv_at hl 5 rfl) dL_law_1029 dL_law_1030 dL_law_1032 rfl dL_law_1033 dL_law_1034 ?_
  refine lc_ld C hW 2 (by omega) (lv_at hl 1 rfl) (lv_at hl 5 rfl) dL_law_1035 dL_law_1036 dL_law_1038 rfl dL_law_1039 dL_law_1040 ?_
  refine lc_ld C hW 3 (by omega) (lv_at hl 1 rfl) (lv_at hl 5 rfl) dL_law_1041 dL_law_1042 dL_law_1044 rfl dL_law_1045 dL_law_1046 ?_
  refine k_VI (rest := []) S hK hl.1 hW (KFr.lft hW hA) (hMI _) gL_law_X3_whyNot rfl pdX3_whyNot ⟨⟨rfl, rfl⟩, Nat.le_of_ble_eq_true rfl, Nat.le_of_ble_eq_true rfl⟩ 0 3 rfl rfl rfl rfl (Nat.le_of_ble_eq_true rfl) dL_law_1047 hcs (fun H locs hW => ?_)
  refine lv_istore (lv' := [(6, .int r), (5, .int (nI k)), (4, .int (nI i)), (3, .ref o), (2, .ref (a' 0)), (1, .ref (a 0)), (0, .ref b)]) S.1 S.2.1 dL_law_1050 hl (by decide) rfl (fun ls hl => ?_)
  exact lc_tail C hW hl hk h5 h0 hcs dL_law_1052 dL_law_1053 dL_law_1056 dL_law_1058 dL_law_1063 dL_law_1065 dL_law_1068 dL_law_1069 dL_law_1070 dL_law_1071 dL_law_1073 dL_law_1074 dL_law_1075 dL_law_1080 (by decide) (fun H locs hW => kk _ _ _ _ _ _ _ _ _ hR hW (lv_sub hl [2, 3, 4, 5, 6] rfl))
set_option maxRecDepth 100000 in
theorem lc_next (hfl : l.stackTraces = false) (C : LC p s m cd b L xs D c) (h : Rl θ ρ κ φ T) (hT : T + 5760 < 200000000) (hi : i + 5 ≤ L) (hW : kw D (fun q => s.heap.size ≤ q) s.heap (wM c a' φ δ ++ (wP c a bb θ ρ κ ++ wO c o f)) H locs) (hl : lv_has ls 9 [(4, .int (nI i)), (3, .ref o), (2, .ref (a' 0)), (1, .ref (a 0)), (0, .ref b)]) (hcs : cells + 1 ≤ 601024 ∧ slots + 6 ≤ 7293033) (kk : LK p l e s m below meth cd Q b i D c a bb a' o (T + 5760) (cells + 1) (slots + 6)) : W p l e room_1 s m #[Value.ref b] below meth cd H locs cells slots Q (F0 m 1083 ls []) := by
  obtain ⟨S, hK, hN, hSt, hV, hX, hbl, hL⟩ := id C
  have hA : ∀ q, s.heap.size ≤ q → (fun q => s.heap.size ≤ q) q := fun _ h => h
  obtain ⟨k, r, θ', ρ', κ', φ', f', hk, h5, h0, hR, hMW, hMI⟩ := st_next l hfl D c (xs (i + 1)) (xs (i + 2)) (xs (i + 3)) a bb a' o f θ ρ κ φ δ T h hT
  refine lv_aload_n S.1 S.2.1 dL_law_1083 rfl (lv_at hl 3 rfl) ?_
  refine lc_ld C hW 1 (by omega) (lv_at hl 0 rfl) (lv_at hl 4 rfl) dL_law_1084 dL_law_1085 dL_law_1087 rfl dL_law_1088 dL_law_1089 ?_
  refine lc_ld C hW 2 (by omega) (lv_at hl 0 rfl) (lv_at hl 4 rfl) dL_law_1090 dL_law_1091 dL_law_1093 rfl dL_law_1094 dL_law_1095 ?_
  refine lc_ld C hW 3 (by omega) (lv_at hl 0 rfl) (lv_at hl 4 rfl) dL_law_1096 dL_law_1097 dL_law_1099 rfl dL_law_1100 dL_law_1101 ?_
  refine lv_aload_n S.1 S.2.1 dL_law_1102 rfl (lv_at hl 1 rfl) ?_
  refine k_SW (rest := []) S hK hl.1 hW (KFr.rgt hW hA) hN hSt hV (hMW _) gL_law_L_next rfl pdL_next ⟨⟨rfl, rfl⟩, Nat.le_of_ble_eq_true rfl, Nat.le_of_ble_eq_true rfl⟩ rfl (Nat.le_of_ble_eq_true rfl) dL_law_1103 hcs (fun H locs hW => ?_)
  refine lv_istore (lv' := [(5, .int (nI k)), (4, .int (nI i)), (3, .ref o), (2, .ref (a' 0)), (1, .ref (a 0)), (0, .ref b)]) S.1 S.2.1 dL_law_1106 hl (by decide) rfl (fun ls hl => ?_)
  refine lv_aload_n S.1 S.2.1 dL_law_1108 rfl (lv_at hl 3 rfl) ?_
  refine lc_ld C hW 1 (by omega) (lv_at hl 1 rfl) (lv_at hl 5 rfl) dL_law_1109 dL_law_1110 dL_law_1112 rfl dL_law_1113 dL_law_1114 ?_
  refine lc_ld C hW 2 (by omega) (lv_at hl 1 rfl) (lv_at hl 5 rfl) dL_law_1115 dL_law_1116 dL_law_1118 rfl dL_law_1119 dL_law_1120 ?_
  refine lc_ld C hW 3 (by omega) (lv_at hl 1 rfl) (lv_at hl 5 rfl) dL_law_1121 dL_law_1122 dL_law_1124 rfl dL_law_1125 dL_law_1126 ?_
  refine k_VI (rest := []) S hK hl.1 hW (KFr.lft hW hA) (hMI _) gL_law_X3_next rfl pdX3_next ⟨⟨rfl, rfl⟩, Nat.le_of_ble_eq_true rfl, Nat.le_of_ble_eq_true rfl⟩ 0 3 rfl rfl rfl rfl (Nat.le_of_ble_eq_true rfl) dL_law_1127 hcs (fun H locs hW => ?_)
  refine lv_istore (lv' := [(6, .int r), (5, .int (nI k)), (4, .int (nI i)), (3, .ref o), (2, .ref (a' 0)), (1, .ref (a 0)), (0, .ref b)]) S.1 S.2.1 dL_law_1130 hl (by decide) rfl (fun ls hl => ?_)
  exact lc_tail C hW hl hk h5 h0 hcs dL_law_1132 dL_law_1133 dL_law_1136 dL_law_1138 dL_law_1143 dL_law_1145 dL_law_1148 dL_law_1149 dL_law_1150 dL_law_1151 dL_law_1153 dL_law_1154 dL_law_1155 dL_law_1160 (by decide) (fun H locs hW => kk _ _ _ _ _ _ _ _ _ hR hW (lv_sub hl [2, 3, 4, 5, 6] rfl))
set_option maxRecDepth 100000 in
theorem lc_tune (hfl : l.stackTraces = false) (C : LC p s m cd b L xs D c) (h : Rl θ ρ κ φ T) (hT : T + 5760 < 200000000) (hi : i + 5 ≤ L) (hW : kw D (fun q => s.heap.size ≤ q) s.heap (wM c a' φ δ ++ (wP c a bb θ ρ κ ++ wO c o f)) H locs) (hl : lv_has ls 9 [(4, .int (nI i)), (3, .ref o), (2, .ref (a' 0)), (1, .ref (a 0)), (0, .ref b)]) (hcs : cells + 1 ≤ 601024 ∧ slots + 6 ≤ 7293033) (kk : LK p l e s m below meth cd Q b i D c a bb a' o (T + 5760) (cells + 1) (slots + 6)) : W p l e room_1 s m #[Value.ref b] below meth cd H locs cells slots Q (F0 m 1163 ls []) := by
  obtain ⟨S, hK, hN, hSt, hV, hX, hbl, hL⟩ := id C
  have hA : ∀ q, s.heap.size ≤ q → (fun q => s.heap.size ≤ q) q := fun _ h => h
  obtain ⟨k, r, θ', ρ', κ', φ', f', hk, h5, h0, hR, hMW, hMI⟩ := st_tune l hfl D c (xs (i + 1)) (xs (i + 2)) a bb a' o f θ ρ κ φ δ T h hT
  refine lv_aload_n S.1 S.2.1 dL_law_1163 rfl (lv_at hl 3 rfl) ?_
  refine lc_ld C hW 1 (by omega) (lv_at hl 0 rfl) (lv_at hl 4 rfl) dL_law_1164 dL_law_1165 dL_law_1167 rfl dL_law_1168 dL_law_1169 ?_
  refine lc_ld C hW 2 (by omega) (lv_at hl 0 rfl) (lv_at hl 4 rfl) dL_law_1170 dL_law_1171 dL_law_1173 rfl dL_law_1174 dL_law_1175 ?_
  refine lv_aload_n S.1 S.2.1 dL_law_1176 rfl (lv_at hl 1 rfl) ?_
  refine k_SW (rest := []) S hK hl.1 hW (KFr.rgt hW hA) hN hSt hV (hMW _) gL_law_L_tune rfl pdL_tune ⟨⟨rfl, rfl⟩, Nat.le_of_ble_eq_true rfl, Nat.le_of_ble_eq_true rfl⟩ rfl (Nat.le_of_ble_eq_true rfl) dL_law_1177 hcs (fun H locs hW => ?_)
  refine lv_istore (lv' := [(5, .int (nI k)), (4, .int (nI i)), (3, .ref o), (2, .ref (a' 0)), (1, .ref (a 0)), (0, .ref b)]) S.1 S.2.1 dL_law_1180 hl (by decide) rfl (fun ls hl => ?_)
  refine lv_aload_n S.1 S.2.1 dL_law_1182 rfl (lv_at hl 3 rfl) ?_
  refine lc_ld C hW 1 (by omega) (lv_at hl 1 rfl) (lv_at hl 5 rfl) dL_law_1183 dL_law_1184 dL_law_1186 rfl dL_law_1187 dL_law_1188 ?_
  refine lc_ld C hW 2 (by omega) (lv_at hl 1 rfl) (lv_at hl 5 rfl) dL_law_1189 dL_law_1190 dL_law_1192 rfl dL_law_1193 dL_law_1194 ?_
  refine k_VI (rest := []) S hK hl.1 hW (KFr.lft hW hA) (hMI _) gL_law_X3_tune rfl pdX3_tune ⟨⟨rfl, rfl⟩, Nat.le_of_ble_eq_true rfl, Nat.le_of_ble_eq_true rfl⟩ 0 3 rfl rfl rfl rfl (Nat.le_of_ble_eq_true rfl) dL_law_1195 hcs (fun H locs hW => ?_)
  refine lv_istore (lv' := [(6, .int r), (5, .int (nI k)), (4, .int (nI i)), (3, .ref o), (2, .ref (a' 0)), (1, .ref (a 0)), (0, .ref b)]) S.1 S.2.1 dL_law_1198 hl (by decide) rfl (fun ls hl => ?_)
  exact lc_tail C hW hl hk h5 h0 hcs dL_law_1200 dL_law_1201 dL_law_1204 dL_law_1206 dL_law_1211 dL_law_1213 dL_law_1216 dL_law_1217 dL_law_1218 dL_law_1219 dL_law_1221 dL_law_1222 dL_law_1223 dL_law_1228 (by decide) (fun H locs hW => kk _ _ _ _ _ _ _ _ _ hR hW (lv_sub hl [2, 3, 4, 5, 6] rfl))
set_option maxRecDepth 100000 in
theorem lc_chord (hfl : l.stackTraces = false) (C : LC p s m cd b L xs D c) (h : Rl θ ρ κ φ T) (hT : T + 5760 < 200000000) (hi : i + 5 ≤ L) (hW : kw D (fun q => s.heap.size ≤ q) s.heap (wM c a' φ δ ++ (wP c a bb θ ρ κ ++ wO c o f)) H locs) (hl : lv_has ls 9 [(4, .int (nI i)), (3, .ref o), (2, .ref (a' 0)), (1, .ref (a 0)), (0, .ref b)]) (hcs : cells + 1 ≤ 601024 ∧ slots + 6 ≤ 7293033) (kk : LK p l e s m below meth cd Q b i D c a bb a' o (T + 5760) (cells + 1) (slots + 6)) : W p l e room_1 s m #[Value.ref b] below meth cd H locs cells slots Q (F0 m 1231 ls []) := by
  obtain ⟨S, hK, hN, hSt, hV, hX, hbl, hL⟩ := id C
  have hA : ∀ q, s.heap.size ≤ q → (fun q => s.heap.size ≤ q) q := fun _ h => h
  obtain ⟨k, r, θ', ρ', κ', φ', f', hk, h5, h0, hR, hMW, hMI⟩ := st_chord l hfl D c (xs (i + 1)) (xs (i + 2)) a bb a' o f θ ρ κ φ δ T h hT
  refine lv_aload_n S.1 S.2.1 dL_law_1231 rfl (lv_at hl 3 rfl) ?_
  refine lc_ld C hW 1 (by omega) (lv_at hl 0 rfl) (lv_at hl 4 rfl) dL_law_1232 dL_law_1233 dL_law_1235 rfl dL_law_1236 dL_law_1237 ?_
  refine lc_ld C hW 2 (by omega) (lv_at hl 0 rfl) (lv_at hl 4 rfl) dL_law_1238 dL_law_1239 dL_law_1241 rfl dL_law_1242 dL_law_1243 ?_
  refine lv_aload_n S.1 S.2.1 dL_law_1244 rfl (lv_at hl 1 rfl) ?_
  refine k_SW (rest := []) S hK hl.1 hW (KFr.rgt hW hA) hN hSt hV (hMW _) gL_law_L_chord rfl pdL_chord ⟨⟨rfl, rfl⟩, Nat.le_of_ble_eq_true rfl, Nat.le_of_ble_eq_true rfl⟩ rfl (Nat.le_of_ble_eq_true rfl) dL_law_1245 hcs (fun H locs hW => ?_)
  refine lv_istore (lv' := [(5, .int (nI k)), (4, .int (nI i)), (3, .ref o), (2, .ref (a' 0)), (1, .ref (a 0)), (0, .ref b)]) S.1 S.2.1 dL_law_1248 hl (by decide) rfl (fun ls hl => ?_)
  refine lv_aload_n S.1 S.2.1 dL_law_1250 rfl (lv_at hl 3 rfl) ?_
  refine lc_ld C hW 1 (by omega) (lv_at hl 1 rfl) (lv_at hl 5 rfl) dL_law_1251 dL_law_1252 dL_law_1254 rfl dL_law_1255 dL_law_1256 ?_
  refine lc_ld C hW 2 (by omega) (lv_at hl 1 rfl) (lv_at hl 5 rfl) dL_law_1257 dL_law_1258 dL_law_1260 rfl dL_law_1261 dL_law_1262 ?_
  refine k_VI (rest := []) S hK hl.1 hW (KFr.lft hW hA) (hMI _) gL_law_X3_chord rfl pdX3_chord ⟨⟨rfl, rfl⟩, Nat.le_of_ble_eq_true rfl, Nat.le_of_ble_eq_true rfl⟩ 0 3 rfl rfl rfl rfl (Nat.le_of_ble_eq_true rfl) dL_law_1263 hcs (fun H locs hW => ?_)
  refine lv_istore (lv' := [(6, .int r), (5, .int (nI k)), (4, .int (nI i)), (3, .ref o), (2, .ref (a' 0)), (1, .ref (a 0)), (0, .ref b)]) S.1 S.2.1 dL_law_1266 hl (by decide) rfl (fun ls hl => ?_)
  exact lc_tail C hW hl hk h5 h0 hcs dL_law_1268 dL_law_1269 dL_law_1272 dL_law_1274 dL_law_1279 dL_law_1281 dL_law_1284 dL_law_1285 dL_law_1286 dL_law_1287 dL_law_1289 dL_law_1290 dL_law_1291 dL_law_1296 (by decide) (fun H locs hW => kk _ _ _ _ _ _ _ _ _ hR hW (lv_sub hl [2, 3, 4, 5, 6] rfl))
set_option maxRecDepth 100000 in
theorem lc_tooth (hfl : l.stackTraces = false) (C : LC p s m cd b L xs D c) (h : Rl θ ρ κ φ T) (hT : T + 5760 < 200000000) (hi : i + 5 ≤ L) (hW : kw D (fun q => s.heap.size ≤ q) s.heap (wM c a' φ δ ++ (wP c a bb θ ρ κ ++ wO c o f)) H locs) (hl : lv_has ls 9 [(4, .int (nI i)), (3, .ref o), (2, .ref (a' 0)), (1, .ref (a 0)), (0, .ref b)]) (hcs : cells + 1 ≤ 601024 ∧ slots + 6 ≤ 7293033) (kk : LK p l e s m below meth cd Q b i D c a bb a' o (T + 5760) (cells + 1) (slots + 6)) : W p l e room_1 s m #[Value.ref b] below meth cd H locs cells slots Q (F0 m 1299 ls []) := by
  obtain ⟨S, hK, hN, hSt, hV, hX, hbl, hL⟩ := id C
  have hA : ∀ q, s.heap.size ≤ q → (fun q => s.heap.size ≤ q) q := fun _ h => h
  obtain ⟨k, r, θ', ρ', κ', φ', f', hk, h5, h0, hR, hMW, hMI⟩ := st_tooth l hfl D c (xs (i + 1)) (xs (i + 2)) a bb a' o f θ ρ κ φ δ T h hT
  refine lv_aload_n S.1 S.2.1 dL_law_1299 rfl (lv_at hl 3 rfl) ?_
  refine lc_ld C hW 1 (by omega) (lv_at hl 0 rfl) (lv_at hl 4 rfl) dL_law_1300 dL_law_1301 dL_law_1303 rfl dL_law_1304 dL_law_1305 ?_
  refine lc_ld C hW 2 (by omega) (lv_at hl 0 rfl) (lv_at hl 4 rfl) dL_law_1306 dL_law_1307 dL_law_1309 rfl dL_law_1310 dL_law_1311 ?_
  refine lv_aload_n S.1 S.2.1 dL_law_1312 rfl (lv_at hl 1 rfl) ?_
  refine k_SW (rest := []) S hK hl.1 hW (KFr.rgt hW hA) hN hSt hV (hMW _) gL_law_L_tooth rfl pdL_tooth ⟨⟨rfl, rfl⟩, Nat.le_of_ble_eq_true rfl, Nat.le_of_ble_eq_true rfl⟩ rfl (Nat.le_of_ble_eq_true rfl) dL_law_1313 hcs (fun H locs hW => ?_)
  refine lv_istore (lv' := [(5, .int (nI k)), (4, .int (nI i)), (3, .ref o), (2, .ref (a' 0)), (1, .ref (a 0)), (0, .ref b)]) S.1 S.2.1 dL_law_1316 hl (by decide) rfl (fun ls hl => ?_)
  refine lv_aload_n S.1 S.2.1 dL_law_1318 rfl (lv_at hl 3 rfl) ?_
  refine lc_ld C hW 1 (by omega) (lv_at hl 1 rfl) (lv_at hl 5 rfl) dL_law_1319 dL_law_1320 dL_law_1322 rfl dL_law_1323 dL_law_1324 ?_
  refine lc_ld C hW 2 (by omega) (lv_at hl 1 rfl) (lv_at hl 5 rfl) dL_law_1325 dL_law_1326 dL_law_1328 rfl dL_law_1329 dL_law_1330 ?_
  refine k_VI (rest := []) S hK hl.1 hW (KFr.lft hW hA) (hMI _) gL_law_X3_tooth rfl pdX3_tooth ⟨⟨rfl, rfl⟩, Nat.le_of_ble_eq_true rfl, Nat.le_of_ble_eq_true rfl⟩ 0 3 rfl rfl rfl rfl (Nat.le_of_ble_eq_true rfl) dL_law_1331 hcs (fun H locs hW => ?_)
  refine lv_istore (lv' := [(6, .int r), (5, .int (nI k)), (4, .int (nI i)), (3, .ref o), (2, .ref (a' 0)), (1, .ref (a 0)), (0, .ref b)]) S.1 S.2.1 dL_law_1334 hl (by decide) rfl (fun ls hl => ?_)
  exact lc_tail C hW hl hk h5 h0 hcs dL_law_1336 dL_law_1337 dL_law_1340 dL_law_1342 dL_law_1347 dL_law_1349 dL_law_1352 dL_law_1353 dL_law_1354 dL_law_1355 dL_law_1357 dL_law_1358 dL_law_1359 dL_law_1364 (by decide) (fun H locs hW => kk _ _ _ _ _ _ _ _ _ hR hW (lv_sub hl [2, 3, 4, 5, 6] rfl))
set_option maxRecDepth 100000 in
theorem lc_note (hfl : l.stackTraces = false) (C : LC p s m cd b L xs D c) (h : Rl θ ρ κ φ T) (hT : T + 5760 < 200000000) (hi : i + 5 ≤ L) (hW : kw D (fun q => s.heap.size ≤ q) s.heap (wM c a' φ δ ++ (wP c a bb θ ρ κ ++ wO c o f)) H locs) (hl : lv_has ls 9 [(4, .int (nI i)), (3, .ref o), (2, .ref (a' 0)), (1, .ref (a 0)), (0, .ref b)]) (hcs : cells + 1 ≤ 601024 ∧ slots + 6 ≤ 7293033) (kk : LK p l e s m below meth cd Q b i D c a bb a' o (T + 5760) (cells + 1) (slots + 6)) : W p l e room_1 s m #[Value.ref b] below meth cd H locs cells slots Q (F0 m 1367 ls []) := by
  obtain ⟨S, hK, hN, hSt, hV, hX, hbl, hL⟩ := id C
  have hA : ∀ q, s.heap.size ≤ q → (fun q => s.heap.size ≤ q) q := fun _ h => h
  obtain ⟨k, r, θ', ρ', κ', φ', f', hk, h5, h0, hR, hMW, hMI⟩ := st_note l hfl D c (xs (i + 1)) (xs (i + 2)) a bb a' o f θ ρ κ φ δ T h hT
  refine lv_aload_n S.1 S.2.1 dL_law_1367 rfl (lv_at hl 3 rfl) ?_
  refine lc_ld C hW 1 (by omega) (lv_at hl 0 rfl) (lv_at hl 4 rfl) dL_law_1368 dL_law_1369 dL_law_1371 rfl dL_law_1372 dL_law_1373 ?_
  refine lc_ld C hW 2 (by omega) (lv_at hl 0 rfl) (lv_at hl 4 rfl) dL_law_1374 dL_law_1375 dL_law_1377 rfl dL_law_1378 dL_law_1379 ?_
  refine lv_aload_n S.1 S.2.1 dL_law_1380 rfl (lv_at hl 1 rfl) ?_
  refine k_SW (rest := []) S hK hl.1 hW (KFr.rgt hW hA) hN hSt hV (hMW _) gL_law_L_note rfl pdL_note ⟨⟨rfl, rfl⟩, Nat.le_of_ble_eq_true rfl, Nat.le_of_ble_eq_true rfl⟩ rfl (Nat.le_of_ble_eq_true rfl) dL_law_1381 hcs (fun H locs hW => ?_)
  refine lv_istore (lv' := [(5, .int (nI k)), (4, .int (nI i)), (3, .ref o), (2, .ref (a' 0)), (1, .ref (a 0)), (0, .ref b)]) S.1 S.2.1 dL_law_1384 hl (by decide) rfl (fun ls hl => ?_)
  refine lv_aload_n S.1 S.2.1 dL_law_1386 rfl (lv_at hl 3 rfl) ?_
  refine lc_ld C hW 1 (by omega) (lv_at hl 1 rfl) (lv_at hl 5 rfl) dL_law_1387 dL_law_1388 dL_law_1390 rfl dL_law_1391 dL_law_1392 ?_
  refine lc_ld C hW 2 (by omega) (lv_at hl 1 rfl) (lv_at hl 5 rfl) dL_law_1393 dL_law_1394 dL_law_1396 rfl dL_law_1397 dL_law_1398 ?_
  refine k_VI (rest := []) S hK hl.1 hW (KFr.lft hW hA) (hMI _) gL_law_X3_note rfl pdX3_note ⟨⟨rfl, rfl⟩, Nat.le_of_ble_eq_true rfl, Nat.le_of_ble_eq_true rfl⟩ 0 3 rfl rfl rfl rfl (Nat.le_of_ble_eq_true rfl) dL_law_1399 hcs (fun H locs hW => ?_)
  refine lv_istore (lv' := [(6, .int r), (5, .int (nI k)), (4, .int (nI i)), (3, .ref o), (2, .ref (a' 0)), (1, .ref (a 0)), (0, .ref b)]) S.1 S.2.1 dL_law_1402 hl (by decide) rfl (fun ls hl => ?_)
  exact lc_tail C hW hl hk h5 h0 hcs dL_law_1404 dL_law_1405 dL_law_1408 dL_law_1410 dL_law_1415 dL_law_1417 dL_law_1420 dL_law_1421 dL_law_1422 dL_law_1423 dL_law_1425 dL_law_1426 dL_law_1427 dL_law_1432 (by decide) (fun H locs hW => kk _ _ _ _ _ _ _ _ _ hR hW (lv_sub hl [2, 3, 4, 5, 6] rfl))
set_option maxRecDepth 100000 in
theorem lc_count (hfl : l.stackTraces = false) (C : LC p s m cd b L xs D c) (h : Rl θ ρ κ φ T) (hT : T + 5760 < 200000000) (hi : i + 5 ≤ L) (hW : kw D (fun q => s.heap.size ≤ q) s.heap (wM c a' φ δ ++ (wP c a bb θ ρ κ ++ wO c o f)) H locs) (hl : lv_has ls 9 [(4, .int (nI i)), (3, .ref o), (2, .ref (a' 0)), (1, .ref (a 0)), (0, .ref b)]) (hcs : cells + 1 ≤ 601024 ∧ slots + 6 ≤ 7293033) (kk : LK p l e s m below meth cd Q b i D c a bb a' o (T + 5760) (cells + 1) (slots + 6)) : W p l e room_1 s m #[Value.ref b] below meth cd H locs cells slots Q (F0 m 1435 ls []) := by
  obtain ⟨S, hK, hN, hSt, hV, hX, hbl, hL⟩ := id C
  have hA : ∀ q, s.heap.size ≤ q → (fun q => s.heap.size ≤ q) q := fun _ h => h
  obtain ⟨k, r, θ', ρ', κ', φ', f', hk, h5, h0, hR, hMW, hMI⟩ := st_count l hfl D c (xs (i + 1)) a bb a' o f θ ρ κ φ δ T h hT
  refine lv_aload_n S.1 S.2.1 dL_law_1435 rfl (lv_at hl 3 rfl) ?_
  refine lc_ld C hW 1 (by omega) (lv_at hl 0 rfl) (lv_at hl 4 rfl) dL_law_1436 dL_law_1437 dL_law_1439 rfl dL_law_1440 dL_law_1441 ?_
  refine lv_aload_n S.1 S.2.1 dL_law_1442 rfl (lv_at hl 1 rfl) ?_
  refine k_SW (rest := []) S hK hl.1 hW (KFr.rgt hW hA) hN hSt hV (hMW _) gL_law_L_count rfl pdL_count ⟨⟨rfl, rfl⟩, Nat.le_of_ble_eq_true rfl, Nat.le_of_ble_eq_true rfl⟩ rfl (Nat.le_of_ble_eq_true rfl) dL_law_1443 hcs (fun H locs hW => ?_)
  refine lv_istore (lv' := [(5, .int (nI k)), (4, .int (nI i)), (3, .ref o), (2, .ref (a' 0)), (1, .ref (a 0)), (0, .ref b)]) S.1 S.2.1 dL_law_1446 hl (by decide) rfl (fun ls hl => ?_)
  refine lv_aload_n S.1 S.2.1 dL_law_1448 rfl (lv_at hl 3 rfl) ?_
  refine lc_ld C hW 1 (by omega) (lv_at hl 1 rfl) (lv_at hl 5 rfl) dL_law_1449 dL_law_1450 dL_law_1452 rfl dL_law_1453 dL_law_1454 ?_
  refine k_VI (rest := []) S hK hl.1 hW (KFr.lft hW hA) (hMI _) gL_law_X3_count rfl pdX3_count ⟨⟨rfl, rfl⟩, Nat.le_of_ble_eq_true rfl, Nat.le_of_ble_eq_true rfl⟩ 0 3 rfl rfl rfl rfl (Nat.le_of_ble_eq_true rfl) dL_law_1455 hcs (fun H locs hW => ?_)
  refine lv_istore (lv' := [(6, .int r), (5, .int (nI k)), (4, .int (nI i)), (3, .ref o), (2, .ref (a' 0)), (1, .ref (a 0)), (0, .ref b)]) S.1 S.2.1 dL_law_1458 hl (by decide) rfl (fun ls hl => ?_)
  exact lc_tail C hW hl hk h5 h0 hcs dL_law_1460 dL_law_1461 dL_law_1464 dL_law_1466 dL_law_1471 dL_law_1473 dL_law_1476 dL_law_1477 dL_law_1478 dL_law_1479 dL_law_1481 dL_law_1482 dL_law_1483 dL_law_1488 (by decide) (fun H locs hW => kk _ _ _ _ _ _ _ _ _ hR hW (lv_sub hl [2, 3, 4, 5, 6] rfl))
set_option maxRecDepth 100000 in
theorem lc_ifPlayed (hfl : l.stackTraces = false) (C : LC p s m cd b L xs D c) (h : Rl θ ρ κ φ T) (hT : T + 5760 < 200000000) (hi : i + 5 ≤ L) (hW : kw D (fun q => s.heap.size ≤ q) s.heap (wM c a' φ δ ++ (wP c a bb θ ρ κ ++ wO c o f)) H locs) (hl : lv_has ls 9 [(4, .int (nI i)), (3, .ref o), (2, .ref (a' 0)), (1, .ref (a 0)), (0, .ref b)]) (hcs : cells + 1 ≤ 601024 ∧ slots + 6 ≤ 7293033) (kk : LK p l e s m below meth cd Q b i D c a bb a' o (T + 5760) (cells + 1) (slots + 6)) : W p l e room_1 s m #[Value.ref b] below meth cd H locs cells slots Q (F0 m 1491 ls []) := by
  obtain ⟨S, hK, hN, hSt, hV, hX, hbl, hL⟩ := id C
  have hA : ∀ q, s.heap.size ≤ q → (fun q => s.heap.size ≤ q) q := fun _ h => h
  obtain ⟨k, r, θ', ρ', κ', φ', f', hk, h5, h0, hR, hMW, hMI⟩ := st_ifPlayed l hfl D c (xs (i + 1)) (xs (i + 2)) a bb a' o f θ ρ κ φ δ T h hT
  refine lv_aload_n S.1 S.2.1 dL_law_1491 rfl (lv_at hl 3 rfl) ?_
  refine lc_ld C hW 1 (by omega) (lv_at hl 0 rfl) (lv_at hl 4 rfl) dL_law_1492 dL_law_1493 dL_law_1495 rfl dL_law_1496 dL_law_1497 ?_
  refine lc_ld C hW 2 (by omega) (lv_at hl 0 rfl) (lv_at hl 4 rfl) dL_law_1498 dL_law_1499 dL_law_1501 rfl dL_law_1502 dL_law_1503 ?_
  refine lv_aload_n S.1 S.2.1 dL_law_1504 rfl (lv_at hl 1 rfl) ?_
  refine k_SW (rest := []) S hK hl.1 hW (KFr.rgt hW hA) hN hSt hV (hMW _) gL_law_L_ifPlayed rfl pdL_ifPlayed ⟨⟨rfl, rfl⟩, Nat.le_of_ble_eq_true rfl, Nat.le_of_ble_eq_true rfl⟩ rfl (Nat.le_of_ble_eq_true rfl) dL_law_1505 hcs (fun H locs hW => ?_)
  refine lv_istore (lv' := [(5, .int (nI k)), (4, .int (nI i)), (3, .ref o), (2, .ref (a' 0)), (1, .ref (a 0)), (0, .ref b)]) S.1 S.2.1 dL_law_1508 hl (by decide) rfl (fun ls hl => ?_)
  refine lv_aload_n S.1 S.2.1 dL_law_1510 rfl (lv_at hl 3 rfl) ?_
  refine lc_ld C hW 1 (by omega) (lv_at hl 1 rfl) (lv_at hl 5 rfl) dL_law_1511 dL_law_1512 dL_law_1514 rfl dL_law_1515 dL_law_1516 ?_
  refine lc_ld C hW 2 (by omega) (lv_at hl 1 rfl) (lv_at hl 5 rfl) dL_law_1517 dL_law_1518 dL_law_1520 rfl dL_law_1521 dL_law_1522 ?_
  refine k_VI (rest := []) S hK hl.1 hW (KFr.lft hW hA) (hMI _) gL_law_X3_ifPlayed rfl pdX3_ifPlayed ⟨⟨rfl, rfl⟩, Nat.le_of_ble_eq_true rfl, Nat.le_of_ble_eq_true rfl⟩ 0 3 rfl rfl rfl rfl (Nat.le_of_ble_eq_true rfl) dL_law_1523 hcs (fun H locs hW => ?_)
  refine lv_istore (lv' := [(6, .int r), (5, .int (nI k)), (4, .int (nI i)), (3, .ref o), (2, .ref (a' 0)), (1, .ref (a 0)), (0, .ref b)]) S.1 S.2.1 dL_law_1526 hl (by decide) rfl (fun ls hl => ?_)
  exact lc_tail C hW hl hk h5 h0 hcs dL_law_1528 dL_law_1529 dL_law_1532 dL_law_1534 dL_law_1539 dL_law_1541 dL_law_1544 dL_law_1545 dL_law_1546 dL_law_1547 dL_law_1549 dL_law_1550 dL_law_1551 dL_law_1556 (by decide) (fun H locs hW => kk _ _ _ _ _ _ _ _ _ hR hW (lv_sub hl [2, 3, 4, 5, 6] rfl))
set_option maxRecDepth 100000 in
theorem lc_fewestVanes (hfl : l.stackTraces = false) (C : LC p s m cd b L xs D c) (h : Rl θ ρ κ φ T) (hT : T + 5760 < 200000000) (hi : i + 5 ≤ L) (hW : kw D (fun q => s.heap.size ≤ q) s.heap (wM c a' φ δ ++ (wP c a bb θ ρ κ ++ wO c o f)) H locs) (hl : lv_has ls 9 [(4, .int (nI i)), (3, .ref o), (2, .ref (a' 0)), (1, .ref (a 0)), (0, .ref b)]) (hcs : cells + 1 ≤ 601024 ∧ slots + 6 ≤ 7293033) (kk : LK p l e s m below meth cd Q b i D c a bb a' o (T + 5760) (cells + 1) (slots + 6)) : W p l e room_1 s m #[Value.ref b] below meth cd H locs cells slots Q (F0 m 1559 ls []) := by
  obtain ⟨S, hK, hN, hSt, hV, hX, hbl, hL⟩ := id C
  have hA : ∀ q, s.heap.size ≤ q → (fun q => s.heap.size ≤ q) q := fun _ h => h
  have hcs0 : cells ≤ 601024 ∧ slots ≤ 7293033 := ⟨by omega, by omega⟩
  obtain ⟨r, θ', ρ', κ', φ', hR, h2, h3⟩ := st_fewestVanes l D c a bb a' θ ρ κ φ δ T h hT
  refine lv_aload_n S.1 S.2.1 dL_law_1559 rfl (lv_at hl 3 rfl) ?_
  refine k_VI2 (rest := []) S hK hl.1 hW (KFr.mid hW hA) hN (h2 _) gL_law_X2_fewestVanes rfl pdX2_fewestVanes ⟨⟨rfl, rfl⟩, Nat.le_of_ble_eq_true rfl, Nat.le_of_ble_eq_true rfl⟩ 0 2 rfl rfl rfl rfl (Nat.le_of_ble_eq_true rfl) dL_law_1560 hcs0 (fun H locs hW => ?_)
  refine lv_aload_n S.1 S.2.1 dL_law_1563 rfl (lv_at hl 2 rfl) ?_
  refine k_VI (rest := [.int r]) S hK hl.1 hW (KFr.lft hW hA) (h3 _) gL_law_X3_fewestVanes rfl pdX3_fewestVanes ⟨⟨rfl, rfl⟩, Nat.le_of_ble_eq_true rfl, Nat.le_of_ble_eq_true rfl⟩ 0 3 rfl rfl rfl rfl (Nat.le_of_ble_eq_true rfl) dL_law_1564 hcs0 (fun H locs hW => ?_)
  exact lv_icmp_eq (tgt := 1683) S.1 S.2.1 dL_law_1567 (by decide) (fun _ => W.widen (Nat.le_add_right _ _) (Nat.le_add_right _ _) (kk _ _ _ _ _ _ _ _ _ hR hW hl)) (fun q => absurd rfl q)
set_option maxRecDepth 100000 in
theorem lc_windFor (hfl : l.stackTraces = false) (C : LC p s m cd b L xs D c) (h : Rl θ ρ κ φ T) (hT : T + 5760 < 200000000) (hi : i + 5 ≤ L) (hW : kw D (fun q => s.heap.size ≤ q) s.heap (wM c a' φ δ ++ (wP c a bb θ ρ κ ++ wO c o f)) H locs) (hl : lv_has ls 9 [(4, .int (nI i)), (3, .ref o), (2, .ref (a' 0)), (1, .ref (a 0)), (0, .ref b)]) (hcs : cells + 1 ≤ 601024 ∧ slots + 6 ≤ 7293033) (kk : LK p l e s m below meth cd Q b i D c a bb a' o (T + 5760) (cells + 1) (slots + 6)) : W p l e room_1 s m #[Value.ref b] below meth cd H locs cells slots Q (F0 m 1572 ls []) := by
  obtain ⟨S, hK, hN, hSt, hV, hX, hbl, hL⟩ := id C
  have hA : ∀ q, s.heap.size ≤ q → (fun q => s.heap.size ≤ q) q := fun _ h => h
  obtain ⟨k, r, θ', ρ', κ', φ', f', hk, h5, h0, hR, hMW, hMI⟩ := st_windFor l hfl D c (xs (i + 1)) a bb a' o f θ ρ κ φ δ T h hT
  refine lv_aload_n S.1 S.2.1 dL_law_1572 rfl (lv_at hl 3 rfl) ?_
  refine lc_ld C hW 1 (by omega) (lv_at hl 0 rfl) (lv_at hl 4 rfl) dL_law_1573 dL_law_1574 dL_law_1576 rfl dL_law_1577 dL_law_1578 ?_
  refine lv_aload_n S.1 S.2.1 dL_law_1579 rfl (lv_at hl 1 rfl) ?_
  refine k_SW (rest := []) S hK hl.1 hW (KFr.rgt hW hA) hN hSt hV (hMW _) gL_law_L_windFor rfl pdL_windFor ⟨⟨rfl, rfl⟩, Nat.le_of_ble_eq_true rfl, Nat.le_of_ble_eq_true rfl⟩ rfl (Nat.le_of_ble_eq_true rfl) dL_law_1580 hcs (fun H locs hW => ?_)
  refine lv_istore (lv' := [(5, .int (nI k)), (4, .int (nI i)), (3, .ref o), (2, .ref (a' 0)), (1, .ref (a 0)), (0, .ref b)]) S.1 S.2.1 dL_law_1583 hl (by decide) rfl (fun ls hl => ?_)
  refine lv_aload_n S.1 S.2.1 dL_law_1585 rfl (lv_at hl 3 rfl) ?_
  refine lc_ld C hW 1 (by omega) (lv_at hl 1 rfl) (lv_at hl 5 rfl) dL_law_1586 dL_law_1587 dL_law_1589 rfl dL_law_1590 dL_law_1591 ?_
  refine k_VI (rest := []) S hK hl.1 hW (KFr.lft hW hA) (hMI _) gL_law_X3_windFor rfl pdX3_windFor ⟨⟨rfl, rfl⟩, Nat.le_of_ble_eq_true rfl, Nat.le_of_ble_eq_true rfl⟩ 0 3 rfl rfl rfl rfl (Nat.le_of_ble_eq_true rfl) dL_law_1592 hcs (fun H locs hW => ?_)
  refine lv_istore (lv' := [(6, .int r), (5, .int (nI k)), (4, .int (nI i)), (3, .ref o), (2, .ref (a' 0)), (1, .ref (a 0)), (0, .ref b)]) S.1 S.2.1 dL_law_1595 hl (by decide) rfl (fun ls hl => ?_)
  exact lc_tail C hW hl hk h5 h0 hcs dL_law_1597 dL_law_1598 dL_law_1601 dL_law_1603 dL_law_1608 dL_law_1610 dL_law_1613 dL_law_1614 dL_law_1615 dL_law_1616 dL_law_1618 dL_law_1619 dL_law_1620 dL_law_1625 (by decide) (fun H locs hW => kk _ _ _ _ _ _ _ _ _ hR hW (lv_sub hl [2, 3, 4, 5, 6] rfl))
set_option maxRecDepth 100000 in
theorem lc_clean (hfp : fpOk) (hfl : l.stackTraces = false) (C : LC p s m cd b L xs D c) (h : Rl θ ρ κ φ T) (hT : T + 5760 < 200000000) (hi : i + 5 ≤ L) (hW : kw D (fun q => s.heap.size ≤ q) s.heap (wM c a' φ δ ++ (wP c a bb θ ρ κ ++ wO c o f)) H locs) (hl : lv_has ls 9 [(4, .int (nI i)), (3, .ref o), (2, .ref (a' 0)), (1, .ref (a 0)), (0, .ref b)]) (hcs : cells + 1 ≤ 601024 ∧ slots + 6 ≤ 7293033) (kk : LK p l e s m below meth cd Q b i D c a bb a' o (T + 5760) (cells + 1) (slots + 6)) : W p l e room_1 s m #[Value.ref b] below meth cd H locs cells slots Q (F0 m 1628 ls []) := by
  obtain ⟨S, hK, hN, hSt, hV, hX, hbl, hL⟩ := id C
  have hA : ∀ q, s.heap.size ≤ q → (fun q => s.heap.size ≤ q) q := fun _ h => h
  have hcs0 : cells ≤ 601024 ∧ slots ≤ 7293033 := ⟨by omega, by omega⟩
  obtain ⟨v, φ', hR, h2, h3⟩ := st_clean hfp l D c a bb a' θ ρ κ φ δ T h hT
  refine lv_aload_n S.1 S.2.1 dL_law_1628 rfl (lv_at hl 3 rfl) ?_
  refine k_VD2 (rest := []) S hK hl.1 hW (KFr.mid hW hA) hN (h2 _) gL_law_X2_clean rfl pdX2_clean ⟨⟨rfl, rfl⟩, Nat.le_of_ble_eq_true rfl, Nat.le_of_ble_eq_true rfl⟩ 0 2 rfl rfl rfl rfl (Nat.le_of_ble_eq_true rfl) dL_law_1629 hcs0 (fun H locs hW => ?_)
  refine lv_dstore (lv' := [(5, .double v), (4, .int (nI i)), (3, .ref o), (2, .ref (a' 0)), (1, .ref (a 0)), (0, .ref b)]) S.1 S.2.1 dL_law_1632 hl (by decide) rfl (fun ls hl => ?_)
  refine lv_aload_n S.1 S.2.1 dL_law_1634 rfl (lv_at hl 3 rfl) ?_
  refine k_VD (rest := []) S hK hl.1 hW (KFr.lft hW hA) (h3 _) gL_law_X3_clean rfl pdX3_clean ⟨⟨rfl, rfl⟩, Nat.le_of_ble_eq_true rfl, Nat.le_of_ble_eq_true rfl⟩ 0 3 rfl rfl rfl rfl (Nat.le_of_ble_eq_true rfl) dL_law_1635 hcs0 (fun H locs hW => ?_)
  refine lv_dstore (lv' := [(7, .double v), (5, .double v), (4, .int (nI i)), (3, .ref o), (2, .ref (a' 0)), (1, .ref (a 0)), (0, .ref b)]) S.1 S.2.1 dL_law_1638 hl (by decide) rfl (fun ls hl => ?_)
  have fin := lv_goto (tgt := 1683) S.1 S.2.1 (rest := []) dL_law_1666 (by decide) (W.widen (k := cells + 1) (n := slots + 6) (Nat.le_add_right _ _) (Nat.le_add_right _ _) (kk _ _ _ _ _ _ _ _ _ hR hW (lv_sub hl [2, 3, 4, 5, 6] rfl)))
  refine lv_dload S.1 S.2.1 dL_law_1640 (lv_at hl 1 rfl) ?_
  refine lv_dload S.1 S.2.1 dL_law_1642 (lv_at hl 0 rfl) ?_
  refine lv_dcmp S.1 S.2.1 dL_law_1644 ?_
  refine lv_if_eq (tgt := 1666) S.1 S.2.1 dL_law_1645 (by decide) (fun _ => fin) (fun q => ?_)
  refine lv_dload S.1 S.2.1 dL_law_1648 (lv_at hl 1 rfl) ?_
  refine lv_dload S.1 S.2.1 dL_law_1650 (lv_at hl 1 rfl) ?_
  refine lv_dcmp S.1 S.2.1 dL_law_1652 ?_
  refine lv_if_eq (tgt := 1664) S.1 S.2.1 dL_law_1653 (by decide) (fun q2 => absurd q2 q) (fun _ => ?_)
  refine lv_dload S.1 S.2.1 dL_law_1656 (lv_at hl 0 rfl) ?_
  refine lv_dload S.1 S.2.1 dL_law_1658 (lv_at hl 0 rfl) ?_
  refine lv_dcmp S.1 S.2.1 dL_law_1660 ?_
  exact lv_if_ne (tgt := 1666) S.1 S.2.1 dL_law_1661 (by decide) (fun _ => fin) (fun q2 => absurd q2 q)
set_option maxRecDepth 100000 in
theorem lc_digest (hfp : fpOk) (hfl : l.stackTraces = false) (C : LC p s m cd b L xs D c) (h : Rl θ ρ κ φ T) (hT : T + 5760 < 200000000) (hi : i + 5 ≤ L) (hW : kw D (fun q => s.heap.size ≤ q) s.heap (wM c a' φ δ ++ (wP c a bb θ ρ κ ++ wO c o f)) H locs) (hl : lv_has ls 9 [(4, .int (nI i)), (3, .ref o), (2, .ref (a' 0)), (1, .ref (a 0)), (0, .ref b)]) (hcs : cells + 1 ≤ 601024 ∧ slots + 6 ≤ 7293033) (kk : LK p l e s m below meth cd Q b i D c a bb a' o (T + 5760) (cells + 1) (slots + 6)) : W p l e room_1 s m #[Value.ref b] below meth cd H locs cells slots Q (F0 m 1669 ls []) := by
  obtain ⟨S, hK, hN, hSt, hV, hX, hbl, hL⟩ := id C
  have hA : ∀ q, s.heap.size ≤ q → (fun q => s.heap.size ≤ q) q := fun _ h => h
  have hcs0 : cells ≤ 601024 ∧ slots ≤ 7293033 := ⟨by omega, by omega⟩
  obtain ⟨v, θ', φ', δ', hR, h2, h3⟩ := st_digest hfp l D c a bb a' θ ρ κ φ δ T h hT
  refine lv_aload_n S.1 S.2.1 dL_law_1669 rfl (lv_at hl 3 rfl) ?_
  refine k_VL2 (rest := []) S hK hl.1 hW (KFr.mid hW hA) hN (h2 _) gL_law_X2_digest rfl pdX2_digest ⟨⟨rfl, rfl⟩, Nat.le_of_ble_eq_true rfl, Nat.le_of_ble_eq_true rfl⟩ 0 2 rfl rfl rfl rfl (Nat.le_of_ble_eq_true rfl) dL_law_1670 hcs0 (fun H locs hW => ?_)
  refine lv_aload_n S.1 S.2.1 dL_law_1673 rfl (lv_at hl 2 rfl) ?_
  refine k_VL (rest := [.long v]) S hK hl.1 hW (KFr.lft hW hA) (h3 _) gL_law_X3_digest rfl pdX3_digest ⟨⟨rfl, rfl⟩, Nat.le_of_ble_eq_true rfl, Nat.le_of_ble_eq_true rfl⟩ 0 3 rfl rfl rfl rfl (Nat.le_of_ble_eq_true rfl) dL_law_1674 hcs0 (fun H locs hW => ?_)
  refine W.lcmp S.1 S.2.1 dL_law_1677 ?_
  exact lv_if_eq (tgt := 1683) S.1 S.2.1 dL_law_1678 (by decide) (fun _ => W.widen (Nat.le_add_right _ _) (Nat.le_add_right _ _) (kk _ _ _ _ _ _ _ _ _ hR hW hl)) (fun q => absurd (by simp [lg_cmp]) q)
end LCS
