/-! ===== the law: each call ===== -/
set_option maxHeartbeats 4000000 in
set_option maxRecDepth 100000 in
theorem lw_c0 {G : jG} {b L : Nat} {xs : Nat → Int32} (hb : jad G 1020 = b) (hL : L ≤ 3072) {i : Nat} (hi : i + 6 ≤ L) (hK : ∀ w, lwR w → J G (lwG G b L xs) w 1418 (lwL i) []) {w : jWd} (hR : lwR w) : J G (lwG G b L xs) w 212 (lwL i) [] := by
  have hG := hR.2.2.2.2
  refine J_aload_n (pc' := 213) dL_law_212 rfl rfl ?_
  refine J_arg 1 nIc_1 (by decide) hb hL (by omega) dL_law_213 dL_law_214 dL_law_215 dL_law_216 dL_law_217 ?_
  refine J_arg 2 nIc_2 (by decide) hb hL (by omega) dL_law_218 dL_law_219 dL_law_220 dL_law_221 dL_law_222 ?_
  refine J_arg 3 nIc_3 (by decide) hb hL (by omega) dL_law_223 dL_law_224 dL_law_225 dL_law_226 dL_law_227 ?_
  refine J_arg 4 nIc_4 (by decide) hb hL (by omega) dL_law_228 dL_law_229 dL_law_230 dL_law_231 dL_law_232 ?_
  refine J_V4p (pc' := 236) dL_law_233 lk_L_13 cd_X6_mark (a_X6_mark hR.2.2.1 hG.1) ly_0 l84_0 rfl rfl (lw_room (by omega) (by omega)) (Nat.le_of_ble_eq_true rfl) rfl (fun w1 h1 => ?_)
  obtain ⟨e69, e70, eR, hV1⟩ := lwR_mid hR h1
  have hI1 : sInv (abM (w1.1 69)) := by rw [e69, ← hR.1]; exact hG.1
  have hM := b_X7_mark (G := G) (w := w1) hV1 hI1 (km := (xs (i + 1))) (f := (xs (i + 2))) (t := (xs (i + 3))) (td := (xs (i + 4)))
  rw [e69, e70, eR, ← hR.1, ← hR.2.1] at hM
  have hQ := g_mark hG (xs (i + 1)) (xs (i + 2)) (xs (i + 3)) (xs (i + 4))
  refine J_aload_n (pc' := 237) dL_law_236 rfl rfl ?_
  refine J_arg 1 nIc_1 (by decide) hb hL (by omega) dL_law_237 dL_law_238 dL_law_239 dL_law_240 dL_law_241 ?_
  refine J_arg 2 nIc_2 (by decide) hb hL (by omega) dL_law_242 dL_law_243 dL_law_244 dL_law_245 dL_law_246 ?_
  refine J_arg 3 nIc_3 (by decide) hb hL (by omega) dL_law_247 dL_law_248 dL_law_249 dL_law_250 dL_law_251 ?_
  refine J_arg 4 nIc_4 (by decide) hb hL (by omega) dL_law_252 dL_law_253 dL_law_254 dL_law_255 dL_law_256 ?_
  refine J_V4p (pc' := 260) dL_law_257 lk_L_17 cd_X7_mark hM ly_68 l84_68 rfl rfl (lw_room (by omega) (by omega)) (Nat.le_of_ble_eq_true rfl) rfl (fun w2 h2 => ?_)
  exact J_icmp_eq 1418 (pc' := 263) dL_law_260 (by decide) rfl (fun _ => hK w2 (lwR_end hQ h1 h2)) (fun q => absurd hQ.1 q)
set_option maxHeartbeats 4000000 in
set_option maxRecDepth 100000 in
theorem lw_c1 {G : jG} {b L : Nat} {xs : Nat → Int32} (hb : jad G 1020 = b) (hL : L ≤ 3072) {i : Nat} (hi : i + 6 ≤ L) (hK : ∀ w, lwR w → J G (lwG G b L xs) w 1418 (lwL i) []) {w : jWd} (hR : lwR w) : J G (lwG G b L xs) w 265 (lwL i) [] := by
  have hG := hR.2.2.2.2
  refine J_aload_n (pc' := 266) dL_law_265 rfl rfl ?_
  refine J_arg 1 nIc_1 (by decide) hb hL (by omega) dL_law_266 dL_law_267 dL_law_268 dL_law_269 dL_law_270 ?_
  refine J_arg 2 nIc_2 (by decide) hb hL (by omega) dL_law_271 dL_law_272 dL_law_273 dL_law_274 dL_law_275 ?_
  refine J_V2p (pc' := 279) dL_law_276 lk_L_18 cd_X6_markIs (a_X6_markIs hR.2.2.1 hG.1) ly_0 l84_0 rfl rfl (lw_room (by omega) (by omega)) (Nat.le_of_ble_eq_true rfl) rfl (fun w1 h1 => ?_)
  obtain ⟨e69, e70, eR, hV1⟩ := lwR_mid hR h1
  have hI1 : sInv (abM (w1.1 69)) := by rw [e69, ← hR.1]; exact hG.1
  have hM := b_X7_markIs (G := G) (w := w1) hV1 hI1 (x := (xs (i + 1))) (y := (xs (i + 2)))
  rw [e69, e70, eR, ← hR.1, ← hR.2.1] at hM
  have hQ := g_markIs hG (xs (i + 1)) (xs (i + 2))
  refine J_aload_n (pc' := 280) dL_law_279 rfl rfl ?_
  refine J_arg 1 nIc_1 (by decide) hb hL (by omega) dL_law_280 dL_law_281 dL_law_282 dL_law_283 dL_law_284 ?_
  refine J_arg 2 nIc_2 (by decide) hb hL (by omega) dL_law_285 dL_law_286 dL_law_287 dL_law_288 dL_law_289 ?_
  refine J_V2p (pc' := 293) dL_law_290 lk_L_22 cd_X7_markIs hM ly_68 l84_68 rfl rfl (lw_room (by omega) (by omega)) (Nat.le_of_ble_eq_true rfl) rfl (fun w2 h2 => ?_)
  exact J_icmp_eq 1418 (pc' := 296) dL_law_293 (by decide) rfl (fun _ => hK w2 (lwR_end hQ h1 h2)) (fun q => absurd hQ.1 q)
set_option maxHeartbeats 4000000 in
set_option maxRecDepth 100000 in
theorem lw_c2 {G : jG} {b L : Nat} {xs : Nat → Int32} (hb : jad G 1020 = b) (hL : L ≤ 3072) {i : Nat} (hi : i + 6 ≤ L) (hK : ∀ w, lwR w → J G (lwG G b L xs) w 1418 (lwL i) []) {w : jWd} (hR : lwR w) : J G (lwG G b L xs) w 298 (lwL i) [] := by
  have hG := hR.2.2.2.2
  refine J_aload_n (pc' := 299) dL_law_298 rfl rfl ?_
  refine J_arg 1 nIc_1 (by decide) hb hL (by omega) dL_law_299 dL_law_300 dL_law_301 dL_law_302 dL_law_303 ?_
  refine J_arg 2 nIc_2 (by decide) hb hL (by omega) dL_law_304 dL_law_305 dL_law_306 dL_law_307 dL_law_308 ?_
  refine J_V2p (pc' := 312) dL_law_309 lk_L_23 cd_X6_become (a_X6_become hR.2.2.1 hG.1) ly_0 l84_0 rfl rfl (lw_room (by omega) (by omega)) (Nat.le_of_ble_eq_true rfl) rfl (fun w1 h1 => ?_)
  obtain ⟨e69, e70, eR, hV1⟩ := lwR_mid hR h1
  have hI1 : sInv (abM (w1.1 69)) := by rw [e69, ← hR.1]; exact hG.1
  have hM := b_X7_become (G := G) (w := w1) hV1 hI1 (x := (xs (i + 1))) (km := (xs (i + 2)))
  rw [e69, e70, eR, ← hR.1, ← hR.2.1] at hM
  have hQ := g_become hG (xs (i + 1)) (xs (i + 2))
  refine J_aload_n (pc' := 313) dL_law_312 rfl rfl ?_
  refine J_arg 1 nIc_1 (by decide) hb hL (by omega) dL_law_313 dL_law_314 dL_law_315 dL_law_316 dL_law_317 ?_
  refine J_arg 2 nIc_2 (by decide) hb hL (by omega) dL_law_318 dL_law_319 dL_law_320 dL_law_321 dL_law_322 ?_
  refine J_V2p (pc' := 326) dL_law_323 lk_L_26 cd_X7_become hM ly_68 l84_68 rfl rfl (lw_room (by omega) (by omega)) (Nat.le_of_ble_eq_true rfl) rfl (fun w2 h2 => ?_)
  exact J_icmp_eq 1418 (pc' := 329) dL_law_326 (by decide) rfl (fun _ => hK w2 (lwR_end hQ h1 h2)) (fun q => absurd hQ.1 q)
set_option maxHeartbeats 4000000 in
set_option maxRecDepth 100000 in
theorem lw_c3 {G : jG} {b L : Nat} {xs : Nat → Int32} (hb : jad G 1020 = b) (hL : L ≤ 3072) {i : Nat} (hi : i + 6 ≤ L) (hK : ∀ w, lwR w → J G (lwG G b L xs) w 1418 (lwL i) []) {w : jWd} (hR : lwR w) : J G (lwG G b L xs) w 331 (lwL i) [] := by
  have hG := hR.2.2.2.2
  refine J_aload_n (pc' := 332) dL_law_331 rfl rfl ?_
  refine J_arg 1 nIc_1 (by decide) hb hL (by omega) dL_law_332 dL_law_333 dL_law_334 dL_law_335 dL_law_336 ?_
  refine J_arg 2 nIc_2 (by decide) hb hL (by omega) dL_law_337 dL_law_338 dL_law_339 dL_law_340 dL_law_341 ?_
  refine J_V2p (pc' := 345) dL_law_342 lk_L_27 cd_X6_as (a_X6_as hR.2.2.1 hG.1) ly_0 l84_0 rfl rfl (lw_room (by omega) (by omega)) (Nat.le_of_ble_eq_true rfl) rfl (fun w1 h1 => ?_)
  obtain ⟨e69, e70, eR, hV1⟩ := lwR_mid hR h1
  have hI1 : sInv (abM (w1.1 69)) := by rw [e69, ← hR.1]; exact hG.1
  have hM := b_X7_as (G := G) (w := w1) hV1 hI1 (x := (xs (i + 1))) (c := (xs (i + 2)))
  rw [e69, e70, eR, ← hR.1, ← hR.2.1] at hM
  have hQ := g_as hG (xs (i + 1)) (xs (i + 2))
  refine J_aload_n (pc' := 346) dL_law_345 rfl rfl ?_
  refine J_arg 1 nIc_1 (by decide) hb hL (by omega) dL_law_346 dL_law_347 dL_law_348 dL_law_349 dL_law_350 ?_
  refine J_arg 2 nIc_2 (by decide) hb hL (by omega) dL_law_351 dL_law_352 dL_law_353 dL_law_354 dL_law_355 ?_
  refine J_V2p (pc' := 359) dL_law_356 lk_L_30 cd_X7_as hM ly_68 l84_68 rfl rfl (lw_room (by omega) (by omega)) (Nat.le_of_ble_eq_true rfl) rfl (fun w2 h2 => ?_)
  exact J_icmp_eq 1418 (pc' := 362) dL_law_359 (by decide) rfl (fun _ => hK w2 (lwR_end hQ h1 h2)) (fun q => absurd hQ.1 q)
set_option maxHeartbeats 4000000 in
set_option maxRecDepth 100000 in
theorem lw_c4 {G : jG} {b L : Nat} {xs : Nat → Int32} (hb : jad G 1020 = b) (hL : L ≤ 3072) {i : Nat} (hi : i + 6 ≤ L) (hK : ∀ w, lwR w → J G (lwG G b L xs) w 1418 (lwL i) []) {w : jWd} (hR : lwR w) : J G (lwG G b L xs) w 364 (lwL i) [] := by
  have hG := hR.2.2.2.2
  refine J_aload_n (pc' := 365) dL_law_364 rfl rfl ?_
  refine J_arg 1 nIc_1 (by decide) hb hL (by omega) dL_law_365 dL_law_366 dL_law_367 dL_law_368 dL_law_369 ?_
  refine J_arg 2 nIc_2 (by decide) hb hL (by omega) dL_law_370 dL_law_371 dL_law_372 dL_law_373 dL_law_374 ?_
  refine J_V2p (pc' := 378) dL_law_375 lk_L_31 cd_X6_measure (a_X6_measure hR.2.2.1 hG.1) ly_0 l84_0 rfl rfl (lw_room (by omega) (by omega)) (Nat.le_of_ble_eq_true rfl) rfl (fun w1 h1 => ?_)
  obtain ⟨e69, e70, eR, hV1⟩ := lwR_mid hR h1
  have hI1 : sInv (abM (w1.1 69)) := by rw [e69, ← hR.1]; exact hG.1
  have hM := b_X7_measure (G := G) (w := w1) hV1 hI1 (x := (xs (i + 1))) (v := (xs (i + 2)))
  rw [e69, e70, eR, ← hR.1, ← hR.2.1] at hM
  have hQ := g_measure hG (xs (i + 1)) (xs (i + 2))
  refine J_aload_n (pc' := 379) dL_law_378 rfl rfl ?_
  refine J_arg 1 nIc_1 (by decide) hb hL (by omega) dL_law_379 dL_law_380 dL_law_381 dL_law_382 dL_law_383 ?_
  refine J_arg 2 nIc_2 (by decide) hb hL (by omega) dL_law_384 dL_law_385 dL_law_386 dL_law_387 dL_law_388 ?_
  refine J_V2p (pc' := 392) dL_law_389 lk_L_34 cd_X7_measure hM ly_68 l84_68 rfl rfl (lw_room (by omega) (by omega)) (Nat.le_of_ble_eq_true rfl) rfl (fun w2 h2 => ?_)
  exact J_icmp_eq 1418 (pc' := 395) dL_law_392 (by decide) rfl (fun _ => hK w2 (lwR_end hQ h1 h2)) (fun q => absurd hQ.1 q)
set_option maxHeartbeats 4000000 in
set_option maxRecDepth 100000 in
theorem lw_c5 {G : jG} {b L : Nat} {xs : Nat → Int32} (hb : jad G 1020 = b) (hL : L ≤ 3072) {i : Nat} (hi : i + 6 ≤ L) (hK : ∀ w, lwR w → J G (lwG G b L xs) w 1418 (lwL i) []) {w : jWd} (hR : lwR w) : J G (lwG G b L xs) w 397 (lwL i) [] := by
  have hG := hR.2.2.2.2
  refine J_aload_n (pc' := 398) dL_law_397 rfl rfl ?_
  refine J_arg 1 nIc_1 (by decide) hb hL (by omega) dL_law_398 dL_law_399 dL_law_400 dL_law_401 dL_law_402 ?_
  refine J_arg 2 nIc_2 (by decide) hb hL (by omega) dL_law_403 dL_law_404 dL_law_405 dL_law_406 dL_law_407 ?_
  refine J_V2p (pc' := 411) dL_law_408 lk_L_35 cd_X6_on (a_X6_on hR.2.2.1 hG.1) ly_0 l84_0 rfl rfl (lw_room (by omega) (by omega)) (Nat.le_of_ble_eq_true rfl) rfl (fun w1 h1 => ?_)
  obtain ⟨e69, e70, eR, hV1⟩ := lwR_mid hR h1
  have hI1 : sInv (abM (w1.1 69)) := by rw [e69, ← hR.1]; exact hG.1
  have hM := b_X7_on (G := G) (w := w1) hV1 hI1 (x := (xs (i + 1))) (v := (xs (i + 2)))
  rw [e69, e70, eR, ← hR.1, ← hR.2.1] at hM
  have hQ := g_on hG (xs (i + 1)) (xs (i + 2))
  refine J_aload_n (pc' := 412) dL_law_411 rfl rfl ?_
  refine J_arg 1 nIc_1 (by decide) hb hL (by omega) dL_law_412 dL_law_413 dL_law_414 dL_law_415 dL_law_416 ?_
  refine J_arg 2 nIc_2 (by decide) hb hL (by omega) dL_law_417 dL_law_418 dL_law_419 dL_law_420 dL_law_421 ?_
  refine J_V2p (pc' := 425) dL_law_422 lk_L_38 cd_X7_on hM ly_68 l84_68 rfl rfl (lw_room (by omega) (by omega)) (Nat.le_of_ble_eq_true rfl) rfl (fun w2 h2 => ?_)
  exact J_icmp_eq 1418 (pc' := 428) dL_law_425 (by decide) rfl (fun _ => hK w2 (lwR_end hQ h1 h2)) (fun q => absurd hQ.1 q)
set_option maxHeartbeats 4000000 in
set_option maxRecDepth 100000 in
theorem lw_c6 {G : jG} {b L : Nat} {xs : Nat → Int32} (hb : jad G 1020 = b) (hL : L ≤ 3072) {i : Nat} (hi : i + 6 ≤ L) (hK : ∀ w, lwR w → J G (lwG G b L xs) w 1418 (lwL i) []) {w : jWd} (hR : lwR w) : J G (lwG G b L xs) w 430 (lwL i) [] := by
  have hG := hR.2.2.2.2
  refine J_aload_n (pc' := 431) dL_law_430 rfl rfl ?_
  refine J_arg 1 nIc_1 (by decide) hb hL (by omega) dL_law_431 dL_law_432 dL_law_433 dL_law_434 dL_law_435 ?_
  refine J_V1p (pc' := 439) dL_law_436 lk_L_39 cd_X6_pictures (a_X6_pictures hR.2.2.1 hG.1) ly_0 l84_0 rfl rfl (lw_room (by omega) (by omega)) (Nat.le_of_ble_eq_true rfl) rfl (fun w1 h1 => ?_)
  obtain ⟨e69, e70, eR, hV1⟩ := lwR_mid hR h1
  have hI1 : sInv (abM (w1.1 69)) := by rw [e69, ← hR.1]; exact hG.1
  have hM := b_X7_pictures (G := G) (w := w1) hV1 hI1 (n0 := (xs (i + 1)))
  rw [e69, e70, eR, ← hR.1, ← hR.2.1] at hM
  have hQ := g_pictures hG (xs (i + 1))
  refine J_aload_n (pc' := 440) dL_law_439 rfl rfl ?_
  refine J_arg 1 nIc_1 (by decide) hb hL (by omega) dL_law_440 dL_law_441 dL_law_442 dL_law_443 dL_law_444 ?_
  refine J_V1p (pc' := 448) dL_law_445 lk_L_43 cd_X7_pictures hM ly_68 l84_68 rfl rfl (lw_room (by omega) (by omega)) (Nat.le_of_ble_eq_true rfl) rfl (fun w2 h2 => ?_)
  exact J_icmp_eq 1418 (pc' := 451) dL_law_448 (by decide) rfl (fun _ => hK w2 (lwR_end hQ h1 h2)) (fun q => absurd hQ.1 q)
set_option maxHeartbeats 4000000 in
set_option maxRecDepth 100000 in
theorem lw_c7 {G : jG} {b L : Nat} {xs : Nat → Int32} (hb : jad G 1020 = b) (hL : L ≤ 3072) {i : Nat} (hi : i + 6 ≤ L) (hK : ∀ w, lwR w → J G (lwG G b L xs) w 1418 (lwL i) []) {w : jWd} (hR : lwR w) : J G (lwG G b L xs) w 453 (lwL i) [] := by
  have hG := hR.2.2.2.2
  refine J_aload_n (pc' := 454) dL_law_453 rfl rfl ?_
  refine J_arg 1 nIc_1 (by decide) hb hL (by omega) dL_law_454 dL_law_455 dL_law_456 dL_law_457 dL_law_458 ?_
  refine J_V1p (pc' := 462) dL_law_459 lk_L_44 cd_X6_limit (a_X6_limit hR.2.2.1 hG.1) ly_0 l84_0 rfl rfl (lw_room (by omega) (by omega)) (Nat.le_of_ble_eq_true rfl) rfl (fun w1 h1 => ?_)
  obtain ⟨e69, e70, eR, hV1⟩ := lwR_mid hR h1
  have hI1 : sInv (abM (w1.1 69)) := by rw [e69, ← hR.1]; exact hG.1
  have hM := b_X7_limit (G := G) (w := w1) hV1 hI1 (v := (xs (i + 1)))
  rw [e69, e70, eR, ← hR.1, ← hR.2.1] at hM
  have hQ := g_limit hG (xs (i + 1))
  refine J_aload_n (pc' := 463) dL_law_462 rfl rfl ?_
  refine J_arg 1 nIc_1 (by decide) hb hL (by omega) dL_law_463 dL_law_464 dL_law_465 dL_law_466 dL_law_467 ?_
  refine J_V1p (pc' := 471) dL_law_468 lk_L_47 cd_X7_limit hM ly_68 l84_68 rfl rfl (lw_room (by omega) (by omega)) (Nat.le_of_ble_eq_true rfl) rfl (fun w2 h2 => ?_)
  exact J_icmp_eq 1418 (pc' := 474) dL_law_471 (by decide) rfl (fun _ => hK w2 (lwR_end hQ h1 h2)) (fun q => absurd hQ.1 q)
set_option maxHeartbeats 4000000 in
set_option maxRecDepth 100000 in
theorem lw_c8 {G : jG} {b L : Nat} {xs : Nat → Int32} (hb : jad G 1020 = b) (hL : L ≤ 3072) {i : Nat} (hi : i + 6 ≤ L) (hK : ∀ w, lwR w → J G (lwG G b L xs) w 1418 (lwL i) []) {w : jWd} (hR : lwR w) : J G (lwG G b L xs) w 476 (lwL i) [] := by
  have hG := hR.2.2.2.2
  refine J_aload_n (pc' := 477) dL_law_476 rfl rfl ?_
  refine J_arg 1 nIc_1 (by decide) hb hL (by omega) dL_law_477 dL_law_478 dL_law_479 dL_law_480 dL_law_481 ?_
  refine J_i2l (pc' := 483) dL_law_482 rfl ?_
  refine J_bipush (v := 32) (pc' := 485) dL_law_483 (by decide) rfl ?_
  refine J_lshl (pc' := 486) dL_law_485 rfl ?_
  refine J_arg 2 nIc_2 (by decide) hb hL (by omega) dL_law_486 dL_law_487 dL_law_488 dL_law_489 dL_law_490 ?_
  refine J_i2l (pc' := 492) dL_law_491 rfl ?_
  refine J_ldc2 (pc' := 495) dL_law_492 kc_L_48 rfl ?_
  refine J_land (pc' := 496) dL_law_495 rfl ?_
  refine J_lor (pc' := 497) dL_law_496 rfl ?_
  refine J_arg 3 nIc_3 (by decide) hb hL (by omega) dL_law_497 dL_law_498 dL_law_499 dL_law_500 dL_law_501 ?_
  refine J_V2p (pc' := 505) dL_law_502 lk_L_50 cd_X6_feed (a_X6_feed hR.2.2.1 hG.1) ly_0 l84_0 rfl rfl (lw_room (by omega) (by omega)) (Nat.le_of_ble_eq_true rfl) rfl (fun w1 h1 => ?_)
  obtain ⟨e69, e70, eR, hV1⟩ := lwR_mid hR h1
  have hI1 : sInv (abM (w1.1 69)) := by rw [e69, ← hR.1]; exact hG.1
  have hM := b_X7_feed (G := G) (w := w1) hV1 hI1 (x := ((xs (i + 1)).toInt64 <<< ((32 : Int32).toInt64 &&& 63) ||| ((xs (i + 2)).toInt64 &&& 4294967295))) (n := (xs (i + 3)))
  rw [e69, e70, eR, ← hR.1, ← hR.2.1] at hM
  have hQ := g_feed hG ((xs (i + 1)).toInt64 <<< ((32 : Int32).toInt64 &&& 63) ||| ((xs (i + 2)).toInt64 &&& 4294967295)) (xs (i + 3))
  refine J_aload_n (pc' := 506) dL_law_505 rfl rfl ?_
  refine J_arg 1 nIc_1 (by decide) hb hL (by omega) dL_law_506 dL_law_507 dL_law_508 dL_law_509 dL_law_510 ?_
  refine J_i2l (pc' := 512) dL_law_511 rfl ?_
  refine J_bipush (v := 32) (pc' := 514) dL_law_512 (by decide) rfl ?_
  refine J_lshl (pc' := 515) dL_law_514 rfl ?_
  refine J_arg 2 nIc_2 (by decide) hb hL (by omega) dL_law_515 dL_law_516 dL_law_517 dL_law_518 dL_law_519 ?_
  refine J_i2l (pc' := 521) dL_law_520 rfl ?_
  refine J_ldc2 (pc' := 524) dL_law_521 kc_L_48 rfl ?_
  refine J_land (pc' := 525) dL_law_524 rfl ?_
  refine J_lor (pc' := 526) dL_law_525 rfl ?_
  refine J_arg 3 nIc_3 (by decide) hb hL (by omega) dL_law_526 dL_law_527 dL_law_528 dL_law_529 dL_law_530 ?_
  refine J_V2p (pc' := 534) dL_law_531 lk_L_54 cd_X7_feed hM ly_68 l84_68 rfl rfl (lw_room (by omega) (by omega)) (Nat.le_of_ble_eq_true rfl) rfl (fun w2 h2 => ?_)
  exact J_icmp_eq 1418 (pc' := 537) dL_law_534 (by decide) rfl (fun _ => hK w2 (lwR_end hQ h1 h2)) (fun q => absurd hQ.1 q)
set_option maxHeartbeats 4000000 in
set_option maxRecDepth 100000 in
theorem lw_c9 {G : jG} {b L : Nat} {xs : Nat → Int32} (hb : jad G 1020 = b) (hL : L ≤ 3072) {i : Nat} (hi : i + 6 ≤ L) (hK : ∀ w, lwR w → J G (lwG G b L xs) w 1418 (lwL i) []) {w : jWd} (hR : lwR w) : J G (lwG G b L xs) w 539 (lwL i) [] := by
  have hG := hR.2.2.2.2
  refine J_aload_n (pc' := 540) dL_law_539 rfl rfl ?_
  refine J_arg 1 nIc_1 (by decide) hb hL (by omega) dL_law_540 dL_law_541 dL_law_542 dL_law_543 dL_law_544 ?_
  refine J_V1p (pc' := 548) dL_law_545 lk_L_55 cd_X6_text (a_X6_text hR.2.2.1 hG.1) ly_0 l84_0 rfl rfl (lw_room (by omega) (by omega)) (Nat.le_of_ble_eq_true rfl) rfl (fun w1 h1 => ?_)
  obtain ⟨e69, e70, eR, hV1⟩ := lwR_mid hR h1
  have hI1 : sInv (abM (w1.1 69)) := by rw [e69, ← hR.1]; exact hG.1
  have hM := b_X7_text (G := G) (w := w1) hV1 hI1 (x := (xs (i + 1)))
  rw [e69, e70, eR, ← hR.1, ← hR.2.1] at hM
  have hQ := g_text hG (xs (i + 1))
  refine J_aload_n (pc' := 549) dL_law_548 rfl rfl ?_
  refine J_arg 1 nIc_1 (by decide) hb hL (by omega) dL_law_549 dL_law_550 dL_law_551 dL_law_552 dL_law_553 ?_
  refine J_V1p (pc' := 557) dL_law_554 lk_L_58 cd_X7_text hM ly_68 l84_68 rfl rfl (lw_room (by omega) (by omega)) (Nat.le_of_ble_eq_true rfl) rfl (fun w2 h2 => ?_)
  exact J_icmp_eq 1418 (pc' := 560) dL_law_557 (by decide) rfl (fun _ => hK w2 (lwR_end hQ h1 h2)) (fun q => absurd hQ.1 q)
set_option maxHeartbeats 4000000 in
set_option maxRecDepth 100000 in
theorem lw_c10 {G : jG} {b L : Nat} {xs : Nat → Int32} (hb : jad G 1020 = b) (hL : L ≤ 3072) {i : Nat} (hi : i + 6 ≤ L) (hK : ∀ w, lwR w → J G (lwG G b L xs) w 1418 (lwL i) []) {w : jWd} (hR : lwR w) : J G (lwG G b L xs) w 562 (lwL i) [] := by
  have hG := hR.2.2.2.2
  refine J_aload_n (pc' := 563) dL_law_562 rfl rfl ?_
  refine J_arg 1 nIc_1 (by decide) hb hL (by omega) dL_law_563 dL_law_564 dL_law_565 dL_law_566 dL_law_567 ?_
  refine J_V1p (pc' := 571) dL_law_568 lk_L_59 cd_X6_untell (a_X6_untell hR.2.2.1 hG.1) ly_0 l84_0 rfl rfl (lw_room (by omega) (by omega)) (Nat.le_of_ble_eq_true rfl) rfl (fun w1 h1 => ?_)
  obtain ⟨e69, e70, eR, hV1⟩ := lwR_mid hR h1
  have hI1 : sInv (abM (w1.1 69)) := by rw [e69, ← hR.1]; exact hG.1
  have hM := b_X7_untell (G := G) (w := w1) hV1 hI1 (x := (xs (i + 1)))
  rw [e69, e70, eR, ← hR.1, ← hR.2.1] at hM
  have hQ := g_untell hG (xs (i + 1))
  refine J_aload_n (pc' := 572) dL_law_571 rfl rfl ?_
  refine J_arg 1 nIc_1 (by decide) hb hL (by omega) dL_law_572 dL_law_573 dL_law_574 dL_law_575 dL_law_576 ?_
  refine J_V1p (pc' := 580) dL_law_577 lk_L_62 cd_X7_untell hM ly_68 l84_68 rfl rfl (lw_room (by omega) (by omega)) (Nat.le_of_ble_eq_true rfl) rfl (fun w2 h2 => ?_)
  exact J_icmp_eq 1418 (pc' := 583) dL_law_580 (by decide) rfl (fun _ => hK w2 (lwR_end hQ h1 h2)) (fun q => absurd hQ.1 q)
set_option maxHeartbeats 4000000 in
set_option maxRecDepth 100000 in
theorem lw_c11 {G : jG} {b L : Nat} {xs : Nat → Int32} (hb : jad G 1020 = b) (hL : L ≤ 3072) {i : Nat} (hi : i + 6 ≤ L) (hK : ∀ w, lwR w → J G (lwG G b L xs) w 1418 (lwL i) []) {w : jWd} (hR : lwR w) : J G (lwG G b L xs) w 585 (lwL i) [] := by
  have hG := hR.2.2.2.2
  refine J_aload_n (pc' := 586) dL_law_585 rfl rfl ?_
  refine J_arg 1 nIc_1 (by decide) hb hL (by omega) dL_law_586 dL_law_587 dL_law_588 dL_law_589 dL_law_590 ?_
  refine J_arg 2 nIc_2 (by decide) hb hL (by omega) dL_law_591 dL_law_592 dL_law_593 dL_law_594 dL_law_595 ?_
  refine J_arg 3 nIc_3 (by decide) hb hL (by omega) dL_law_596 dL_law_597 dL_law_598 dL_law_599 dL_law_600 ?_
  refine J_arg 4 nIc_4 (by decide) hb hL (by omega) dL_law_601 dL_law_602 dL_law_603 dL_law_604 dL_law_605 ?_
  refine J_V4p (pc' := 609) dL_law_606 lk_L_63 cd_X6_law (a_X6_law hR.2.2.1 hG.1) ly_0 l84_0 rfl rfl (lw_room (by omega) (by omega)) (Nat.le_of_ble_eq_true rfl) rfl (fun w1 h1 => ?_)
  obtain ⟨e69, e70, eR, hV1⟩ := lwR_mid hR h1
  have hI1 : sInv (abM (w1.1 69)) := by rw [e69, ← hR.1]; exact hG.1
  have hM := b_X7_law (G := G) (w := w1) hV1 hI1 (x := (xs (i + 1))) (a := (xs (i + 2))) (b := (xs (i + 3))) (c := (xs (i + 4)))
  rw [e69, e70, eR, ← hR.1, ← hR.2.1] at hM
  have hQ := g_law hG (xs (i + 1)) (xs (i + 2)) (xs (i + 3)) (xs (i + 4))
  refine J_aload_n (pc' := 610) dL_law_609 rfl rfl ?_
  refine J_arg 1 nIc_1 (by decide) hb hL (by omega) dL_law_610 dL_law_611 dL_law_612 dL_law_613 dL_law_614 ?_
  refine J_arg 2 nIc_2 (by decide) hb hL (by omega) dL_law_615 dL_law_616 dL_law_617 dL_law_618 dL_law_619 ?_
  refine J_arg 3 nIc_3 (by decide) hb hL (by omega) dL_law_620 dL_law_621 dL_law_622 dL_law_623 dL_law_624 ?_
  refine J_arg 4 nIc_4 (by decide) hb hL (by omega) dL_law_625 dL_law_626 dL_law_627 dL_law_628 dL_law_629 ?_
  refine J_V4p (pc' := 633) dL_law_630 lk_L_66 cd_X7_law hM ly_68 l84_68 rfl rfl (lw_room (by omega) (by omega)) (Nat.le_of_ble_eq_true rfl) rfl (fun w2 h2 => ?_)
  exact J_icmp_eq 1418 (pc' := 636) dL_law_633 (by decide) rfl (fun _ => hK w2 (lwR_end hQ h1 h2)) (fun q => absurd hQ.1 q)
set_option maxHeartbeats 4000000 in
set_option maxRecDepth 100000 in
theorem lw_c12 {G : jG} {b L : Nat} {xs : Nat → Int32} (hb : jad G 1020 = b) (hL : L ≤ 3072) {i : Nat} (hi : i + 6 ≤ L) (hK : ∀ w, lwR w → J G (lwG G b L xs) w 1418 (lwL i) []) {w : jWd} (hR : lwR w) : J G (lwG G b L xs) w 638 (lwL i) [] := by
  have hG := hR.2.2.2.2
  refine J_aload_n (pc' := 639) dL_law_638 rfl rfl ?_
  refine J_arg 1 nIc_1 (by decide) hb hL (by omega) dL_law_639 dL_law_640 dL_law_641 dL_law_642 dL_law_643 ?_
  refine J_V1p (pc' := 647) dL_law_644 lk_L_67 cd_X6_rounds (a_X6_rounds hR.2.2.1 hG.1) ly_0 l84_0 rfl rfl (lw_room (by omega) (by omega)) (Nat.le_of_ble_eq_true rfl) rfl (fun w1 h1 => ?_)
  obtain ⟨e69, e70, eR, hV1⟩ := lwR_mid hR h1
  have hI1 : sInv (abM (w1.1 69)) := by rw [e69, ← hR.1]; exact hG.1
  have hM := b_X7_rounds (G := G) (w := w1) hV1 hI1 go_eq (n := (xs (i + 1)))
  rw [e69, e70, eR, ← hR.1, ← hR.2.1] at hM
  have hQ := g_rounds hG (xs (i + 1))
  refine J_aload_n (pc' := 648) dL_law_647 rfl rfl ?_
  refine J_arg 1 nIc_1 (by decide) hb hL (by omega) dL_law_648 dL_law_649 dL_law_650 dL_law_651 dL_law_652 ?_
  refine J_V1p (pc' := 656) dL_law_653 lk_L_70 cd_X7_rounds hM ly_68 l84_68 rfl rfl (lw_room (by omega) (by omega)) (Nat.le_of_ble_eq_true rfl) rfl (fun w2 h2 => ?_)
  exact J_icmp_eq 1418 (pc' := 659) dL_law_656 (by decide) rfl (fun _ => hK w2 (lwR_end hQ h1 h2)) (fun q => absurd hQ.1 q)
set_option maxHeartbeats 4000000 in
set_option maxRecDepth 100000 in
theorem lw_c13 {G : jG} {b L : Nat} {xs : Nat → Int32} (hb : jad G 1020 = b) (hL : L ≤ 3072) {i : Nat} (hi : i + 6 ≤ L) (hK : ∀ w, lwR w → J G (lwG G b L xs) w 1418 (lwL i) []) {w : jWd} (hR : lwR w) : J G (lwG G b L xs) w 661 (lwL i) [] := by
  have hG := hR.2.2.2.2
  refine J_aload_n (pc' := 662) dL_law_661 rfl rfl ?_
  refine J_arg 1 nIc_1 (by decide) hb hL (by omega) dL_law_662 dL_law_663 dL_law_664 dL_law_665 dL_law_666 ?_
  refine J_V1p (pc' := 670) dL_law_667 lk_L_71 cd_X6_loose (a_X6_loose hR.2.2.1 hG.1) ly_0 l84_0 rfl rfl (lw_room (by omega) (by omega)) (Nat.le_of_ble_eq_true rfl) rfl (fun w1 h1 => ?_)
  obtain ⟨e69, e70, eR, hV1⟩ := lwR_mid hR h1
  have hI1 : sInv (abM (w1.1 69)) := by rw [e69, ← hR.1]; exact hG.1
  have hM := b_X7_loose (G := G) (w := w1) hV1 hI1 go_eq (n := (xs (i + 1)))
  rw [e69, e70, eR, ← hR.1, ← hR.2.1] at hM
  have hQ := g_loose hG (xs (i + 1))
  refine J_aload_n (pc' := 671) dL_law_670 rfl rfl ?_
  refine J_arg 1 nIc_1 (by decide) hb hL (by omega) dL_law_671 dL_law_672 dL_law_673 dL_law_674 dL_law_675 ?_
  refine J_V1p (pc' := 679) dL_law_676 lk_L_74 cd_X7_loose hM ly_68 l84_68 rfl rfl (lw_room (by omega) (by omega)) (Nat.le_of_ble_eq_true rfl) rfl (fun w2 h2 => ?_)
  exact J_icmp_eq 1418 (pc' := 682) dL_law_679 (by decide) rfl (fun _ => hK w2 (lwR_end hQ h1 h2)) (fun q => absurd hQ.1 q)
set_option maxHeartbeats 4000000 in
set_option maxRecDepth 100000 in
theorem lw_c14 {G : jG} {b L : Nat} {xs : Nat → Int32} (hb : jad G 1020 = b) (hL : L ≤ 3072) {i : Nat} (hi : i + 6 ≤ L) (hK : ∀ w, lwR w → J G (lwG G b L xs) w 1418 (lwL i) []) {w : jWd} (hR : lwR w) : J G (lwG G b L xs) w 684 (lwL i) [] := by
  have hG := hR.2.2.2.2
  refine J_aload_n (pc' := 685) dL_law_684 rfl rfl ?_
  refine J_arg 1 nIc_1 (by decide) hb hL (by omega) dL_law_685 dL_law_686 dL_law_687 dL_law_688 dL_law_689 ?_
  refine J_V1p (pc' := 693) dL_law_690 lk_L_75 cd_X6_round (a_X6_round hR.2.2.1 hG.1) ly_0 l84_0 rfl rfl (lw_room (by omega) (by omega)) (Nat.le_of_ble_eq_true rfl) rfl (fun w1 h1 => ?_)
  obtain ⟨e69, e70, eR, hV1⟩ := lwR_mid hR h1
  have hI1 : sInv (abM (w1.1 69)) := by rw [e69, ← hR.1]; exact hG.1
  have hM := b_X7_round (G := G) (w := w1) hV1 hI1 (v := (xs (i + 1)))
  rw [e69, e70, eR, ← hR.1, ← hR.2.1] at hM
  have hQ := g_round hG (xs (i + 1))
  refine J_aload_n (pc' := 694) dL_law_693 rfl rfl ?_
  refine J_arg 1 nIc_1 (by decide) hb hL (by omega) dL_law_694 dL_law_695 dL_law_696 dL_law_697 dL_law_698 ?_
  refine J_V1p (pc' := 702) dL_law_699 lk_L_78 cd_X7_round hM ly_68 l84_68 rfl rfl (lw_room (by omega) (by omega)) (Nat.le_of_ble_eq_true rfl) rfl (fun w2 h2 => ?_)
  exact J_icmp_eq 1418 (pc' := 705) dL_law_702 (by decide) rfl (fun _ => hK w2 (lwR_end hQ h1 h2)) (fun q => absurd hQ.1 q)
set_option maxHeartbeats 4000000 in
set_option maxRecDepth 100000 in
theorem lw_c15 {G : jG} {b L : Nat} {xs : Nat → Int32} (hb : jad G 1020 = b) (hL : L ≤ 3072) {i : Nat} (hi : i + 6 ≤ L) (hK : ∀ w, lwR w → J G (lwG G b L xs) w 1418 (lwL i) []) {w : jWd} (hR : lwR w) : J G (lwG G b L xs) w 707 (lwL i) [] := by
  have hG := hR.2.2.2.2
  refine J_aload_n (pc' := 708) dL_law_707 rfl rfl ?_
  refine J_arg 1 nIc_1 (by decide) hb hL (by omega) dL_law_708 dL_law_709 dL_law_710 dL_law_711 dL_law_712 ?_
  refine J_V1p (pc' := 716) dL_law_713 lk_L_79 cd_X6_seed (a_X6_seed hR.2.2.1 hG.1) ly_0 l84_0 rfl rfl (lw_room (by omega) (by omega)) (Nat.le_of_ble_eq_true rfl) rfl (fun w1 h1 => ?_)
  obtain ⟨e69, e70, eR, hV1⟩ := lwR_mid hR h1
  have hI1 : sInv (abM (w1.1 69)) := by rw [e69, ← hR.1]; exact hG.1
  have hM := b_X7_seed (G := G) (w := w1) hV1 hI1 (v := (xs (i + 1)))
  rw [e69, e70, eR, ← hR.1, ← hR.2.1] at hM
  have hQ := g_seed hG (xs (i + 1))
  refine J_aload_n (pc' := 717) dL_law_716 rfl rfl ?_
  refine J_arg 1 nIc_1 (by decide) hb hL (by omega) dL_law_717 dL_law_718 dL_law_719 dL_law_720 dL_law_721 ?_
  refine J_V1p (pc' := 725) dL_law_722 lk_L_82 cd_X7_seed hM ly_68 l84_68 rfl rfl (lw_room (by omega) (by omega)) (Nat.le_of_ble_eq_true rfl) rfl (fun w2 h2 => ?_)
  exact J_icmp_eq 1418 (pc' := 728) dL_law_725 (by decide) rfl (fun _ => hK w2 (lwR_end hQ h1 h2)) (fun q => absurd hQ.1 q)
set_option maxHeartbeats 4000000 in
set_option maxRecDepth 100000 in
theorem lw_c16 {G : jG} {b L : Nat} {xs : Nat → Int32} (hb : jad G 1020 = b) (hL : L ≤ 3072) {i : Nat} (hi : i + 6 ≤ L) (hK : ∀ w, lwR w → J G (lwG G b L xs) w 1418 (lwL i) []) {w : jWd} (hR : lwR w) : J G (lwG G b L xs) w 730 (lwL i) [] := by
  have hG := hR.2.2.2.2
  refine J_aload_n (pc' := 731) dL_law_730 rfl rfl ?_
  refine J_arg 1 nIc_1 (by decide) hb hL (by omega) dL_law_731 dL_law_732 dL_law_733 dL_law_734 dL_law_735 ?_
  refine J_arg 2 nIc_2 (by decide) hb hL (by omega) dL_law_736 dL_law_737 dL_law_738 dL_law_739 dL_law_740 ?_
  refine J_V2p (pc' := 744) dL_law_741 lk_L_83 cd_X6_place (a_X6_place hR.2.2.1 hG.1) ly_0 l84_0 rfl rfl (lw_room (by omega) (by omega)) (Nat.le_of_ble_eq_true rfl) rfl (fun w1 h1 => ?_)
  obtain ⟨e69, e70, eR, hV1⟩ := lwR_mid hR h1
  have hI1 : sInv (abM (w1.1 69)) := by rw [e69, ← hR.1]; exact hG.1
  have hM := b_X7_place (G := G) (w := w1) hV1 hI1 (m_bnd hI1) (x := (xs (i + 1))) (p := (xs (i + 2)))
  rw [e69, e70, eR, ← hR.1, ← hR.2.1] at hM
  have hQ := g_place hG (xs (i + 1)) (xs (i + 2))
  refine J_aload_n (pc' := 745) dL_law_744 rfl rfl ?_
  refine J_arg 1 nIc_1 (by decide) hb hL (by omega) dL_law_745 dL_law_746 dL_law_747 dL_law_748 dL_law_749 ?_
  refine J_arg 2 nIc_2 (by decide) hb hL (by omega) dL_law_750 dL_law_751 dL_law_752 dL_law_753 dL_law_754 ?_
  refine J_V2p (pc' := 758) dL_law_755 lk_L_87 cd_X7_place hM ly_68 l84_68 rfl rfl (lw_room (by omega) (by omega)) (Nat.le_of_ble_eq_true rfl) rfl (fun w2 h2 => ?_)
  refine J_lcmp (pc' := 759) dL_law_758 rfl ?_
  exact J_if_eq 1418 (pc' := 762) dL_law_759 (by decide) rfl (fun _ => hK w2 (lwR_end hQ h1 h2)) (fun q => absurd (lg_cmp_0 hQ.1) q)
set_option maxHeartbeats 4000000 in
set_option maxRecDepth 100000 in
theorem lw_c17 {G : jG} {b L : Nat} {xs : Nat → Int32} (hb : jad G 1020 = b) (hL : L ≤ 3072) {i : Nat} (hi : i + 6 ≤ L) (hK : ∀ w, lwR w → J G (lwG G b L xs) w 1418 (lwL i) []) {w : jWd} (hR : lwR w) : J G (lwG G b L xs) w 764 (lwL i) [] := by
  have hG := hR.2.2.2.2
  refine J_aload_n (pc' := 765) dL_law_764 rfl rfl ?_
  refine J_arg 1 nIc_1 (by decide) hb hL (by omega) dL_law_765 dL_law_766 dL_law_767 dL_law_768 dL_law_769 ?_
  refine J_arg 2 nIc_2 (by decide) hb hL (by omega) dL_law_770 dL_law_771 dL_law_772 dL_law_773 dL_law_774 ?_
  refine J_V2p (pc' := 778) dL_law_775 lk_L_88 cd_X6_miss (a_X6_miss hR.2.2.1 hG.1) ly_0 l84_0 rfl rfl (lw_room (by omega) (by omega)) (Nat.le_of_ble_eq_true rfl) rfl (fun w1 h1 => ?_)
  obtain ⟨e69, e70, eR, hV1⟩ := lwR_mid hR h1
  have hI1 : sInv (abM (w1.1 69)) := by rw [e69, ← hR.1]; exact hG.1
  have hM := b_X7_miss (G := G) (w := w1) hV1 hI1 (m_bnd hI1) (x := (xs (i + 1))) (p := (xs (i + 2)))
  rw [e69, e70, eR, ← hR.1, ← hR.2.1] at hM
  have hQ := g_miss hG (xs (i + 1)) (xs (i + 2))
  refine J_aload_n (pc' := 779) dL_law_778 rfl rfl ?_
  refine J_arg 1 nIc_1 (by decide) hb hL (by omega) dL_law_779 dL_law_780 dL_law_781 dL_law_782 dL_law_783 ?_
  refine J_arg 2 nIc_2 (by decide) hb hL (by omega) dL_law_784 dL_law_785 dL_law_786 dL_law_787 dL_law_788 ?_
  refine J_V2p (pc' := 792) dL_law_789 lk_L_91 cd_X7_miss hM ly_68 l84_68 rfl rfl (lw_room (by omega) (by omega)) (Nat.le_of_ble_eq_true rfl) rfl (fun w2 h2 => ?_)
  refine J_lcmp (pc' := 793) dL_law_792 rfl ?_
  exact J_if_eq 1418 (pc' := 796) dL_law_793 (by decide) rfl (fun _ => hK w2 (lwR_end hQ h1 h2)) (fun q => absurd (lg_cmp_0 hQ.1) q)
set_option maxHeartbeats 4000000 in
set_option maxRecDepth 100000 in
theorem lw_c18 {G : jG} {b L : Nat} {xs : Nat → Int32} (hb : jad G 1020 = b) (hL : L ≤ 3072) {i : Nat} (hi : i + 6 ≤ L) (hK : ∀ w, lwR w → J G (lwG G b L xs) w 1418 (lwL i) []) {w : jWd} (hR : lwR w) : J G (lwG G b L xs) w 798 (lwL i) [] := by
  have hG := hR.2.2.2.2
  refine J_aload_n (pc' := 799) dL_law_798 rfl rfl ?_
  refine J_arg 1 nIc_1 (by decide) hb hL (by omega) dL_law_799 dL_law_800 dL_law_801 dL_law_802 dL_law_803 ?_
  refine J_V1p (pc' := 807) dL_law_804 lk_L_92 cd_X6_sum (a_X6_sum hR.2.2.1 hG.1) ly_0 l84_0 rfl rfl (lw_room (by omega) (by omega)) (Nat.le_of_ble_eq_true rfl) rfl (fun w1 h1 => ?_)
  obtain ⟨e69, e70, eR, hV1⟩ := lwR_mid hR h1
  have hI1 : sInv (abM (w1.1 69)) := by rw [e69, ← hR.1]; exact hG.1
  have hM := b_X7_sum (G := G) (w := w1) hV1 hI1 (m_bnd hI1) (p := (xs (i + 1)))
  rw [e69, e70, eR, ← hR.1, ← hR.2.1] at hM
  have hQ := g_sum hG (xs (i + 1))
  refine J_aload_n (pc' := 808) dL_law_807 rfl rfl ?_
  refine J_arg 1 nIc_1 (by decide) hb hL (by omega) dL_law_808 dL_law_809 dL_law_810 dL_law_811 dL_law_812 ?_
  refine J_V1p (pc' := 816) dL_law_813 lk_L_96 cd_X7_sum hM ly_68 l84_68 rfl rfl (lw_room (by omega) (by omega)) (Nat.le_of_ble_eq_true rfl) rfl (fun w2 h2 => ?_)
  refine J_lcmp (pc' := 817) dL_law_816 rfl ?_
  exact J_if_eq 1418 (pc' := 820) dL_law_817 (by decide) rfl (fun _ => hK w2 (lwR_end hQ h1 h2)) (fun q => absurd (lg_cmp_0 hQ.1) q)
set_option maxHeartbeats 4000000 in
set_option maxRecDepth 100000 in
theorem lw_c19 {G : jG} {b L : Nat} {xs : Nat → Int32} (hb : jad G 1020 = b) (hL : L ≤ 3072) {i : Nat} (hi : i + 6 ≤ L) (hK : ∀ w, lwR w → J G (lwG G b L xs) w 1418 (lwL i) []) {w : jWd} (hR : lwR w) : J G (lwG G b L xs) w 822 (lwL i) [] := by
  have hG := hR.2.2.2.2
  refine J_aload_n (pc' := 823) dL_law_822 rfl rfl ?_
  refine J_V0p (pc' := 826) dL_law_823 lk_L_97 cd_X6_doubted (a_X6_doubted hR.2.2.1 hG.1) ly_0 l84_0 rfl rfl (lw_room (by omega) (by omega)) (Nat.le_of_ble_eq_true rfl) rfl (fun w1 h1 => ?_)
  obtain ⟨e69, e70, eR, hV1⟩ := lwR_mid hR h1
  have hI1 : sInv (abM (w1.1 69)) := by rw [e69, ← hR.1]; exact hG.1
  have hM := b_X7_doubted (G := G) (w := w1) hV1 hI1 
  rw [e69, e70, eR, ← hR.1, ← hR.2.1] at hM
  have hQ := g_doubted hG 
  refine J_aload_n (pc' := 827) dL_law_826 rfl rfl ?_
  refine J_V0p (pc' := 830) dL_law_827 lk_L_101 cd_X7_doubted hM ly_68 l84_68 rfl rfl (lw_room (by omega) (by omega)) (Nat.le_of_ble_eq_true rfl) rfl (fun w2 h2 => ?_)
  exact J_icmp_eq 1418 (pc' := 833) dL_law_830 (by decide) rfl (fun _ => hK w2 (lwR_end hQ h1 h2)) (fun q => absurd hQ.1 q)
set_option maxHeartbeats 4000000 in
set_option maxRecDepth 100000 in
theorem lw_c20 {G : jG} {b L : Nat} {xs : Nat → Int32} (hb : jad G 1020 = b) (hL : L ≤ 3072) {i : Nat} (hi : i + 6 ≤ L) (hK : ∀ w, lwR w → J G (lwG G b L xs) w 1418 (lwL i) []) {w : jWd} (hR : lwR w) : J G (lwG G b L xs) w 835 (lwL i) [] := by
  have hG := hR.2.2.2.2
  refine J_aload_n (pc' := 836) dL_law_835 rfl rfl ?_
  refine J_V0p (pc' := 839) dL_law_836 lk_L_102 cd_X6_needed (a_X6_needed hR.2.2.1 hG.1) ly_0 l84_0 rfl rfl (lw_room (by omega) (by omega)) (Nat.le_of_ble_eq_true rfl) rfl (fun w1 h1 => ?_)
  obtain ⟨e69, e70, eR, hV1⟩ := lwR_mid hR h1
  have hI1 : sInv (abM (w1.1 69)) := by rw [e69, ← hR.1]; exact hG.1
  have hM := b_X7_needed (G := G) (w := w1) hV1 hI1 
  rw [e69, e70, eR, ← hR.1, ← hR.2.1] at hM
  have hQ := g_needed hG 
  refine J_aload_n (pc' := 840) dL_law_839 rfl rfl ?_
  refine J_V0p (pc' := 843) dL_law_840 lk_L_105 cd_X7_needed hM ly_68 l84_68 rfl rfl (lw_room (by omega) (by omega)) (Nat.le_of_ble_eq_true rfl) rfl (fun w2 h2 => ?_)
  exact J_icmp_eq 1418 (pc' := 846) dL_law_843 (by decide) rfl (fun _ => hK w2 (lwR_end hQ h1 h2)) (fun q => absurd hQ.1 q)
set_option maxHeartbeats 4000000 in
set_option maxRecDepth 100000 in
theorem lw_c21 {G : jG} {b L : Nat} {xs : Nat → Int32} (hb : jad G 1020 = b) (hL : L ≤ 3072) {i : Nat} (hi : i + 6 ≤ L) (hK : ∀ w, lwR w → J G (lwG G b L xs) w 1418 (lwL i) []) {w : jWd} (hR : lwR w) : J G (lwG G b L xs) w 848 (lwL i) [] := by
  have hG := hR.2.2.2.2
  refine J_aload_n (pc' := 849) dL_law_848 rfl rfl ?_
  refine J_V0p (pc' := 852) dL_law_849 lk_L_106 cd_X6_spine (a_X6_spine hR.2.2.1 hG.1) ly_0 l84_0 rfl rfl (lw_room (by omega) (by omega)) (Nat.le_of_ble_eq_true rfl) rfl (fun w1 h1 => ?_)
  obtain ⟨e69, e70, eR, hV1⟩ := lwR_mid hR h1
  have hI1 : sInv (abM (w1.1 69)) := by rw [e69, ← hR.1]; exact hG.1
  have hM := b_X7_spine (G := G) (w := w1) hV1 hI1 
  rw [e69, e70, eR, ← hR.1, ← hR.2.1] at hM
  have hQ := g_spine hG 
  refine J_aload_n (pc' := 853) dL_law_852 rfl rfl ?_
  refine J_V0p (pc' := 856) dL_law_853 lk_L_109 cd_X7_spine hM ly_68 l84_68 rfl rfl (lw_room (by omega) (by omega)) (Nat.le_of_ble_eq_true rfl) rfl (fun w2 h2 => ?_)
  exact J_icmp_eq 1418 (pc' := 859) dL_law_856 (by decide) rfl (fun _ => hK w2 (lwR_end hQ h1 h2)) (fun q => absurd hQ.1 q)
set_option maxHeartbeats 4000000 in
set_option maxRecDepth 100000 in
theorem lw_c22 {G : jG} {b L : Nat} {xs : Nat → Int32} (hb : jad G 1020 = b) (hL : L ≤ 3072) {i : Nat} (hi : i + 6 ≤ L) (hK : ∀ w, lwR w → J G (lwG G b L xs) w 1418 (lwL i) []) {w : jWd} (hR : lwR w) : J G (lwG G b L xs) w 861 (lwL i) [] := by
  have hG := hR.2.2.2.2
  refine J_aload_n (pc' := 862) dL_law_861 rfl rfl ?_
  refine J_arg 1 nIc_1 (by decide) hb hL (by omega) dL_law_862 dL_law_863 dL_law_864 dL_law_865 dL_law_866 ?_
  refine J_arg 2 nIc_2 (by decide) hb hL (by omega) dL_law_867 dL_law_868 dL_law_869 dL_law_870 dL_law_871 ?_
  refine J_V2p (pc' := 875) dL_law_872 lk_L_110 cd_X6_then (a_X6_then hR.2.2.1 hG.1 hG.2.1) ly_0 l84_0 rfl rfl (lw_room (by omega) (by omega)) (Nat.le_of_ble_eq_true rfl) rfl (fun w1 h1 => ?_)
  obtain ⟨e69, e70, eR, hV1⟩ := lwR_mid hR h1
  have hI1 : sInv (abM (w1.1 69)) := by rw [e69, ← hR.1]; exact hG.1
  have hM := b_X7_then (G := G) (w := w1) hV1 hI1 go_eq (by rw [e69, ← hR.1]; exact hG.2.1) (n := (xs (i + 1))) (m := (xs (i + 2)))
  rw [e69, e70, eR, ← hR.1, ← hR.2.1] at hM
  have hQ := g_then hG (xs (i + 1)) (xs (i + 2))
  refine J_aload_n (pc' := 876) dL_law_875 rfl rfl ?_
  refine J_arg 1 nIc_1 (by decide) hb hL (by omega) dL_law_876 dL_law_877 dL_law_878 dL_law_879 dL_law_880 ?_
  refine J_arg 2 nIc_2 (by decide) hb hL (by omega) dL_law_881 dL_law_882 dL_law_883 dL_law_884 dL_law_885 ?_
  refine J_V2p (pc' := 889) dL_law_886 lk_L_113 cd_X7_then hM ly_68 l84_68 rfl rfl (lw_room (by omega) (by omega)) (Nat.le_of_ble_eq_true rfl) rfl (fun w2 h2 => ?_)
  exact J_icmp_eq 1418 (pc' := 892) dL_law_889 (by decide) rfl (fun _ => hK w2 (lwR_end hQ h1 h2)) (fun q => absurd hQ.1 q)
set_option maxHeartbeats 4000000 in
set_option maxRecDepth 100000 in
theorem lw_c23 {G : jG} {b L : Nat} {xs : Nat → Int32} (hb : jad G 1020 = b) (hL : L ≤ 3072) {i : Nat} (hi : i + 6 ≤ L) (hK : ∀ w, lwR w → J G (lwG G b L xs) w 1418 (lwL i) []) {w : jWd} (hR : lwR w) : J G (lwG G b L xs) w 894 (lwL i) [] := by
  have hG := hR.2.2.2.2
  refine J_aload_n (pc' := 895) dL_law_894 rfl rfl ?_
  refine J_arg 1 nIc_1 (by decide) hb hL (by omega) dL_law_895 dL_law_896 dL_law_897 dL_law_898 dL_law_899 ?_
  refine J_V1p (pc' := 903) dL_law_900 lk_L_114 cd_X6_soonest (a_X6_soonest hR.2.2.1 hG.1 hG.2.1) ly_0 l84_0 rfl rfl (lw_room (by omega) (by omega)) (Nat.le_of_ble_eq_true rfl) rfl (fun w1 h1 => ?_)
  obtain ⟨e69, e70, eR, hV1⟩ := lwR_mid hR h1
  have hI1 : sInv (abM (w1.1 69)) := by rw [e69, ← hR.1]; exact hG.1
  have hM := b_X7_soonest (G := G) (w := w1) hV1 hI1 go_eq (by rw [e69, ← hR.1]; exact hG.2.1) (x := (xs (i + 1)))
  rw [e69, e70, eR, ← hR.1, ← hR.2.1] at hM
  have hQ := g_soonest hG (xs (i + 1))
  refine J_aload_n (pc' := 904) dL_law_903 rfl rfl ?_
  refine J_arg 1 nIc_1 (by decide) hb hL (by omega) dL_law_904 dL_law_905 dL_law_906 dL_law_907 dL_law_908 ?_
  refine J_V1p (pc' := 912) dL_law_909 lk_L_117 cd_X7_soonest hM ly_68 l84_68 rfl rfl (lw_room (by omega) (by omega)) (Nat.le_of_ble_eq_true rfl) rfl (fun w2 h2 => ?_)
  exact J_icmp_eq 1418 (pc' := 915) dL_law_912 (by decide) rfl (fun _ => hK w2 (lwR_end hQ h1 h2)) (fun q => absurd hQ.1 q)
set_option maxHeartbeats 4000000 in
set_option maxRecDepth 100000 in
theorem lw_c24 {G : jG} {b L : Nat} {xs : Nat → Int32} (hb : jad G 1020 = b) (hL : L ≤ 3072) {i : Nat} (hi : i + 6 ≤ L) (hK : ∀ w, lwR w → J G (lwG G b L xs) w 1418 (lwL i) []) {w : jWd} (hR : lwR w) : J G (lwG G b L xs) w 917 (lwL i) [] := by
  have hG := hR.2.2.2.2
  refine J_aload_n (pc' := 918) dL_law_917 rfl rfl ?_
  refine J_arg 1 nIc_1 (by decide) hb hL (by omega) dL_law_918 dL_law_919 dL_law_920 dL_law_921 dL_law_922 ?_
  refine J_V1p (pc' := 926) dL_law_923 lk_L_118 cd_X6_limitFor (a_X6_limitFor hR.2.2.1 hG.1 hG.2.1) ly_0 l84_0 rfl rfl (lw_room (by omega) (by omega)) (Nat.le_of_ble_eq_true rfl) rfl (fun w1 h1 => ?_)
  obtain ⟨e69, e70, eR, hV1⟩ := lwR_mid hR h1
  have hI1 : sInv (abM (w1.1 69)) := by rw [e69, ← hR.1]; exact hG.1
  have hM := b_X7_limitFor (G := G) (w := w1) hV1 hI1 go_eq (by rw [e69, ← hR.1]; exact hG.2.1) (n := (xs (i + 1)))
  rw [e69, e70, eR, ← hR.1, ← hR.2.1] at hM
  have hQ := g_limitFor hG (xs (i + 1))
  refine J_aload_n (pc' := 927) dL_law_926 rfl rfl ?_
  refine J_arg 1 nIc_1 (by decide) hb hL (by omega) dL_law_927 dL_law_928 dL_law_929 dL_law_930 dL_law_931 ?_
  refine J_V1p (pc' := 935) dL_law_932 lk_L_121 cd_X7_limitFor hM ly_68 l84_68 rfl rfl (lw_room (by omega) (by omega)) (Nat.le_of_ble_eq_true rfl) rfl (fun w2 h2 => ?_)
  exact J_icmp_eq 1418 (pc' := 938) dL_law_935 (by decide) rfl (fun _ => hK w2 (lwR_end hQ h1 h2)) (fun q => absurd hQ.1 q)
set_option maxHeartbeats 4000000 in
set_option maxRecDepth 100000 in
theorem lw_c25 {G : jG} {b L : Nat} {xs : Nat → Int32} (hb : jad G 1020 = b) (hL : L ≤ 3072) {i : Nat} (hi : i + 6 ≤ L) (hK : ∀ w, lwR w → J G (lwG G b L xs) w 1418 (lwL i) []) {w : jWd} (hR : lwR w) : J G (lwG G b L xs) w 940 (lwL i) [] := by
  have hG := hR.2.2.2.2
  refine J_aload_n (pc' := 941) dL_law_940 rfl rfl ?_
  refine J_arg 1 nIc_1 (by decide) hb hL (by omega) dL_law_941 dL_law_942 dL_law_943 dL_law_944 dL_law_945 ?_
  refine J_V1p (pc' := 949) dL_law_946 lk_L_122 cd_X6_toldFor (a_X6_toldFor hR.2.2.1 hG.1) ly_0 l84_0 rfl rfl (lw_room (by omega) (by omega)) (Nat.le_of_ble_eq_true rfl) rfl (fun w1 h1 => ?_)
  obtain ⟨e69, e70, eR, hV1⟩ := lwR_mid hR h1
  have hI1 : sInv (abM (w1.1 69)) := by rw [e69, ← hR.1]; exact hG.1
  have hM := b_X7_toldFor (G := G) (w := w1) hV1 hI1 (x := (xs (i + 1)))
  rw [e69, e70, eR, ← hR.1, ← hR.2.1] at hM
  have hQ := g_toldFor hG (xs (i + 1))
  refine J_aload_n (pc' := 950) dL_law_949 rfl rfl ?_
  refine J_arg 1 nIc_1 (by decide) hb hL (by omega) dL_law_950 dL_law_951 dL_law_952 dL_law_953 dL_law_954 ?_
  refine J_V1p (pc' := 958) dL_law_955 lk_L_125 cd_X7_toldFor hM ly_68 l84_68 rfl rfl (lw_room (by omega) (by omega)) (Nat.le_of_ble_eq_true rfl) rfl (fun w2 h2 => ?_)
  exact J_icmp_eq 1418 (pc' := 961) dL_law_958 (by decide) rfl (fun _ => hK w2 (lwR_end hQ h1 h2)) (fun q => absurd hQ.1 q)
set_option maxHeartbeats 4000000 in
set_option maxRecDepth 100000 in
theorem lw_c26 {G : jG} {b L : Nat} {xs : Nat → Int32} (hb : jad G 1020 = b) (hL : L ≤ 3072) {i : Nat} (hi : i + 6 ≤ L) (hK : ∀ w, lwR w → J G (lwG G b L xs) w 1418 (lwL i) []) {w : jWd} (hR : lwR w) : J G (lwG G b L xs) w 963 (lwL i) [] := by
  have hG := hR.2.2.2.2
  refine J_aload_n (pc' := 964) dL_law_963 rfl rfl ?_
  refine J_arg 1 nIc_1 (by decide) hb hL (by omega) dL_law_964 dL_law_965 dL_law_966 dL_law_967 dL_law_968 ?_
  refine J_arg 2 nIc_2 (by decide) hb hL (by omega) dL_law_969 dL_law_970 dL_law_971 dL_law_972 dL_law_973 ?_
  refine J_arg 3 nIc_3 (by decide) hb hL (by omega) dL_law_974 dL_law_975 dL_law_976 dL_law_977 dL_law_978 ?_
  refine J_V3p (pc' := 982) dL_law_979 lk_L_126 cd_X6_odds (a_X6_odds hR.2.2.1 hG.1 hG.2.1) ly_0 l84_0 rfl rfl (lw_room (by omega) (by omega)) (Nat.le_of_ble_eq_true rfl) rfl (fun w1 h1 => ?_)
  obtain ⟨e69, e70, eR, hV1⟩ := lwR_mid hR h1
  have hI1 : sInv (abM (w1.1 69)) := by rw [e69, ← hR.1]; exact hG.1
  have hM := b_X7_odds (G := G) (w := w1) hV1 hI1 go_eq (by rw [e69, ← hR.1]; exact hG.2.1) (x := (xs (i + 1))) (n := (xs (i + 2))) (p := (xs (i + 3)))
  rw [e69, e70, eR, ← hR.1, ← hR.2.1] at hM
  have hQ := g_odds hG (xs (i + 1)) (xs (i + 2)) (xs (i + 3))
  refine J_aload_n (pc' := 983) dL_law_982 rfl rfl ?_
  refine J_arg 1 nIc_1 (by decide) hb hL (by omega) dL_law_983 dL_law_984 dL_law_985 dL_law_986 dL_law_987 ?_
  refine J_arg 2 nIc_2 (by decide) hb hL (by omega) dL_law_988 dL_law_989 dL_law_990 dL_law_991 dL_law_992 ?_
  refine J_arg 3 nIc_3 (by decide) hb hL (by omega) dL_law_993 dL_law_994 dL_law_995 dL_law_996 dL_law_997 ?_
  refine J_V3p (pc' := 1001) dL_law_998 lk_L_130 cd_X7_odds hM ly_68 l84_68 rfl rfl (lw_room (by omega) (by omega)) (Nat.le_of_ble_eq_true rfl) rfl (fun w2 h2 => ?_)
  exact J_icmp_eq 1418 (pc' := 1004) dL_law_1001 (by decide) rfl (fun _ => hK w2 (lwR_end hQ h1 h2)) (fun q => absurd hQ.1 q)
set_option maxHeartbeats 4000000 in
set_option maxRecDepth 100000 in
theorem lw_c27 {G : jG} {b L : Nat} {xs : Nat → Int32} (hb : jad G 1020 = b) (hL : L ≤ 3072) {i : Nat} (hi : i + 6 ≤ L) (hK : ∀ w, lwR w → J G (lwG G b L xs) w 1418 (lwL i) []) {w : jWd} (hR : lwR w) : J G (lwG G b L xs) w 1006 (lwL i) [] := by
  have hG := hR.2.2.2.2
  refine J_aload_n (pc' := 1007) dL_law_1006 rfl rfl ?_
  refine J_arg 1 nIc_1 (by decide) hb hL (by omega) dL_law_1007 dL_law_1008 dL_law_1009 dL_law_1010 dL_law_1011 ?_
  refine J_arg 2 nIc_2 (by decide) hb hL (by omega) dL_law_1012 dL_law_1013 dL_law_1014 dL_law_1015 dL_law_1016 ?_
  refine J_arg 3 nIc_3 (by decide) hb hL (by omega) dL_law_1017 dL_law_1018 dL_law_1019 dL_law_1020 dL_law_1021 ?_
  refine J_V3p (pc' := 1025) dL_law_1022 lk_L_131 cd_X6_fits (a_X6_fits hR.2.2.1 hG.1 hG.2.1 hG.2.2.1) ly_0 l84_0 rfl rfl (lw_room (by omega) (by omega)) (Nat.le_of_ble_eq_true rfl) rfl (fun w1 h1 => ?_)
  obtain ⟨e69, e70, eR, hV1⟩ := lwR_mid hR h1
  have hI1 : sInv (abM (w1.1 69)) := by rw [e69, ← hR.1]; exact hG.1
  have hM := b_X7_fits (G := G) (w := w1) hV1 hI1 go_eq (by rw [e69, ← hR.1]; exact hG.2.1) (by rw [eR, ← hR.2.1]; exact hG.2.2.1) (x := (xs (i + 1))) (y := (xs (i + 2))) (m := (xs (i + 3)))
  rw [e69, e70, eR, ← hR.1, ← hR.2.1] at hM
  have hQ := g_fits hG (xs (i + 1)) (xs (i + 2)) (xs (i + 3))
  refine J_aload_n (pc' := 1026) dL_law_1025 rfl rfl ?_
  refine J_arg 1 nIc_1 (by decide) hb hL (by omega) dL_law_1026 dL_law_1027 dL_law_1028 dL_law_1029 dL_law_1030 ?_
  refine J_arg 2 nIc_2 (by decide) hb hL (by omega) dL_law_1031 dL_law_1032 dL_law_1033 dL_law_1034 dL_law_1035 ?_
  refine J_arg 3 nIc_3 (by decide) hb hL (by omega) dL_law_1036 dL_law_1037 dL_law_1038 dL_law_1039 dL_law_1040 ?_
  refine J_V3p (pc' := 1044) dL_law_1041 lk_L_134 cd_X7_fits hM ly_68 l84_68 rfl rfl (lw_room (by omega) (by omega)) (Nat.le_of_ble_eq_true rfl) rfl (fun w2 h2 => ?_)
  exact J_icmp_eq 1418 (pc' := 1047) dL_law_1044 (by decide) rfl (fun _ => hK w2 (lwR_end hQ h1 h2)) (fun q => absurd hQ.1 q)
set_option maxHeartbeats 4000000 in
set_option maxRecDepth 100000 in
theorem lw_c28 {G : jG} {b L : Nat} {xs : Nat → Int32} (hb : jad G 1020 = b) (hL : L ≤ 3072) {i : Nat} (hi : i + 6 ≤ L) (hK : ∀ w, lwR w → J G (lwG G b L xs) w 1418 (lwL i) []) {w : jWd} (hR : lwR w) : J G (lwG G b L xs) w 1049 (lwL i) [] := by
  have hG := hR.2.2.2.2
  refine J_aload_n (pc' := 1050) dL_law_1049 rfl rfl ?_
  refine J_arg 1 nIc_1 (by decide) hb hL (by omega) dL_law_1050 dL_law_1051 dL_law_1052 dL_law_1053 dL_law_1054 ?_
  refine J_arg 2 nIc_2 (by decide) hb hL (by omega) dL_law_1055 dL_law_1056 dL_law_1057 dL_law_1058 dL_law_1059 ?_
  refine J_arg 3 nIc_3 (by decide) hb hL (by omega) dL_law_1060 dL_law_1061 dL_law_1062 dL_law_1063 dL_law_1064 ?_
  refine J_V3p (pc' := 1068) dL_law_1065 lk_L_135 cd_X6_voice (a_X6_voice hR.2.2.1 hG.1) ly_0 l84_0 rfl rfl (lw_room (by omega) (by omega)) (Nat.le_of_ble_eq_true rfl) rfl (fun w1 h1 => ?_)
  obtain ⟨e69, e70, eR, hV1⟩ := lwR_mid hR h1
  have hI1 : sInv (abM (w1.1 69)) := by rw [e69, ← hR.1]; exact hG.1
  have hM := b_X7_voice (G := G) (w := w1) hV1 hI1 (x := (xs (i + 1))) (u := (xs (i + 2))) (v := (xs (i + 3)))
  rw [e69, e70, eR, ← hR.1, ← hR.2.1] at hM
  have hQ := g_voice hG (xs (i + 1)) (xs (i + 2)) (xs (i + 3))
  refine J_aload_n (pc' := 1069) dL_law_1068 rfl rfl ?_
  refine J_arg 1 nIc_1 (by decide) hb hL (by omega) dL_law_1069 dL_law_1070 dL_law_1071 dL_law_1072 dL_law_1073 ?_
  refine J_arg 2 nIc_2 (by decide) hb hL (by omega) dL_law_1074 dL_law_1075 dL_law_1076 dL_law_1077 dL_law_1078 ?_
  refine J_arg 3 nIc_3 (by decide) hb hL (by omega) dL_law_1079 dL_law_1080 dL_law_1081 dL_law_1082 dL_law_1083 ?_
  refine J_V3p (pc' := 1087) dL_law_1084 lk_L_138 cd_X7_voice hM ly_68 l84_68 rfl rfl (lw_room (by omega) (by omega)) (Nat.le_of_ble_eq_true rfl) rfl (fun w2 h2 => ?_)
  exact J_icmp_eq 1418 (pc' := 1090) dL_law_1087 (by decide) rfl (fun _ => hK w2 (lwR_end hQ h1 h2)) (fun q => absurd hQ.1 q)
set_option maxHeartbeats 4000000 in
set_option maxRecDepth 100000 in
theorem lw_c29 {G : jG} {b L : Nat} {xs : Nat → Int32} (hb : jad G 1020 = b) (hL : L ≤ 3072) {i : Nat} (hi : i + 6 ≤ L) (hK : ∀ w, lwR w → J G (lwG G b L xs) w 1418 (lwL i) []) {w : jWd} (hR : lwR w) : J G (lwG G b L xs) w 1092 (lwL i) [] := by
  have hG := hR.2.2.2.2
  refine J_aload_n (pc' := 1093) dL_law_1092 rfl rfl ?_
  refine J_arg 1 nIc_1 (by decide) hb hL (by omega) dL_law_1093 dL_law_1094 dL_law_1095 dL_law_1096 dL_law_1097 ?_
  refine J_V1p (pc' := 1101) dL_law_1098 lk_L_139 cd_X6_body (a_X6_body hR.2.2.1 hG.1 hG.2.2.1) ly_0 l84_0 rfl rfl (lw_room (by omega) (by omega)) (Nat.le_of_ble_eq_true rfl) rfl (fun w1 h1 => ?_)
  obtain ⟨e69, e70, eR, hV1⟩ := lwR_mid hR h1
  have hI1 : sInv (abM (w1.1 69)) := by rw [e69, ← hR.1]; exact hG.1
  have hM := b_X7_body (G := G) (w := w1) hV1 hI1 (by rw [eR, ← hR.2.1]; exact hG.2.2.1) (x := (xs (i + 1)))
  rw [e69, e70, eR, ← hR.1, ← hR.2.1] at hM
  have hQ := g_body hG (xs (i + 1))
  refine J_aload_n (pc' := 1102) dL_law_1101 rfl rfl ?_
  refine J_arg 1 nIc_1 (by decide) hb hL (by omega) dL_law_1102 dL_law_1103 dL_law_1104 dL_law_1105 dL_law_1106 ?_
  refine J_V1p (pc' := 1110) dL_law_1107 lk_L_142 cd_X7_body hM ly_68 l84_68 rfl rfl (lw_room (by omega) (by omega)) (Nat.le_of_ble_eq_true rfl) rfl (fun w2 h2 => ?_)
  exact J_icmp_eq 1418 (pc' := 1113) dL_law_1110 (by decide) rfl (fun _ => hK w2 (lwR_end hQ h1 h2)) (fun q => absurd hQ.1 q)
set_option maxHeartbeats 4000000 in
set_option maxRecDepth 100000 in
theorem lw_c30 {G : jG} {b L : Nat} {xs : Nat → Int32} (hb : jad G 1020 = b) (hL : L ≤ 3072) {i : Nat} (hi : i + 6 ≤ L) (hK : ∀ w, lwR w → J G (lwG G b L xs) w 1418 (lwL i) []) {w : jWd} (hR : lwR w) : J G (lwG G b L xs) w 1115 (lwL i) [] := by
  have hG := hR.2.2.2.2
  refine J_aload_n (pc' := 1116) dL_law_1115 rfl rfl ?_
  refine J_arg 1 nIc_1 (by decide) hb hL (by omega) dL_law_1116 dL_law_1117 dL_law_1118 dL_law_1119 dL_law_1120 ?_
  refine J_arg 2 nIc_2 (by decide) hb hL (by omega) dL_law_1121 dL_law_1122 dL_law_1123 dL_law_1124 dL_law_1125 ?_
  refine J_arg 3 nIc_3 (by decide) hb hL (by omega) dL_law_1126 dL_law_1127 dL_law_1128 dL_law_1129 dL_law_1130 ?_
  refine J_V3p (pc' := 1134) dL_law_1131 lk_L_143 cd_X6_sheet (a_X6_sheet hR.2.2.1 hG.1) ly_0 l84_0 rfl rfl (lw_room (by omega) (by omega)) (Nat.le_of_ble_eq_true rfl) rfl (fun w1 h1 => ?_)
  obtain ⟨e69, e70, eR, hV1⟩ := lwR_mid hR h1
  have hI1 : sInv (abM (w1.1 69)) := by rw [e69, ← hR.1]; exact hG.1
  have hM := b_X7_sheet (G := G) (w := w1) hV1 hI1 (x := (xs (i + 1))) (b := (xs (i + 2))) (len := (xs (i + 3)))
  rw [e69, e70, eR, ← hR.1, ← hR.2.1] at hM
  have hQ := g_sheet hG (xs (i + 1)) (xs (i + 2)) (xs (i + 3))
  refine J_aload_n (pc' := 1135) dL_law_1134 rfl rfl ?_
  refine J_arg 1 nIc_1 (by decide) hb hL (by omega) dL_law_1135 dL_law_1136 dL_law_1137 dL_law_1138 dL_law_1139 ?_
  refine J_arg 2 nIc_2 (by decide) hb hL (by omega) dL_law_1140 dL_law_1141 dL_law_1142 dL_law_1143 dL_law_1144 ?_
  refine J_arg 3 nIc_3 (by decide) hb hL (by omega) dL_law_1145 dL_law_1146 dL_law_1147 dL_law_1148 dL_law_1149 ?_
  refine J_V3p (pc' := 1153) dL_law_1150 lk_L_146 cd_X7_sheet hM ly_68 l84_68 rfl rfl (lw_room (by omega) (by omega)) (Nat.le_of_ble_eq_true rfl) rfl (fun w2 h2 => ?_)
  exact J_icmp_eq 1418 (pc' := 1156) dL_law_1153 (by decide) rfl (fun _ => hK w2 (lwR_end hQ h1 h2)) (fun q => absurd hQ.1 q)
set_option maxHeartbeats 4000000 in
set_option maxRecDepth 100000 in
theorem lw_c31 {G : jG} {b L : Nat} {xs : Nat → Int32} (hb : jad G 1020 = b) (hL : L ≤ 3072) {i : Nat} (hi : i + 6 ≤ L) (hK : ∀ w, lwR w → J G (lwG G b L xs) w 1418 (lwL i) []) {w : jWd} (hR : lwR w) : J G (lwG G b L xs) w 1158 (lwL i) [] := by
  have hG := hR.2.2.2.2
  refine J_aload_n (pc' := 1159) dL_law_1158 rfl rfl ?_
  refine J_arg 1 nIc_1 (by decide) hb hL (by omega) dL_law_1159 dL_law_1160 dL_law_1161 dL_law_1162 dL_law_1163 ?_
  refine J_arg 2 nIc_2 (by decide) hb hL (by omega) dL_law_1164 dL_law_1165 dL_law_1166 dL_law_1167 dL_law_1168 ?_
  refine J_arg 3 nIc_3 (by decide) hb hL (by omega) dL_law_1169 dL_law_1170 dL_law_1171 dL_law_1172 dL_law_1173 ?_
  refine J_V3p (pc' := 1177) dL_law_1174 lk_L_147 cd_X6_put (a_X6_put hR.2.2.1 hG.1 hG.2.2.1) ly_0 l84_0 rfl rfl (lw_room (by omega) (by omega)) (Nat.le_of_ble_eq_true rfl) rfl (fun w1 h1 => ?_)
  obtain ⟨e69, e70, eR, hV1⟩ := lwR_mid hR h1
  have hI1 : sInv (abM (w1.1 69)) := by rw [e69, ← hR.1]; exact hG.1
  have hM := b_X7_put (G := G) (w := w1) hV1 hI1 (by rw [eR, ← hR.2.1]; exact hG.2.2.1) (x := (xs (i + 1))) (p := (xs (i + 2))) (v := (xs (i + 3)))
  rw [e69, e70, eR, ← hR.1, ← hR.2.1] at hM
  have hQ := g_put hG (xs (i + 1)) (xs (i + 2)) (xs (i + 3))
  refine J_aload_n (pc' := 1178) dL_law_1177 rfl rfl ?_
  refine J_arg 1 nIc_1 (by decide) hb hL (by omega) dL_law_1178 dL_law_1179 dL_law_1180 dL_law_1181 dL_law_1182 ?_
  refine J_arg 2 nIc_2 (by decide) hb hL (by omega) dL_law_1183 dL_law_1184 dL_law_1185 dL_law_1186 dL_law_1187 ?_
  refine J_arg 3 nIc_3 (by decide) hb hL (by omega) dL_law_1188 dL_law_1189 dL_law_1190 dL_law_1191 dL_law_1192 ?_
  refine J_V3p (pc' := 1196) dL_law_1193 lk_L_150 cd_X7_put hM ly_68 l84_68 rfl rfl (lw_room (by omega) (by omega)) (Nat.le_of_ble_eq_true rfl) rfl (fun w2 h2 => ?_)
  exact J_icmp_eq 1418 (pc' := 1199) dL_law_1196 (by decide) rfl (fun _ => hK w2 (lwR_end hQ h1 h2)) (fun q => absurd hQ.1 q)
set_option maxHeartbeats 4000000 in
set_option maxRecDepth 100000 in
theorem lw_c32 {G : jG} {b L : Nat} {xs : Nat → Int32} (hb : jad G 1020 = b) (hL : L ≤ 3072) {i : Nat} (hi : i + 6 ≤ L) (hK : ∀ w, lwR w → J G (lwG G b L xs) w 1418 (lwL i) []) {w : jWd} (hR : lwR w) : J G (lwG G b L xs) w 1201 (lwL i) [] := by
  have hG := hR.2.2.2.2
  refine J_aload_n (pc' := 1202) dL_law_1201 rfl rfl ?_
  refine J_arg 1 nIc_1 (by decide) hb hL (by omega) dL_law_1202 dL_law_1203 dL_law_1204 dL_law_1205 dL_law_1206 ?_
  refine J_arg 2 nIc_2 (by decide) hb hL (by omega) dL_law_1207 dL_law_1208 dL_law_1209 dL_law_1210 dL_law_1211 ?_
  refine J_arg 3 nIc_3 (by decide) hb hL (by omega) dL_law_1212 dL_law_1213 dL_law_1214 dL_law_1215 dL_law_1216 ?_
  refine J_arg 4 nIc_4 (by decide) hb hL (by omega) dL_law_1217 dL_law_1218 dL_law_1219 dL_law_1220 dL_law_1221 ?_
  refine J_arg 5 nIc_5 (by decide) hb hL (by omega) dL_law_1222 dL_law_1223 dL_law_1224 dL_law_1225 dL_law_1226 ?_
  refine J_V5p (pc' := 1230) dL_law_1227 lk_L_151 cd_X6_move (a_X6_move hR.2.2.1 hG.1 hG.2.2.1) ly_0 l84_0 rfl rfl (lw_room (by omega) (by omega)) (Nat.le_of_ble_eq_true rfl) rfl (fun w1 h1 => ?_)
  obtain ⟨e69, e70, eR, hV1⟩ := lwR_mid hR h1
  have hI1 : sInv (abM (w1.1 69)) := by rw [e69, ← hR.1]; exact hG.1
  have hM := b_X7_move (G := G) (w := w1) hV1 hI1 (by rw [eR, ← hR.2.1]; exact hG.2.2.1) (x := (xs (i + 1))) (p := (xs (i + 2))) (y := (xs (i + 3))) (q := (xs (i + 4))) (n := (xs (i + 5)))
  rw [e69, e70, eR, ← hR.1, ← hR.2.1] at hM
  have hQ := g_move hG (xs (i + 1)) (xs (i + 2)) (xs (i + 3)) (xs (i + 4)) (xs (i + 5))
  refine J_aload_n (pc' := 1231) dL_law_1230 rfl rfl ?_
  refine J_arg 1 nIc_1 (by decide) hb hL (by omega) dL_law_1231 dL_law_1232 dL_law_1233 dL_law_1234 dL_law_1235 ?_
  refine J_arg 2 nIc_2 (by decide) hb hL (by omega) dL_law_1236 dL_law_1237 dL_law_1238 dL_law_1239 dL_law_1240 ?_
  refine J_arg 3 nIc_3 (by decide) hb hL (by omega) dL_law_1241 dL_law_1242 dL_law_1243 dL_law_1244 dL_law_1245 ?_
  refine J_arg 4 nIc_4 (by decide) hb hL (by omega) dL_law_1246 dL_law_1247 dL_law_1248 dL_law_1249 dL_law_1250 ?_
  refine J_arg 5 nIc_5 (by decide) hb hL (by omega) dL_law_1251 dL_law_1252 dL_law_1253 dL_law_1254 dL_law_1255 ?_
  refine J_V5p (pc' := 1259) dL_law_1256 lk_L_155 cd_X7_move hM ly_68 l84_68 rfl rfl (lw_room (by omega) (by omega)) (Nat.le_of_ble_eq_true rfl) rfl (fun w2 h2 => ?_)
  exact J_icmp_eq 1418 (pc' := 1262) dL_law_1259 (by decide) rfl (fun _ => hK w2 (lwR_end hQ h1 h2)) (fun q => absurd hQ.1 q)
set_option maxHeartbeats 4000000 in
set_option maxRecDepth 100000 in
theorem lw_c33 {G : jG} {b L : Nat} {xs : Nat → Int32} (hb : jad G 1020 = b) (hL : L ≤ 3072) {i : Nat} (hi : i + 6 ≤ L) (hK : ∀ w, lwR w → J G (lwG G b L xs) w 1418 (lwL i) []) {w : jWd} (hR : lwR w) : J G (lwG G b L xs) w 1264 (lwL i) [] := by
  have hG := hR.2.2.2.2
  refine J_aload_n (pc' := 1265) dL_law_1264 rfl rfl ?_
  refine J_arg 1 nIc_1 (by decide) hb hL (by omega) dL_law_1265 dL_law_1266 dL_law_1267 dL_law_1268 dL_law_1269 ?_
  refine J_V1p (pc' := 1273) dL_law_1270 lk_L_156 cd_X6_tells (a_X6_tells hR.2.2.1 hG.1 hG.2.2.1) ly_0 l84_0 rfl rfl (lw_room (by omega) (by omega)) (Nat.le_of_ble_eq_true rfl) rfl (fun w1 h1 => ?_)
  obtain ⟨e69, e70, eR, hV1⟩ := lwR_mid hR h1
  have hI1 : sInv (abM (w1.1 69)) := by rw [e69, ← hR.1]; exact hG.1
  have hM := b_X7_tells (G := G) (w := w1) hV1 hI1 (by rw [eR, ← hR.2.1]; exact hG.2.2.1) (x := (xs (i + 1)))
  rw [e69, e70, eR, ← hR.1, ← hR.2.1] at hM
  have hQ := g_tells hG (xs (i + 1))
  refine J_aload_n (pc' := 1274) dL_law_1273 rfl rfl ?_
  refine J_arg 1 nIc_1 (by decide) hb hL (by omega) dL_law_1274 dL_law_1275 dL_law_1276 dL_law_1277 dL_law_1278 ?_
  refine J_V1p (pc' := 1282) dL_law_1279 lk_L_159 cd_X7_tells hM ly_68 l84_68 rfl rfl (lw_room (by omega) (by omega)) (Nat.le_of_ble_eq_true rfl) rfl (fun w2 h2 => ?_)
  exact J_icmp_eq 1418 (pc' := 1285) dL_law_1282 (by decide) rfl (fun _ => hK w2 (lwR_end hQ h1 h2)) (fun q => absurd hQ.1 q)
set_option maxHeartbeats 4000000 in
set_option maxRecDepth 100000 in
theorem lw_c34 {G : jG} {b L : Nat} {xs : Nat → Int32} (hb : jad G 1020 = b) (hL : L ≤ 3072) {i : Nat} (hi : i + 6 ≤ L) (hK : ∀ w, lwR w → J G (lwG G b L xs) w 1418 (lwL i) []) {w : jWd} (hR : lwR w) : J G (lwG G b L xs) w 1287 (lwL i) [] := by
  have hG := hR.2.2.2.2
  refine J_aload_n (pc' := 1288) dL_law_1287 rfl rfl ?_
  refine J_arg 1 nIc_1 (by decide) hb hL (by omega) dL_law_1288 dL_law_1289 dL_law_1290 dL_law_1291 dL_law_1292 ?_
  refine J_V1p (pc' := 1296) dL_law_1293 lk_L_160 cd_X6_judge (a_X6_judge hR.2.2.1 hG.1 hG.2.2.1) ly_0 l84_0 rfl rfl (lw_room (by omega) (by omega)) (Nat.le_of_ble_eq_true rfl) rfl (fun w1 h1 => ?_)
  obtain ⟨e69, e70, eR, hV1⟩ := lwR_mid hR h1
  have hI1 : sInv (abM (w1.1 69)) := by rw [e69, ← hR.1]; exact hG.1
  have hM := b_X7_judge (G := G) (w := w1) hV1 hI1 (by rw [eR, ← hR.2.1]; exact hG.2.2.1) (x := (xs (i + 1)))
  rw [e69, e70, eR, ← hR.1, ← hR.2.1] at hM
  have hQ := g_judge hG (xs (i + 1))
  refine J_aload_n (pc' := 1297) dL_law_1296 rfl rfl ?_
  refine J_arg 1 nIc_1 (by decide) hb hL (by omega) dL_law_1297 dL_law_1298 dL_law_1299 dL_law_1300 dL_law_1301 ?_
  refine J_V1p (pc' := 1305) dL_law_1302 lk_L_163 cd_X7_judge hM ly_68 l84_68 rfl rfl (lw_room (by omega) (by omega)) (Nat.le_of_ble_eq_true rfl) rfl (fun w2 h2 => ?_)
  exact J_icmp_eq 1418 (pc' := 1308) dL_law_1305 (by decide) rfl (fun _ => hK w2 (lwR_end hQ h1 h2)) (fun q => absurd hQ.1 q)
set_option maxHeartbeats 4000000 in
set_option maxRecDepth 100000 in
theorem lw_c35 {G : jG} {b L : Nat} {xs : Nat → Int32} (hb : jad G 1020 = b) (hL : L ≤ 3072) {i : Nat} (hi : i + 6 ≤ L) (hK : ∀ w, lwR w → J G (lwG G b L xs) w 1418 (lwL i) []) {w : jWd} (hR : lwR w) : J G (lwG G b L xs) w 1310 (lwL i) [] := by
  have hG := hR.2.2.2.2
  refine J_aload_n (pc' := 1311) dL_law_1310 rfl rfl ?_
  refine J_V0p (pc' := 1314) dL_law_1311 lk_L_164 cd_X6_image (a_X6_image hR.2.2.1 hG.1) ly_0 l84_0 rfl rfl (lw_room (by omega) (by omega)) (Nat.le_of_ble_eq_true rfl) rfl (fun w1 h1 => ?_)
  obtain ⟨e69, e70, eR, hV1⟩ := lwR_mid hR h1
  have hI1 : sInv (abM (w1.1 69)) := by rw [e69, ← hR.1]; exact hG.1
  have hM := b_X7_image (G := G) (w := w1) hV1 hI1 
  rw [e69, e70, eR, ← hR.1, ← hR.2.1] at hM
  have hQ := g_image hG 
  refine J_aload_n (pc' := 1315) dL_law_1314 rfl rfl ?_
  refine J_V0p (pc' := 1318) dL_law_1315 lk_L_167 cd_X7_image hM ly_68 l84_68 rfl rfl (lw_room (by omega) (by omega)) (Nat.le_of_ble_eq_true rfl) rfl (fun w2 h2 => ?_)
  exact J_icmp_eq 1418 (pc' := 1321) dL_law_1318 (by decide) rfl (fun _ => hK w2 (lwR_end hQ h1 h2)) (fun q => absurd hQ.1 q)
set_option maxHeartbeats 4000000 in
set_option maxRecDepth 100000 in
theorem lw_c36 {G : jG} {b L : Nat} {xs : Nat → Int32} (hb : jad G 1020 = b) (hL : L ≤ 3072) {i : Nat} (hi : i + 6 ≤ L) (hK : ∀ w, lwR w → J G (lwG G b L xs) w 1418 (lwL i) []) {w : jWd} (hR : lwR w) : J G (lwG G b L xs) w 1323 (lwL i) [] := by
  have hG := hR.2.2.2.2
  refine J_aload_n (pc' := 1324) dL_law_1323 rfl rfl ?_
  refine J_V0p (pc' := 1327) dL_law_1324 lk_L_168 cd_X6_restore (a_X6_restore hR.2.2.1 hG.1 (fun q => hG.2.2.2.elim (fun z => absurd z q) (fun z => z.2.1))) ly_0 l84_0 rfl rfl (lw_room (by omega) (by omega)) (Nat.le_of_ble_eq_true rfl) rfl (fun w1 h1 => ?_)
  obtain ⟨e69, e70, eR, hV1⟩ := lwR_mid hR h1
  have hI1 : sInv (abM (w1.1 69)) := by rw [e69, ← hR.1]; exact hG.1
  have hM := b_X7_restore (G := G) (w := w1) hV1 hI1 (by rw [eR, e70, ← hR.2.1]; exact fun q => hG.2.2.2.elim (fun z => absurd z q) (fun z => z.1 ▸ z.2.1)) 
  rw [e69, e70, eR, ← hR.1, ← hR.2.1] at hM
  have hQ := g_restore hG 
  refine J_aload_n (pc' := 1328) dL_law_1327 rfl rfl ?_
  refine J_V0p (pc' := 1331) dL_law_1328 lk_L_171 cd_X7_restore hM ly_68 l84_68 rfl rfl (lw_room (by omega) (by omega)) (Nat.le_of_ble_eq_true rfl) rfl (fun w2 h2 => ?_)
  exact J_icmp_eq 1418 (pc' := 1334) dL_law_1331 (by decide) rfl (fun _ => hK w2 (lwR_end hQ h1 h2)) (fun q => absurd hQ.1 q)
set_option maxHeartbeats 4000000 in
set_option maxRecDepth 100000 in
theorem lw_c37 {G : jG} {b L : Nat} {xs : Nat → Int32} (hb : jad G 1020 = b) (hL : L ≤ 3072) {i : Nat} (hi : i + 6 ≤ L) (hK : ∀ w, lwR w → J G (lwG G b L xs) w 1418 (lwL i) []) {w : jWd} (hR : lwR w) : J G (lwG G b L xs) w 1336 (lwL i) [] := by
  have hG := hR.2.2.2.2
  refine J_aload_n (pc' := 1337) dL_law_1336 rfl rfl ?_
  refine J_arg 1 nIc_1 (by decide) hb hL (by omega) dL_law_1337 dL_law_1338 dL_law_1339 dL_law_1340 dL_law_1341 ?_
  refine J_V1p (pc' := 1345) dL_law_1342 lk_L_172 cd_X6_tell (a_X6_tell hR.2.2.1 hG.1) ly_0 l84_0 rfl rfl (lw_room (by omega) (by omega)) (Nat.le_of_ble_eq_true rfl) rfl (fun w1 h1 => ?_)
  obtain ⟨e69, e70, eR, hV1⟩ := lwR_mid hR h1
  have hI1 : sInv (abM (w1.1 69)) := by rw [e69, ← hR.1]; exact hG.1
  have hM := b_X7_tell (G := G) (w := w1) hV1 hI1 (v := (xs (i + 1)))
  rw [e69, e70, eR, ← hR.1, ← hR.2.1] at hM
  have hQ := g_tell hG (xs (i + 1))
  refine J_aload_n (pc' := 1346) dL_law_1345 rfl rfl ?_
  refine J_arg 1 nIc_1 (by decide) hb hL (by omega) dL_law_1346 dL_law_1347 dL_law_1348 dL_law_1349 dL_law_1350 ?_
  refine J_V1p (pc' := 1354) dL_law_1351 lk_L_175 cd_X7_tell hM ly_68 l84_68 rfl rfl (lw_room (by omega) (by omega)) (Nat.le_of_ble_eq_true rfl) rfl (fun w2 h2 => ?_)
  exact J_icmp_eq 1418 (pc' := 1357) dL_law_1354 (by decide) rfl (fun _ => hK w2 (lwR_end hQ h1 h2)) (fun q => absurd hQ.1 q)
set_option maxHeartbeats 4000000 in
set_option maxRecDepth 100000 in
theorem lw_c38 {G : jG} {b L : Nat} {xs : Nat → Int32} (hb : jad G 1020 = b) (hL : L ≤ 3072) {i : Nat} (hi : i + 6 ≤ L) (hK : ∀ w, lwR w → J G (lwG G b L xs) w 1418 (lwL i) []) {w : jWd} (hR : lwR w) : J G (lwG G b L xs) w 1359 (lwL i) [] := by
  have hG := hR.2.2.2.2
  refine J_aload_n (pc' := 1360) dL_law_1359 rfl rfl ?_
  refine J_V0p (pc' := 1363) dL_law_1360 lk_L_176 cd_X6_check (a_X6_check hR.2.2.1 hG.1) ly_0 l84_0 rfl rfl (lw_room (by omega) (by omega)) (Nat.le_of_ble_eq_true rfl) rfl (fun w1 h1 => ?_)
  obtain ⟨e69, e70, eR, hV1⟩ := lwR_mid hR h1
  have hI1 : sInv (abM (w1.1 69)) := by rw [e69, ← hR.1]; exact hG.1
  have hM := b_X7_check (G := G) (w := w1) hV1 hI1 
  rw [e69, e70, eR, ← hR.1, ← hR.2.1] at hM
  have hQ := g_check hG 
  refine J_aload_n (pc' := 1364) dL_law_1363 rfl rfl ?_
  refine J_V0p (pc' := 1367) dL_law_1364 lk_L_179 cd_X7_check hM ly_68 l84_68 rfl rfl (lw_room (by omega) (by omega)) (Nat.le_of_ble_eq_true rfl) rfl (fun w2 h2 => ?_)
  exact J_icmp_eq 1418 (pc' := 1370) dL_law_1367 (by decide) rfl (fun _ => hK w2 (lwR_end hQ h1 h2)) (fun q => absurd hQ.1 q)
set_option maxHeartbeats 4000000 in
set_option maxRecDepth 100000 in
theorem lw_c39 {G : jG} {b L : Nat} {xs : Nat → Int32} (hb : jad G 1020 = b) (hL : L ≤ 3072) {i : Nat} (hi : i + 6 ≤ L) (hK : ∀ w, lwR w → J G (lwG G b L xs) w 1418 (lwL i) []) {w : jWd} (hR : lwR w) : J G (lwG G b L xs) w 1372 (lwL i) [] := by
  have hG := hR.2.2.2.2
  refine J_aload_n (pc' := 1373) dL_law_1372 rfl rfl ?_
  refine J_arg 1 nIc_1 (by decide) hb hL (by omega) dL_law_1373 dL_law_1374 dL_law_1375 dL_law_1376 dL_law_1377 ?_
  refine J_V1p (pc' := 1381) dL_law_1378 lk_L_180 cd_X6_count (a_X6_count hR.2.2.1 hG.1) ly_0 l84_0 rfl rfl (lw_room (by omega) (by omega)) (Nat.le_of_ble_eq_true rfl) rfl (fun w1 h1 => ?_)
  obtain ⟨e69, e70, eR, hV1⟩ := lwR_mid hR h1
  have hI1 : sInv (abM (w1.1 69)) := by rw [e69, ← hR.1]; exact hG.1
  have hM := b_X7_count (G := G) (w := w1) hV1 hI1 (y := (xs (i + 1)))
  rw [e69, e70, eR, ← hR.1, ← hR.2.1] at hM
  have hQ := g_count hG (xs (i + 1))
  refine J_aload_n (pc' := 1382) dL_law_1381 rfl rfl ?_
  refine J_arg 1 nIc_1 (by decide) hb hL (by omega) dL_law_1382 dL_law_1383 dL_law_1384 dL_law_1385 dL_law_1386 ?_
  refine J_V1p (pc' := 1390) dL_law_1387 lk_L_183 cd_X7_count hM ly_68 l84_68 rfl rfl (lw_room (by omega) (by omega)) (Nat.le_of_ble_eq_true rfl) rfl (fun w2 h2 => ?_)
  exact J_icmp_eq 1418 (pc' := 1393) dL_law_1390 (by decide) rfl (fun _ => hK w2 (lwR_end hQ h1 h2)) (fun q => absurd hQ.1 q)
set_option maxHeartbeats 4000000 in
set_option maxRecDepth 100000 in
theorem lw_c40 {G : jG} {b L : Nat} {xs : Nat → Int32} (hb : jad G 1020 = b) (hL : L ≤ 3072) {i : Nat} (hi : i + 6 ≤ L) (hK : ∀ w, lwR w → J G (lwG G b L xs) w 1418 (lwL i) []) {w : jWd} (hR : lwR w) : J G (lwG G b L xs) w 1395 (lwL i) [] := by
  have hG := hR.2.2.2.2
  refine J_aload_n (pc' := 1396) dL_law_1395 rfl rfl ?_
  refine J_arg 1 nIc_1 (by decide) hb hL (by omega) dL_law_1396 dL_law_1397 dL_law_1398 dL_law_1399 dL_law_1400 ?_
  refine J_V1p (pc' := 1404) dL_law_1401 lk_L_184 cd_X6_told (a_X6_told hR.2.2.1 hG.1) ly_0 l84_0 rfl rfl (lw_room (by omega) (by omega)) (Nat.le_of_ble_eq_true rfl) rfl (fun w1 h1 => ?_)
  obtain ⟨e69, e70, eR, hV1⟩ := lwR_mid hR h1
  have hI1 : sInv (abM (w1.1 69)) := by rw [e69, ← hR.1]; exact hG.1
  have hM := b_X7_told (G := G) (w := w1) hV1 hI1 (x := (xs (i + 1)))
  rw [e69, e70, eR, ← hR.1, ← hR.2.1] at hM
  have hQ := g_told hG (xs (i + 1))
  refine J_aload_n (pc' := 1405) dL_law_1404 rfl rfl ?_
  refine J_arg 1 nIc_1 (by decide) hb hL (by omega) dL_law_1405 dL_law_1406 dL_law_1407 dL_law_1408 dL_law_1409 ?_
  refine J_V1p (pc' := 1413) dL_law_1410 lk_L_187 cd_X7_told hM ly_68 l84_68 rfl rfl (lw_room (by omega) (by omega)) (Nat.le_of_ble_eq_true rfl) rfl (fun w2 h2 => ?_)
  exact J_icmp_eq 1418 (pc' := 1416) dL_law_1413 (by decide) rfl (fun _ => hK w2 (lwR_end hQ h1 h2)) (fun q => absurd hQ.1 q)
