/-! THE LAW's calls, 1 of 3. -/
section LAW71
variable {p : Program} {e : Env} {s : State} {m : MethodId} {args : Array Value} {below : List Frame} {meth : Method} {c : Code} {D : wD} {Q : State → Prop}
variable {S : wS} {k n : Nat} {A : Nat → Prop} {q o la da b L : Nat} {B : Nat → Nat} {M : wM} {xs : Nat → Int32} {i : Int}
set_option maxHeartbeats 1000000 in
theorem b_addFilm (l : Launch) (hfl : l.stackTraces = false) (C : Cx p l s m args meth c cL_law 9 RL D A) (hs : hN s) (hX : va_X b L xs s s.heap) (hb : b < s.heap.size ∧ ¬ A b) (hi : 0 ≤ i ∧ i + 5 ≤ (L : Int) ∧ L ≤ 2560) (I : LwI D S q o la da B M) (hR : k + 100 ≤ 603072 ∧ n + 10000 ≤ 7215209) (hd : M 29 0 + 99 ≤ 50688)
    (kk : ∀ (S' : wS) (M' : wM), LwI D S' q o la da B M' → M' 29 0 ≤ M 29 0 + 99 → J p l e room_1 s m args below meth c 9 D A Q 2278 (L0 b q o la da i) [] S' (k + 100) (n + 10000)) : J p l e room_1 s m args below meth c 9 D A Q 196 (L0 b q o la da i) [] S k n := by
  refine j_aload_n C dL_law_196 rfl ?_
  refine j_aload_n C dL_law_197 rfl ?_
  refine j_wcall C hs (Or.inl ⟨rfl, rfl⟩) I (w_addFilm l hfl I.1 I.2.2.1 ) calH_addFilm st_L_addFilm ml_La_129 rfl rfl (Nat.le_of_ble_eq_true rfl) (Nat.le_of_ble_eq_true rfl) hR dL_law_198 dL_law_201 (fun S1 K1 v1 => ?_)
  refine j_aload_n C dL_law_203 rfl ?_
  refine j_rcall C (kd := 10) (a := la) (rest := []) (Or.inl rfl) K1 (m_addFilm l hfl  I.1.inv) cal_X6_addFilm vi_X6_addFilm rfl ml_La_134 rfl rfl (Nat.le_of_ble_eq_true rfl) ⟨Nat.le_of_ble_eq_true rfl, Nat.le_of_ble_eq_true rfl⟩ hR dL_law_204 (fun S2 K2 v2 => ?_)
  refine j_istore C dL_law_207 (by decide) ?_
  refine j_tail l hfl C K2 qx_addFilm qr_addFilm (fun z => v2.trans (v1 z)) rfl rfl rfl rfl hR dL_law_209 dL_law_210 dL_law_213 dL_law_215 dL_law_220 dL_law_222 dL_law_225 dL_law_226 dL_law_227 dL_law_228 dL_law_230 dL_law_231 dL_law_232 dL_law_237 (by decide) (fun S3 K3 => ?_)
  exact J.lvs L0_67 (kk S3 _ K3 qd_addFilm)
set_option maxHeartbeats 1000000 in
theorem b_addShot (l : Launch) (hfl : l.stackTraces = false) (C : Cx p l s m args meth c cL_law 9 RL D A) (hs : hN s) (hX : va_X b L xs s s.heap) (hb : b < s.heap.size ∧ ¬ A b) (hi : 0 ≤ i ∧ i + 5 ≤ (L : Int) ∧ L ≤ 2560) (I : LwI D S q o la da B M) (hR : k + 100 ≤ 603072 ∧ n + 10000 ≤ 7215209) (hd : M 29 0 + 99 ≤ 50688)
    (kk : ∀ (S' : wS) (M' : wM), LwI D S' q o la da B M' → M' 29 0 ≤ M 29 0 + 99 → J p l e room_1 s m args below meth c 9 D A Q 2278 (L0 b q o la da i) [] S' (k + 100) (n + 10000)) : J p l e room_1 s m args below meth c 9 D A Q 240 (L0 b q o la da i) [] S k n := by
  refine j_aload_n C dL_law_240 rfl ?_
  refine j_arg C hX hb (j := 1) ⟨by omega, by omega, hi.2.2⟩ rfl rfl dL_law_241 dL_law_242 dL_law_244 dL_law_245 dL_law_246 ?_
  refine j_arg C hX hb (j := 2) ⟨by omega, by omega, hi.2.2⟩ rfl rfl dL_law_247 dL_law_248 dL_law_250 dL_law_251 dL_law_252 ?_
  refine j_arg C hX hb (j := 3) ⟨by omega, by omega, hi.2.2⟩ rfl rfl dL_law_253 dL_law_254 dL_law_256 dL_law_257 dL_law_258 ?_
  refine j_aload_n C dL_law_259 rfl ?_
  refine j_wcall C hs (Or.inl ⟨rfl, rfl⟩) I (w_addShot l hfl I.1 I.2.2.1 (f := ax xs i 1) (a := ax xs i 2) (b := ax xs i 3) ax_rg ax_rg ax_rg) calH_addShot st_L_addShot ml_La_138 rfl rfl (Nat.le_of_ble_eq_true rfl) (Nat.le_of_ble_eq_true rfl) hR dL_law_260 dL_law_263 (fun S1 K1 v1 => ?_)
  refine j_aload_n C dL_law_265 rfl ?_
  refine j_arg C hX hb (j := 1) ⟨by omega, by omega, hi.2.2⟩ rfl rfl dL_law_266 dL_law_267 dL_law_269 dL_law_270 dL_law_271 ?_
  refine j_arg C hX hb (j := 2) ⟨by omega, by omega, hi.2.2⟩ rfl rfl dL_law_272 dL_law_273 dL_law_275 dL_law_276 dL_law_277 ?_
  refine j_arg C hX hb (j := 3) ⟨by omega, by omega, hi.2.2⟩ rfl rfl dL_law_278 dL_law_279 dL_law_281 dL_law_282 dL_law_283 ?_
  refine j_rcall C (kd := 10) (a := la) (rest := []) (Or.inl rfl) K1 (m_addShot l hfl (f := ax xs i 1) (a := ax xs i 2) (b := ax xs i 3) ax_rg ax_rg ax_rg I.1.inv) cal_X6_addShot vi_X6_addShot rfl ml_La_141 rfl rfl (Nat.le_of_ble_eq_true rfl) ⟨Nat.le_of_ble_eq_true rfl, Nat.le_of_ble_eq_true rfl⟩ hR dL_law_284 (fun S2 K2 v2 => ?_)
  refine j_istore C dL_law_287 (by decide) ?_
  refine j_tail l hfl C K2 qx_addShot qr_addShot (fun z => v2.trans (v1 z)) rfl rfl rfl rfl hR dL_law_289 dL_law_290 dL_law_293 dL_law_295 dL_law_300 dL_law_302 dL_law_305 dL_law_306 dL_law_307 dL_law_308 dL_law_310 dL_law_311 dL_law_312 dL_law_317 (by decide) (fun S3 K3 => ?_)
  exact J.lvs L0_67 (kk S3 _ K3 qd_addShot)
set_option maxHeartbeats 1000000 in
theorem b_addReel (l : Launch) (hfl : l.stackTraces = false) (C : Cx p l s m args meth c cL_law 9 RL D A) (hs : hN s) (hX : va_X b L xs s s.heap) (hb : b < s.heap.size ∧ ¬ A b) (hi : 0 ≤ i ∧ i + 5 ≤ (L : Int) ∧ L ≤ 2560) (I : LwI D S q o la da B M) (hR : k + 100 ≤ 603072 ∧ n + 10000 ≤ 7215209) (hd : M 29 0 + 99 ≤ 50688)
    (kk : ∀ (S' : wS) (M' : wM), LwI D S' q o la da B M' → M' 29 0 ≤ M 29 0 + 99 → J p l e room_1 s m args below meth c 9 D A Q 2278 (L0 b q o la da i) [] S' (k + 100) (n + 10000)) : J p l e room_1 s m args below meth c 9 D A Q 320 (L0 b q o la da i) [] S k n := by
  refine j_aload_n C dL_law_320 rfl ?_
  refine j_arg C hX hb (j := 1) ⟨by omega, by omega, hi.2.2⟩ rfl rfl dL_law_321 dL_law_322 dL_law_324 dL_law_325 dL_law_326 ?_
  refine j_aload_n C dL_law_327 rfl ?_
  refine j_wcall C hs (Or.inl ⟨rfl, rfl⟩) I (w_addReel l hfl I.1 I.2.2.1 (f := ax xs i 1) ax_rg) calH_addReel st_L_addReel ml_La_142 rfl rfl (Nat.le_of_ble_eq_true rfl) (Nat.le_of_ble_eq_true rfl) hR dL_law_328 dL_law_331 (fun S1 K1 v1 => ?_)
  refine j_aload_n C dL_law_333 rfl ?_
  refine j_arg C hX hb (j := 1) ⟨by omega, by omega, hi.2.2⟩ rfl rfl dL_law_334 dL_law_335 dL_law_337 dL_law_338 dL_law_339 ?_
  refine j_rcall C (kd := 10) (a := la) (rest := []) (Or.inl rfl) K1 (m_addReel l hfl (f := ax xs i 1) ax_rg I.1.inv) cal_X6_addReel vi_X6_addReel rfl ml_La_145 rfl rfl (Nat.le_of_ble_eq_true rfl) ⟨Nat.le_of_ble_eq_true rfl, Nat.le_of_ble_eq_true rfl⟩ hR dL_law_340 (fun S2 K2 v2 => ?_)
  refine j_istore C dL_law_343 (by decide) ?_
  refine j_tail l hfl C K2 qx_addReel qr_addReel (fun z => v2.trans (v1 z)) rfl rfl rfl rfl hR dL_law_345 dL_law_346 dL_law_349 dL_law_351 dL_law_356 dL_law_358 dL_law_361 dL_law_362 dL_law_363 dL_law_364 dL_law_366 dL_law_367 dL_law_368 dL_law_373 (by decide) (fun S3 K3 => ?_)
  exact J.lvs L0_67 (kk S3 _ K3 qd_addReel)
set_option maxHeartbeats 1000000 in
theorem b_put (l : Launch) (hfl : l.stackTraces = false) (C : Cx p l s m args meth c cL_law 9 RL D A) (hs : hN s) (hX : va_X b L xs s s.heap) (hb : b < s.heap.size ∧ ¬ A b) (hi : 0 ≤ i ∧ i + 5 ≤ (L : Int) ∧ L ≤ 2560) (I : LwI D S q o la da B M) (hR : k + 100 ≤ 603072 ∧ n + 10000 ≤ 7215209) (hd : M 29 0 + 99 ≤ 50688)
    (kk : ∀ (S' : wS) (M' : wM), LwI D S' q o la da B M' → M' 29 0 ≤ M 29 0 + 99 → J p l e room_1 s m args below meth c 9 D A Q 2278 (L0 b q o la da i) [] S' (k + 100) (n + 10000)) : J p l e room_1 s m args below meth c 9 D A Q 376 (L0 b q o la da i) [] S k n := by
  refine j_aload_n C dL_law_376 rfl ?_
  refine j_arg C hX hb (j := 1) ⟨by omega, by omega, hi.2.2⟩ rfl rfl dL_law_377 dL_law_378 dL_law_380 dL_law_381 dL_law_382 ?_
  refine j_arg C hX hb (j := 2) ⟨by omega, by omega, hi.2.2⟩ rfl rfl dL_law_383 dL_law_384 dL_law_386 dL_law_387 dL_law_388 ?_
  refine j_aload_n C dL_law_389 rfl ?_
  refine j_wcall C hs (Or.inl ⟨rfl, rfl⟩) I (w_put l hfl I.1 I.2.2.1 (r := ax xs i 1) (z := ax xs i 2) ax_rg ax_rg) calH_put st_L_put ml_La_146 rfl rfl (Nat.le_of_ble_eq_true rfl) (Nat.le_of_ble_eq_true rfl) hR dL_law_390 dL_law_393 (fun S1 K1 v1 => ?_)
  refine j_aload_n C dL_law_395 rfl ?_
  refine j_arg C hX hb (j := 1) ⟨by omega, by omega, hi.2.2⟩ rfl rfl dL_law_396 dL_law_397 dL_law_399 dL_law_400 dL_law_401 ?_
  refine j_arg C hX hb (j := 2) ⟨by omega, by omega, hi.2.2⟩ rfl rfl dL_law_402 dL_law_403 dL_law_405 dL_law_406 dL_law_407 ?_
  refine j_rcall C (kd := 10) (a := la) (rest := []) (Or.inl rfl) K1 (m_put l hfl (r := ax xs i 1) (z := ax xs i 2) ax_rg ax_rg I.1.inv) cal_X6_put vi_X6_put rfl ml_La_149 rfl rfl (Nat.le_of_ble_eq_true rfl) ⟨Nat.le_of_ble_eq_true rfl, Nat.le_of_ble_eq_true rfl⟩ hR dL_law_408 (fun S2 K2 v2 => ?_)
  refine j_istore C dL_law_411 (by decide) ?_
  refine j_tail l hfl C K2 qx_put qr_put (fun z => v2.trans (v1 z)) rfl rfl rfl rfl hR dL_law_413 dL_law_414 dL_law_417 dL_law_419 dL_law_424 dL_law_426 dL_law_429 dL_law_430 dL_law_431 dL_law_432 dL_law_434 dL_law_435 dL_law_436 dL_law_441 (by decide) (fun S3 K3 => ?_)
  exact J.lvs L0_67 (kk S3 _ K3 qd_put)
set_option maxHeartbeats 1000000 in
theorem b_found (l : Launch) (hfl : l.stackTraces = false) (C : Cx p l s m args meth c cL_law 9 RL D A) (hs : hN s) (hX : va_X b L xs s s.heap) (hb : b < s.heap.size ∧ ¬ A b) (hi : 0 ≤ i ∧ i + 5 ≤ (L : Int) ∧ L ≤ 2560) (I : LwI D S q o la da B M) (hR : k + 100 ≤ 603072 ∧ n + 10000 ≤ 7215209) (hd : M 29 0 + 99 ≤ 50688)
    (kk : ∀ (S' : wS) (M' : wM), LwI D S' q o la da B M' → M' 29 0 ≤ M 29 0 + 99 → J p l e room_1 s m args below meth c 9 D A Q 2278 (L0 b q o la da i) [] S' (k + 100) (n + 10000)) : J p l e room_1 s m args below meth c 9 D A Q 444 (L0 b q o la da i) [] S k n := by
  refine j_aload_n C dL_law_444 rfl ?_
  refine j_arg C hX hb (j := 1) ⟨by omega, by omega, hi.2.2⟩ rfl rfl dL_law_445 dL_law_446 dL_law_448 dL_law_449 dL_law_450 ?_
  refine j_arg C hX hb (j := 2) ⟨by omega, by omega, hi.2.2⟩ rfl rfl dL_law_451 dL_law_452 dL_law_454 dL_law_455 dL_law_456 ?_
  refine j_arg C hX hb (j := 3) ⟨by omega, by omega, hi.2.2⟩ rfl rfl dL_law_457 dL_law_458 dL_law_460 dL_law_461 dL_law_462 ?_
  refine j_arg C hX hb (j := 4) ⟨by omega, by omega, hi.2.2⟩ rfl rfl dL_law_463 dL_law_464 dL_law_466 dL_law_467 dL_law_468 ?_
  refine j_aload_n C dL_law_469 rfl ?_
  refine j_wcall C hs (Or.inl ⟨rfl, rfl⟩) I (w_found l hfl I.1 I.2.2.1 (f := ax xs i 1) (z := ax xs i 2) (a := ax xs i 3) (b := ax xs i 4) ax_rg ax_rg ax_rg ax_rg) calH_found st_L_found ml_La_150 rfl rfl (Nat.le_of_ble_eq_true rfl) (Nat.le_of_ble_eq_true rfl) hR dL_law_470 dL_law_473 (fun S1 K1 v1 => ?_)
  refine j_aload_n C dL_law_475 rfl ?_
  refine j_arg C hX hb (j := 1) ⟨by omega, by omega, hi.2.2⟩ rfl rfl dL_law_476 dL_law_477 dL_law_479 dL_law_480 dL_law_481 ?_
  refine j_arg C hX hb (j := 2) ⟨by omega, by omega, hi.2.2⟩ rfl rfl dL_law_482 dL_law_483 dL_law_485 dL_law_486 dL_law_487 ?_
  refine j_arg C hX hb (j := 3) ⟨by omega, by omega, hi.2.2⟩ rfl rfl dL_law_488 dL_law_489 dL_law_491 dL_law_492 dL_law_493 ?_
  refine j_arg C hX hb (j := 4) ⟨by omega, by omega, hi.2.2⟩ rfl rfl dL_law_494 dL_law_495 dL_law_497 dL_law_498 dL_law_499 ?_
  refine j_rcall C (kd := 10) (a := la) (rest := []) (Or.inl rfl) K1 (m_found l hfl (f := ax xs i 1) (z := ax xs i 2) (a := ax xs i 3) (b := ax xs i 4) ax_rg ax_rg ax_rg ax_rg I.1.inv) cal_X6_found vi_X6_found rfl ml_La_153 rfl rfl (Nat.le_of_ble_eq_true rfl) ⟨Nat.le_of_ble_eq_true rfl, Nat.le_of_ble_eq_true rfl⟩ hR dL_law_500 (fun S2 K2 v2 => ?_)
  refine j_istore C dL_law_503 (by decide) ?_
  refine j_tail l hfl C K2 qx_found qr_found (fun z => v2.trans (v1 z)) rfl rfl rfl rfl hR dL_law_505 dL_law_506 dL_law_509 dL_law_511 dL_law_516 dL_law_518 dL_law_521 dL_law_522 dL_law_523 dL_law_524 dL_law_526 dL_law_527 dL_law_528 dL_law_533 (by decide) (fun S3 K3 => ?_)
  exact J.lvs L0_67 (kk S3 _ K3 qd_found)
set_option maxHeartbeats 1000000 in
theorem b_join (l : Launch) (hfl : l.stackTraces = false) (C : Cx p l s m args meth c cL_law 9 RL D A) (hs : hN s) (hX : va_X b L xs s s.heap) (hb : b < s.heap.size ∧ ¬ A b) (hi : 0 ≤ i ∧ i + 5 ≤ (L : Int) ∧ L ≤ 2560) (I : LwI D S q o la da B M) (hR : k + 100 ≤ 603072 ∧ n + 10000 ≤ 7215209) (hd : M 29 0 + 99 ≤ 50688)
    (kk : ∀ (S' : wS) (M' : wM), LwI D S' q o la da B M' → M' 29 0 ≤ M 29 0 + 99 → J p l e room_1 s m args below meth c 9 D A Q 2278 (L0 b q o la da i) [] S' (k + 100) (n + 10000)) : J p l e room_1 s m args below meth c 9 D A Q 536 (L0 b q o la da i) [] S k n := by
  refine j_aload_n C dL_law_536 rfl ?_
  refine j_arg C hX hb (j := 1) ⟨by omega, by omega, hi.2.2⟩ rfl rfl dL_law_537 dL_law_538 dL_law_540 dL_law_541 dL_law_542 ?_
  refine j_arg C hX hb (j := 2) ⟨by omega, by omega, hi.2.2⟩ rfl rfl dL_law_543 dL_law_544 dL_law_546 dL_law_547 dL_law_548 ?_
  refine j_aload_n C dL_law_549 rfl ?_
  refine j_wcall C hs (Or.inl ⟨rfl, rfl⟩) I (w_join l hfl I.1 I.2.2.1 (r := ax xs i 1) (q := ax xs i 2) ax_rg ax_rg) calH_join st_L_join ml_La_154 rfl rfl (Nat.le_of_ble_eq_true rfl) (Nat.le_of_ble_eq_true rfl) hR dL_law_550 dL_law_553 (fun S1 K1 v1 => ?_)
  refine j_aload_n C dL_law_555 rfl ?_
  refine j_arg C hX hb (j := 1) ⟨by omega, by omega, hi.2.2⟩ rfl rfl dL_law_556 dL_law_557 dL_law_559 dL_law_560 dL_law_561 ?_
  refine j_arg C hX hb (j := 2) ⟨by omega, by omega, hi.2.2⟩ rfl rfl dL_law_562 dL_law_563 dL_law_565 dL_law_566 dL_law_567 ?_
  refine j_rcall C (kd := 10) (a := la) (rest := []) (Or.inl rfl) K1 (m_join l hfl (r := ax xs i 1) (q := ax xs i 2) ax_rg ax_rg I.1.inv) cal_X6_join vi_X6_join rfl ml_La_156 rfl rfl (Nat.le_of_ble_eq_true rfl) ⟨Nat.le_of_ble_eq_true rfl, Nat.le_of_ble_eq_true rfl⟩ hR dL_law_568 (fun S2 K2 v2 => ?_)
  refine j_istore C dL_law_571 (by decide) ?_
  refine j_tail l hfl C K2 qx_join qr_join (fun z => v2.trans (v1 z)) rfl rfl rfl rfl hR dL_law_573 dL_law_574 dL_law_577 dL_law_579 dL_law_584 dL_law_586 dL_law_589 dL_law_590 dL_law_591 dL_law_592 dL_law_594 dL_law_595 dL_law_596 dL_law_601 (by decide) (fun S3 K3 => ?_)
  exact J.lvs L0_67 (kk S3 _ K3 qd_join)
set_option maxHeartbeats 1000000 in
theorem b_shots (l : Launch) (hfl : l.stackTraces = false) (C : Cx p l s m args meth c cL_law 9 RL D A) (hs : hN s) (hX : va_X b L xs s s.heap) (hb : b < s.heap.size ∧ ¬ A b) (hi : 0 ≤ i ∧ i + 5 ≤ (L : Int) ∧ L ≤ 2560) (I : LwI D S q o la da B M) (hR : k + 100 ≤ 603072 ∧ n + 10000 ≤ 7215209) (hd : M 29 0 + 99 ≤ 50688)
    (kk : ∀ (S' : wS) (M' : wM), LwI D S' q o la da B M' → M' 29 0 ≤ M 29 0 + 99 → J p l e room_1 s m args below meth c 9 D A Q 2278 (L0 b q o la da i) [] S' (k + 100) (n + 10000)) : J p l e room_1 s m args below meth c 9 D A Q 604 (L0 b q o la da i) [] S k n := by
  refine j_aload_n C dL_law_604 rfl ?_
  refine j_arg C hX hb (j := 1) ⟨by omega, by omega, hi.2.2⟩ rfl rfl dL_law_605 dL_law_606 dL_law_608 dL_law_609 dL_law_610 ?_
  refine j_aload_n C dL_law_611 rfl ?_
  refine j_wcall C hs (Or.inl ⟨rfl, rfl⟩) I (w_shots l hfl I.1 I.2.2.1 (f := ax xs i 1) ax_rg) calH_shots st_L_shots ml_La_157 rfl rfl (Nat.le_of_ble_eq_true rfl) (Nat.le_of_ble_eq_true rfl) hR dL_law_612 dL_law_615 (fun S1 K1 v1 => ?_)
  refine j_aload_n C dL_law_617 rfl ?_
  refine j_arg C hX hb (j := 1) ⟨by omega, by omega, hi.2.2⟩ rfl rfl dL_law_618 dL_law_619 dL_law_621 dL_law_622 dL_law_623 ?_
  refine j_rcall C (kd := 10) (a := la) (rest := []) (Or.inl rfl) K1 (m_shots l hfl (f := ax xs i 1) ax_rg I.1.inv) cal_X6_shots vi_X6_shots rfl ml_La_159 rfl rfl (Nat.le_of_ble_eq_true rfl) ⟨Nat.le_of_ble_eq_true rfl, Nat.le_of_ble_eq_true rfl⟩ hR dL_law_624 (fun S2 K2 v2 => ?_)
  refine j_istore C dL_law_627 (by decide) ?_
  refine j_tail l hfl C K2 qx_shots qr_shots (fun z => v2.trans (v1 z)) rfl rfl rfl rfl hR dL_law_629 dL_law_630 dL_law_633 dL_law_635 dL_law_640 dL_law_642 dL_law_645 dL_law_646 dL_law_647 dL_law_648 dL_law_650 dL_law_651 dL_law_652 dL_law_657 (by decide) (fun S3 K3 => ?_)
  exact J.lvs L0_67 (kk S3 _ K3 qd_shots)
set_option maxHeartbeats 1000000 in
theorem b_shotOf (l : Launch) (hfl : l.stackTraces = false) (C : Cx p l s m args meth c cL_law 9 RL D A) (hs : hN s) (hX : va_X b L xs s s.heap) (hb : b < s.heap.size ∧ ¬ A b) (hi : 0 ≤ i ∧ i + 5 ≤ (L : Int) ∧ L ≤ 2560) (I : LwI D S q o la da B M) (hR : k + 100 ≤ 603072 ∧ n + 10000 ≤ 7215209) (hd : M 29 0 + 99 ≤ 50688)
    (kk : ∀ (S' : wS) (M' : wM), LwI D S' q o la da B M' → M' 29 0 ≤ M 29 0 + 99 → J p l e room_1 s m args below meth c 9 D A Q 2278 (L0 b q o la da i) [] S' (k + 100) (n + 10000)) : J p l e room_1 s m args below meth c 9 D A Q 660 (L0 b q o la da i) [] S k n := by
  refine j_aload_n C dL_law_660 rfl ?_
  refine j_arg C hX hb (j := 1) ⟨by omega, by omega, hi.2.2⟩ rfl rfl dL_law_661 dL_law_662 dL_law_664 dL_law_665 dL_law_666 ?_
  refine j_arg C hX hb (j := 2) ⟨by omega, by omega, hi.2.2⟩ rfl rfl dL_law_667 dL_law_668 dL_law_670 dL_law_671 dL_law_672 ?_
  refine j_aload_n C dL_law_673 rfl ?_
  refine j_wcall C hs (Or.inl ⟨rfl, rfl⟩) I (w_shotOf l hfl I.1 I.2.2.1 (f := ax xs i 1) (z := ax xs i 2) ax_rg ax_rg) calH_shotOf st_L_shotOf ml_La_160 rfl rfl (Nat.le_of_ble_eq_true rfl) (Nat.le_of_ble_eq_true rfl) hR dL_law_674 dL_law_677 (fun S1 K1 v1 => ?_)
  refine j_aload_n C dL_law_679 rfl ?_
  refine j_arg C hX hb (j := 1) ⟨by omega, by omega, hi.2.2⟩ rfl rfl dL_law_680 dL_law_681 dL_law_683 dL_law_684 dL_law_685 ?_
  refine j_arg C hX hb (j := 2) ⟨by omega, by omega, hi.2.2⟩ rfl rfl dL_law_686 dL_law_687 dL_law_689 dL_law_690 dL_law_691 ?_
  refine j_rcall C (kd := 10) (a := la) (rest := []) (Or.inl rfl) K1 (m_shotOf l hfl (f := ax xs i 1) (z := ax xs i 2) ax_rg ax_rg I.1.inv) cal_X6_shotOf vi_X6_shotOf rfl ml_La_162 rfl rfl (Nat.le_of_ble_eq_true rfl) ⟨Nat.le_of_ble_eq_true rfl, Nat.le_of_ble_eq_true rfl⟩ hR dL_law_692 (fun S2 K2 v2 => ?_)
  refine j_istore C dL_law_695 (by decide) ?_
  refine j_tail l hfl C K2 qx_shotOf qr_shotOf (fun z => v2.trans (v1 z)) rfl rfl rfl rfl hR dL_law_697 dL_law_698 dL_law_701 dL_law_703 dL_law_708 dL_law_710 dL_law_713 dL_law_714 dL_law_715 dL_law_716 dL_law_718 dL_law_719 dL_law_720 dL_law_725 (by decide) (fun S3 K3 => ?_)
  exact J.lvs L0_67 (kk S3 _ K3 qd_shotOf)
set_option maxHeartbeats 1000000 in
theorem b_lengthOf (l : Launch) (hfl : l.stackTraces = false) (C : Cx p l s m args meth c cL_law 9 RL D A) (hs : hN s) (hX : va_X b L xs s s.heap) (hb : b < s.heap.size ∧ ¬ A b) (hi : 0 ≤ i ∧ i + 5 ≤ (L : Int) ∧ L ≤ 2560) (I : LwI D S q o la da B M) (hR : k + 100 ≤ 603072 ∧ n + 10000 ≤ 7215209) (hd : M 29 0 + 99 ≤ 50688)
    (kk : ∀ (S' : wS) (M' : wM), LwI D S' q o la da B M' → M' 29 0 ≤ M 29 0 + 99 → J p l e room_1 s m args below meth c 9 D A Q 2278 (L0 b q o la da i) [] S' (k + 100) (n + 10000)) : J p l e room_1 s m args below meth c 9 D A Q 728 (L0 b q o la da i) [] S k n := by
  refine j_aload_n C dL_law_728 rfl ?_
  refine j_arg C hX hb (j := 1) ⟨by omega, by omega, hi.2.2⟩ rfl rfl dL_law_729 dL_law_730 dL_law_732 dL_law_733 dL_law_734 ?_
  refine j_aload_n C dL_law_735 rfl ?_
  refine j_wcall C hs (Or.inl ⟨rfl, rfl⟩) I (w_lengthOf l hfl I.1 I.2.2.1 (z := ax xs i 1) ax_rg) calH_lengthOf st_L_lengthOf ml_La_163 rfl rfl (Nat.le_of_ble_eq_true rfl) (Nat.le_of_ble_eq_true rfl) hR dL_law_736 dL_law_739 (fun S1 K1 v1 => ?_)
  refine j_aload_n C dL_law_741 rfl ?_
  refine j_arg C hX hb (j := 1) ⟨by omega, by omega, hi.2.2⟩ rfl rfl dL_law_742 dL_law_743 dL_law_745 dL_law_746 dL_law_747 ?_
  refine j_rcall C (kd := 10) (a := la) (rest := []) (Or.inl rfl) K1 (m_lengthOf l hfl (z := ax xs i 1) ax_rg I.1.inv) cal_X6_lengthOf vi_X6_lengthOf rfl ml_La_165 rfl rfl (Nat.le_of_ble_eq_true rfl) ⟨Nat.le_of_ble_eq_true rfl, Nat.le_of_ble_eq_true rfl⟩ hR dL_law_748 (fun S2 K2 v2 => ?_)
  refine j_istore C dL_law_751 (by decide) ?_
  refine j_tail l hfl C K2 qx_lengthOf qr_lengthOf (fun z => v2.trans (v1 z)) rfl rfl rfl rfl hR dL_law_753 dL_law_754 dL_law_757 dL_law_759 dL_law_764 dL_law_766 dL_law_769 dL_law_770 dL_law_771 dL_law_772 dL_law_774 dL_law_775 dL_law_776 dL_law_781 (by decide) (fun S3 K3 => ?_)
  exact J.lvs L0_67 (kk S3 _ K3 qd_lengthOf)
set_option maxHeartbeats 1000000 in
theorem b_frameOf (l : Launch) (hfl : l.stackTraces = false) (C : Cx p l s m args meth c cL_law 9 RL D A) (hs : hN s) (hX : va_X b L xs s s.heap) (hb : b < s.heap.size ∧ ¬ A b) (hi : 0 ≤ i ∧ i + 5 ≤ (L : Int) ∧ L ≤ 2560) (I : LwI D S q o la da B M) (hR : k + 100 ≤ 603072 ∧ n + 10000 ≤ 7215209) (hd : M 29 0 + 99 ≤ 50688)
    (kk : ∀ (S' : wS) (M' : wM), LwI D S' q o la da B M' → M' 29 0 ≤ M 29 0 + 99 → J p l e room_1 s m args below meth c 9 D A Q 2278 (L0 b q o la da i) [] S' (k + 100) (n + 10000)) : J p l e room_1 s m args below meth c 9 D A Q 784 (L0 b q o la da i) [] S k n := by
  refine j_aload_n C dL_law_784 rfl ?_
  refine j_arg C hX hb (j := 1) ⟨by omega, by omega, hi.2.2⟩ rfl rfl dL_law_785 dL_law_786 dL_law_788 dL_law_789 dL_law_790 ?_
  refine j_aload_n C dL_law_791 rfl ?_
  refine j_wcall C hs (Or.inl ⟨rfl, rfl⟩) I (w_frameOf l hfl I.1 I.2.2.1 (z := ax xs i 1) ax_rg) calH_frameOf st_L_frameOf ml_La_166 rfl rfl (Nat.le_of_ble_eq_true rfl) (Nat.le_of_ble_eq_true rfl) hR dL_law_792 dL_law_795 (fun S1 K1 v1 => ?_)
  refine j_aload_n C dL_law_797 rfl ?_
  refine j_arg C hX hb (j := 1) ⟨by omega, by omega, hi.2.2⟩ rfl rfl dL_law_798 dL_law_799 dL_law_801 dL_law_802 dL_law_803 ?_
  refine j_rcall C (kd := 10) (a := la) (rest := []) (Or.inl rfl) K1 (m_frameOf l hfl (z := ax xs i 1) ax_rg I.1.inv) cal_X6_frameOf vi_X6_frameOf rfl ml_La_168 rfl rfl (Nat.le_of_ble_eq_true rfl) ⟨Nat.le_of_ble_eq_true rfl, Nat.le_of_ble_eq_true rfl⟩ hR dL_law_804 (fun S2 K2 v2 => ?_)
  refine j_istore C dL_law_807 (by decide) ?_
  refine j_tail l hfl C K2 qx_frameOf qr_frameOf (fun z => v2.trans (v1 z)) rfl rfl rfl rfl hR dL_law_809 dL_law_810 dL_law_813 dL_law_815 dL_law_820 dL_law_822 dL_law_825 dL_law_826 dL_law_827 dL_law_828 dL_law_830 dL_law_831 dL_law_832 dL_law_837 (by decide) (fun S3 K3 => ?_)
  exact J.lvs L0_67 (kk S3 _ K3 qd_frameOf)
end LAW71
