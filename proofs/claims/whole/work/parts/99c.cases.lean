/-! the law's cases that change the state -/
set_option maxHeartbeats 4000000 in
set_option maxRecDepth 100000 in
theorem lc_post {g : Gl} {d kc ks i nt nti tl j : Nat} {ik : Int32} {tf : Nat → Int32} {h : AH} {Q : AH → Option Value → Prop}  (hi : i + 6 ≤ sN g) (hN : sN g ≤ 3072) (hd : 80 ≤ d) (hI : IV g h nt ik nti tf tl j) (K : ∀ h', IV g h' nt ik nti tf tl j → Ex g mL_law d kc ks 1647 [some (.ref (sB g)), some (.ref (g.1 + 0)), some (.ref (g.1 + 75)), some (.int (nI i))] [] h' Q) : Ex g mL_law d kc ks 236 [some (.ref (sB g)), some (.ref (g.1 + 0)), some (.ref (g.1 + 75)), some (.int (nI i))] [] h Q := by
  have hI0 := hI
  obtain ⟨eJ, tB, t96, s, n, im, ni, S, L, wf, c, z, hC, hR, hP⟩ := hI
  have hCR := hC.2.1
  have p8 := hCR.2.1.2.1
  refine ex_aload_n (pc := 236) dL_law_236 rfl ?_
  refine ex_aload_n (pc := 237) dL_law_237 rfl ?_
  refine ex_iload_n (pc := 238) dL_law_238 rfl ?_
  refine ex_iconst (pc := 239) (v := (nI 1)) dL_law_239 (by decide) ?_
  refine ex_iadd (pc := 240) dL_law_240 ?_
  refine ex_scr (pc := 241) dL_law_241 (by omega) hN ?_
  refine ex_aload_n (pc := 242) dL_law_242 rfl ?_
  refine ex_iload_n (pc := 243) dL_law_243 rfl ?_
  refine ex_iconst (pc := 244) (v := (nI 2)) dL_law_244 (by decide) ?_
  refine ex_iadd (pc := 245) dL_law_245 ?_
  refine ex_scr (pc := 246) dL_law_246 (by omega) hN ?_
  refine ex_aload_n (pc := 247) dL_law_247 rfl ?_
  refine ex_iload_n (pc := 248) dL_law_248 rfl ?_
  refine ex_iconst (pc := 249) (v := (nI 3)) dL_law_249 (by decide) ?_
  refine ex_iadd (pc := 250) dL_law_250 ?_
  refine ex_scr (pc := 251) dL_law_251 (by omega) hN ?_
  refine cx_VL3i (pc := 252) dL_law_252 lk_L_13 hC.1 rfl (Nat.le_of_ble_eq_true rfl) (Nat.le_of_ble_eq_true rfl) (by omega) (c_W_post hC.1 hCR (by omega) _ _ _) (fun h_252 x_252 q_252 => ?_)
  obtain ⟨⟨y0, u1⟩, y2⟩ := q_252
  have C1 := hC.room u1 y0
  have R1 := hR.fr u1 (fun k z => by unfold rmX at z; omega)
  refine ex_aload_n (pc := 255) dL_law_255 rfl ?_
  refine ex_aload_n (pc := 256) dL_law_256 rfl ?_
  refine ex_iload_n (pc := 257) dL_law_257 rfl ?_
  refine ex_iconst (pc := 258) (v := (nI 1)) dL_law_258 (by decide) ?_
  refine ex_iadd (pc := 259) dL_law_259 ?_
  refine ex_scr (pc := 260) dL_law_260 (by omega) hN ?_
  refine ex_aload_n (pc := 261) dL_law_261 rfl ?_
  refine ex_iload_n (pc := 262) dL_law_262 rfl ?_
  refine ex_iconst (pc := 263) (v := (nI 2)) dL_law_263 (by decide) ?_
  refine ex_iadd (pc := 264) dL_law_264 ?_
  refine ex_scr (pc := 265) dL_law_265 (by omega) hN ?_
  refine ex_aload_n (pc := 266) dL_law_266 rfl ?_
  refine ex_iload_n (pc := 267) dL_law_267 rfl ?_
  refine ex_iconst (pc := 268) (v := (nI 3)) dL_law_268 (by decide) ?_
  refine ex_iadd (pc := 269) dL_law_269 ?_
  refine ex_scr (pc := 270) dL_law_270 (by omega) hN ?_
  refine cx_VL3i (pc := 271) dL_law_271 lk_L_17 R1.1.1.1 rfl (Nat.le_of_ble_eq_true rfl) (Nat.le_of_ble_eq_true rfl) (by omega) (c_M_post R1.1 (by omega) _ _ _) (fun h_271 x_271 q_271 => ?_)
  obtain ⟨⟨y3, u2⟩, y4⟩ := q_271
  have C2 := C1.fr u2 (fun k z => by unfold mX at z; omega)
  have R2 := R1.room u2 y3
  refine bx_icmp_eq_t (pc := 274) (tgt := 1647) dL_law_274 (by decide) (by rw [y2, y4]) ?_
  exact K _ (IV.mk ((u2.1.trans u1.1).trans eJ) tB t96 C2 R2 ⟨g_post hP.1 _ _ _, hP.2⟩)
set_option maxHeartbeats 4000000 in
set_option maxRecDepth 100000 in
theorem lc_turns {g : Gl} {d kc ks i nt nti tl j : Nat} {ik : Int32} {tf : Nat → Int32} {h : AH} {Q : AH → Option Value → Prop}  (hi : i + 6 ≤ sN g) (hN : sN g ≤ 3072) (hd : 80 ≤ d) (hI : IV g h nt ik nti tf tl j) (K : ∀ h', IV g h' nt ik nti tf tl j → Ex g mL_law d kc ks 1647 [some (.ref (sB g)), some (.ref (g.1 + 0)), some (.ref (g.1 + 75)), some (.int (nI i))] [] h' Q) : Ex g mL_law d kc ks 345 [some (.ref (sB g)), some (.ref (g.1 + 0)), some (.ref (g.1 + 75)), some (.int (nI i))] [] h Q := by
  have hI0 := hI
  obtain ⟨eJ, tB, t96, s, n, im, ni, S, L, wf, c, z, hC, hR, hP⟩ := hI
  have hCR := hC.2.1
  have p8 := hCR.2.1.2.1
  refine ex_aload_n (pc := 345) dL_law_345 rfl ?_
  refine ex_aload_n (pc := 346) dL_law_346 rfl ?_
  refine ex_iload_n (pc := 347) dL_law_347 rfl ?_
  refine ex_iconst (pc := 348) (v := (nI 1)) dL_law_348 (by decide) ?_
  refine ex_iadd (pc := 349) dL_law_349 ?_
  refine ex_scr (pc := 350) dL_law_350 (by omega) hN ?_
  refine ex_aload_n (pc := 351) dL_law_351 rfl ?_
  refine ex_iload_n (pc := 352) dL_law_352 rfl ?_
  refine ex_iconst (pc := 353) (v := (nI 2)) dL_law_353 (by decide) ?_
  refine ex_iadd (pc := 354) dL_law_354 ?_
  refine ex_scr (pc := 355) dL_law_355 (by omega) hN ?_
  refine cx_VL2i (pc := 356) dL_law_356 lk_L_27 hC.1 rfl (Nat.le_of_ble_eq_true rfl) (Nat.le_of_ble_eq_true rfl) (by omega) (c_W_turns hC.1 hCR (by omega) _ _) (fun h_356 x_356 q_356 => ?_)
  obtain ⟨⟨y0, u1⟩, y2⟩ := q_356
  have C1 := hC.room u1 y0
  have R1 := hR.fr u1 (fun k z => by unfold rmX at z; omega)
  refine ex_aload_n (pc := 359) dL_law_359 rfl ?_
  refine ex_aload_n (pc := 360) dL_law_360 rfl ?_
  refine ex_iload_n (pc := 361) dL_law_361 rfl ?_
  refine ex_iconst (pc := 362) (v := (nI 1)) dL_law_362 (by decide) ?_
  refine ex_iadd (pc := 363) dL_law_363 ?_
  refine ex_scr (pc := 364) dL_law_364 (by omega) hN ?_
  refine ex_aload_n (pc := 365) dL_law_365 rfl ?_
  refine ex_iload_n (pc := 366) dL_law_366 rfl ?_
  refine ex_iconst (pc := 367) (v := (nI 2)) dL_law_367 (by decide) ?_
  refine ex_iadd (pc := 368) dL_law_368 ?_
  refine ex_scr (pc := 369) dL_law_369 (by omega) hN ?_
  refine cx_VL2i (pc := 370) dL_law_370 lk_L_30 R1.1.1.1 rfl (Nat.le_of_ble_eq_true rfl) (Nat.le_of_ble_eq_true rfl) (by omega) (c_M_turns R1.1 (by omega) _ _) (fun h_370 x_370 q_370 => ?_)
  obtain ⟨⟨y3, u2⟩, y4⟩ := q_370
  have C2 := C1.fr u2 (fun k z => by unfold mX at z; omega)
  have R2 := R1.room u2 y3
  refine bx_icmp_eq_t (pc := 373) (tgt := 1647) dL_law_373 (by decide) (by rw [y2, y4]) ?_
  exact K _ (IV.mk ((u2.1.trans u1.1).trans eJ) tB t96 C2 R2 ⟨g_turns hP.1 p8 _ _, hP.2⟩)
set_option maxHeartbeats 4000000 in
set_option maxRecDepth 100000 in
theorem lc_set {g : Gl} {d kc ks i nt nti tl j : Nat} {ik : Int32} {tf : Nat → Int32} {h : AH} {Q : AH → Option Value → Prop}  (hi : i + 6 ≤ sN g) (hN : sN g ≤ 3072) (hd : 80 ≤ d) (hI : IV g h nt ik nti tf tl j) (K : ∀ h', IV g h' nt ik nti tf tl j → Ex g mL_law d kc ks 1647 [some (.ref (sB g)), some (.ref (g.1 + 0)), some (.ref (g.1 + 75)), some (.int (nI i))] [] h' Q) : Ex g mL_law d kc ks 378 [some (.ref (sB g)), some (.ref (g.1 + 0)), some (.ref (g.1 + 75)), some (.int (nI i))] [] h Q := by
  have hI0 := hI
  obtain ⟨eJ, tB, t96, s, n, im, ni, S, L, wf, c, z, hC, hR, hP⟩ := hI
  have hCR := hC.2.1
  have p8 := hCR.2.1.2.1
  refine ex_aload_n (pc := 378) dL_law_378 rfl ?_
  refine ex_aload_n (pc := 379) dL_law_379 rfl ?_
  refine ex_iload_n (pc := 380) dL_law_380 rfl ?_
  refine ex_iconst (pc := 381) (v := (nI 1)) dL_law_381 (by decide) ?_
  refine ex_iadd (pc := 382) dL_law_382 ?_
  refine ex_scr (pc := 383) dL_law_383 (by omega) hN ?_
  refine ex_aload_n (pc := 384) dL_law_384 rfl ?_
  refine ex_iload_n (pc := 385) dL_law_385 rfl ?_
  refine ex_iconst (pc := 386) (v := (nI 2)) dL_law_386 (by decide) ?_
  refine ex_iadd (pc := 387) dL_law_387 ?_
  refine ex_scr (pc := 388) dL_law_388 (by omega) hN ?_
  refine ex_aload_n (pc := 389) dL_law_389 rfl ?_
  refine ex_iload_n (pc := 390) dL_law_390 rfl ?_
  refine ex_iconst (pc := 391) (v := (nI 3)) dL_law_391 (by decide) ?_
  refine ex_iadd (pc := 392) dL_law_392 ?_
  refine ex_scr (pc := 393) dL_law_393 (by omega) hN ?_
  refine cx_VL3i (pc := 394) dL_law_394 lk_L_31 hC.1 rfl (Nat.le_of_ble_eq_true rfl) (Nat.le_of_ble_eq_true rfl) (by omega) (c_W_set hC.1 hCR (by omega) _ _ _) (fun h_394 x_394 q_394 => ?_)
  obtain ⟨⟨y0, u1⟩, y2⟩ := q_394
  have C1 := hC.room u1 y0
  have R1 := hR.fr u1 (fun k z => by unfold rmX at z; omega)
  refine ex_aload_n (pc := 397) dL_law_397 rfl ?_
  refine ex_aload_n (pc := 398) dL_law_398 rfl ?_
  refine ex_iload_n (pc := 399) dL_law_399 rfl ?_
  refine ex_iconst (pc := 400) (v := (nI 1)) dL_law_400 (by decide) ?_
  refine ex_iadd (pc := 401) dL_law_401 ?_
  refine ex_scr (pc := 402) dL_law_402 (by omega) hN ?_
  refine ex_aload_n (pc := 403) dL_law_403 rfl ?_
  refine ex_iload_n (pc := 404) dL_law_404 rfl ?_
  refine ex_iconst (pc := 405) (v := (nI 2)) dL_law_405 (by decide) ?_
  refine ex_iadd (pc := 406) dL_law_406 ?_
  refine ex_scr (pc := 407) dL_law_407 (by omega) hN ?_
  refine ex_aload_n (pc := 408) dL_law_408 rfl ?_
  refine ex_iload_n (pc := 409) dL_law_409 rfl ?_
  refine ex_iconst (pc := 410) (v := (nI 3)) dL_law_410 (by decide) ?_
  refine ex_iadd (pc := 411) dL_law_411 ?_
  refine ex_scr (pc := 412) dL_law_412 (by omega) hN ?_
  refine cx_VL3i (pc := 413) dL_law_413 lk_L_34 R1.1.1.1 rfl (Nat.le_of_ble_eq_true rfl) (Nat.le_of_ble_eq_true rfl) (by omega) (c_M_set R1.1 (by omega) _ _ _) (fun h_413 x_413 q_413 => ?_)
  obtain ⟨⟨y3, u2⟩, y4⟩ := q_413
  have C2 := C1.fr u2 (fun k z => by unfold mX at z; omega)
  have R2 := R1.room u2 y3
  refine bx_icmp_eq_t (pc := 416) (tgt := 1647) dL_law_416 (by decide) (by rw [y2, y4]) ?_
  exact K _ (IV.mk ((u2.1.trans u1.1).trans eJ) tB t96 C2 R2 ⟨g_set hP.1 p8 _ _ _, hP.2⟩)
set_option maxHeartbeats 4000000 in
set_option maxRecDepth 100000 in
theorem lc_moves {g : Gl} {d kc ks i nt nti tl j : Nat} {ik : Int32} {tf : Nat → Int32} {h : AH} {Q : AH → Option Value → Prop}  (hi : i + 6 ≤ sN g) (hN : sN g ≤ 3072) (hd : 80 ≤ d) (hI : IV g h nt ik nti tf tl j) (K : ∀ h', IV g h' nt ik nti tf tl j → Ex g mL_law d kc ks 1647 [some (.ref (sB g)), some (.ref (g.1 + 0)), some (.ref (g.1 + 75)), some (.int (nI i))] [] h' Q) : Ex g mL_law d kc ks 421 [some (.ref (sB g)), some (.ref (g.1 + 0)), some (.ref (g.1 + 75)), some (.int (nI i))] [] h Q := by
  have hI0 := hI
  obtain ⟨eJ, tB, t96, s, n, im, ni, S, L, wf, c, z, hC, hR, hP⟩ := hI
  have hCR := hC.2.1
  have p8 := hCR.2.1.2.1
  refine ex_aload_n (pc := 421) dL_law_421 rfl ?_
  refine ex_aload_n (pc := 422) dL_law_422 rfl ?_
  refine ex_iload_n (pc := 423) dL_law_423 rfl ?_
  refine ex_iconst (pc := 424) (v := (nI 1)) dL_law_424 (by decide) ?_
  refine ex_iadd (pc := 425) dL_law_425 ?_
  refine ex_scr (pc := 426) dL_law_426 (by omega) hN ?_
  refine ex_aload_n (pc := 427) dL_law_427 rfl ?_
  refine ex_iload_n (pc := 428) dL_law_428 rfl ?_
  refine ex_iconst (pc := 429) (v := (nI 2)) dL_law_429 (by decide) ?_
  refine ex_iadd (pc := 430) dL_law_430 ?_
  refine ex_scr (pc := 431) dL_law_431 (by omega) hN ?_
  refine cx_VL2i (pc := 432) dL_law_432 lk_L_35 hC.1 rfl (Nat.le_of_ble_eq_true rfl) (Nat.le_of_ble_eq_true rfl) (by omega) (c_W_moves hC.1 hCR (by omega) _ _) (fun h_432 x_432 q_432 => ?_)
  obtain ⟨⟨y0, u1⟩, y2⟩ := q_432
  have C1 := hC.room u1 y0
  have R1 := hR.fr u1 (fun k z => by unfold rmX at z; omega)
  refine ex_aload_n (pc := 435) dL_law_435 rfl ?_
  refine ex_aload_n (pc := 436) dL_law_436 rfl ?_
  refine ex_iload_n (pc := 437) dL_law_437 rfl ?_
  refine ex_iconst (pc := 438) (v := (nI 1)) dL_law_438 (by decide) ?_
  refine ex_iadd (pc := 439) dL_law_439 ?_
  refine ex_scr (pc := 440) dL_law_440 (by omega) hN ?_
  refine ex_aload_n (pc := 441) dL_law_441 rfl ?_
  refine ex_iload_n (pc := 442) dL_law_442 rfl ?_
  refine ex_iconst (pc := 443) (v := (nI 2)) dL_law_443 (by decide) ?_
  refine ex_iadd (pc := 444) dL_law_444 ?_
  refine ex_scr (pc := 445) dL_law_445 (by omega) hN ?_
  refine cx_VL2i (pc := 446) dL_law_446 lk_L_38 R1.1.1.1 rfl (Nat.le_of_ble_eq_true rfl) (Nat.le_of_ble_eq_true rfl) (by omega) (c_M_moves R1.1 (by omega) _ _) (fun h_446 x_446 q_446 => ?_)
  obtain ⟨⟨y3, u2⟩, y4⟩ := q_446
  have C2 := C1.fr u2 (fun k z => by unfold mX at z; omega)
  have R2 := R1.room u2 y3
  refine bx_icmp_eq_t (pc := 449) (tgt := 1647) dL_law_449 (by decide) (by rw [y2, y4]) ?_
  exact K _ (IV.mk ((u2.1.trans u1.1).trans eJ) tB t96 C2 R2 ⟨g_moves hP.1 p8 _ _, hP.2⟩)
set_option maxHeartbeats 4000000 in
set_option maxRecDepth 100000 in
theorem lc_wall {g : Gl} {d kc ks i nt nti tl j : Nat} {ik : Int32} {tf : Nat → Int32} {h : AH} {Q : AH → Option Value → Prop}  (hi : i + 6 ≤ sN g) (hN : sN g ≤ 3072) (hd : 80 ≤ d) (hI : IV g h nt ik nti tf tl j) (K : ∀ h', IV g h' nt ik nti tf tl j → Ex g mL_law d kc ks 1647 [some (.ref (sB g)), some (.ref (g.1 + 0)), some (.ref (g.1 + 75)), some (.int (nI i))] [] h' Q) : Ex g mL_law d kc ks 454 [some (.ref (sB g)), some (.ref (g.1 + 0)), some (.ref (g.1 + 75)), some (.int (nI i))] [] h Q := by
  have hI0 := hI
  obtain ⟨eJ, tB, t96, s, n, im, ni, S, L, wf, c, z, hC, hR, hP⟩ := hI
  have hCR := hC.2.1
  have p8 := hCR.2.1.2.1
  refine ex_aload_n (pc := 454) dL_law_454 rfl ?_
  refine ex_aload_n (pc := 455) dL_law_455 rfl ?_
  refine ex_iload_n (pc := 456) dL_law_456 rfl ?_
  refine ex_iconst (pc := 457) (v := (nI 1)) dL_law_457 (by decide) ?_
  refine ex_iadd (pc := 458) dL_law_458 ?_
  refine ex_scr (pc := 459) dL_law_459 (by omega) hN ?_
  refine ex_aload_n (pc := 460) dL_law_460 rfl ?_
  refine ex_iload_n (pc := 461) dL_law_461 rfl ?_
  refine ex_iconst (pc := 462) (v := (nI 2)) dL_law_462 (by decide) ?_
  refine ex_iadd (pc := 463) dL_law_463 ?_
  refine ex_scr (pc := 464) dL_law_464 (by omega) hN ?_
  refine cx_VL2i (pc := 465) dL_law_465 lk_L_39 hC.1 rfl (Nat.le_of_ble_eq_true rfl) (Nat.le_of_ble_eq_true rfl) (by omega) (c_W_wall hC.1 hCR hP.1.2.2.1 (by omega) _ _) (fun h_465 x_465 q_465 => ?_)
  obtain ⟨⟨y0, u1⟩, y2⟩ := q_465
  have C1 := hC.room u1 y0
  have R1 := hR.fr u1 (fun k z => by unfold rmX at z; omega)
  refine ex_aload_n (pc := 468) dL_law_468 rfl ?_
  refine ex_aload_n (pc := 469) dL_law_469 rfl ?_
  refine ex_iload_n (pc := 470) dL_law_470 rfl ?_
  refine ex_iconst (pc := 471) (v := (nI 1)) dL_law_471 (by decide) ?_
  refine ex_iadd (pc := 472) dL_law_472 ?_
  refine ex_scr (pc := 473) dL_law_473 (by omega) hN ?_
  refine ex_aload_n (pc := 474) dL_law_474 rfl ?_
  refine ex_iload_n (pc := 475) dL_law_475 rfl ?_
  refine ex_iconst (pc := 476) (v := (nI 2)) dL_law_476 (by decide) ?_
  refine ex_iadd (pc := 477) dL_law_477 ?_
  refine ex_scr (pc := 478) dL_law_478 (by omega) hN ?_
  refine cx_VL2i (pc := 479) dL_law_479 lk_L_42 R1.1.1.1 rfl (Nat.le_of_ble_eq_true rfl) (Nat.le_of_ble_eq_true rfl) (by omega) (c_M_wall R1.1 (by omega) _ _) (fun h_479 x_479 q_479 => ?_)
  obtain ⟨⟨y3, u2⟩, y4⟩ := q_479
  have C2 := C1.fr u2 (fun k z => by unfold mX at z; omega)
  have R2 := R1.room u2 y3
  refine bx_icmp_eq_t (pc := 482) (tgt := 1647) dL_law_482 (by decide) (by rw [y2, y4]) ?_
  exact K _ (IV.mk ((u2.1.trans u1.1).trans eJ) tB t96 C2 R2 ⟨g_wall hP.1 p8 _ _, hP.2⟩)
set_option maxHeartbeats 4000000 in
set_option maxRecDepth 100000 in
theorem lc_thief {g : Gl} {d kc ks i nt nti tl j : Nat} {ik : Int32} {tf : Nat → Int32} {h : AH} {Q : AH → Option Value → Prop}  (hi : i + 6 ≤ sN g) (hN : sN g ≤ 3072) (hd : 80 ≤ d) (hI : IV g h nt ik nti tf tl j) (K : ∀ h', IV g h' nt ik nti tf tl j → Ex g mL_law d kc ks 1647 [some (.ref (sB g)), some (.ref (g.1 + 0)), some (.ref (g.1 + 75)), some (.int (nI i))] [] h' Q) : Ex g mL_law d kc ks 520 [some (.ref (sB g)), some (.ref (g.1 + 0)), some (.ref (g.1 + 75)), some (.int (nI i))] [] h Q := by
  have hI0 := hI
  obtain ⟨eJ, tB, t96, s, n, im, ni, S, L, wf, c, z, hC, hR, hP⟩ := hI
  have hCR := hC.2.1
  have p8 := hCR.2.1.2.1
  refine ex_aload_n (pc := 520) dL_law_520 rfl ?_
  refine ex_aload_n (pc := 521) dL_law_521 rfl ?_
  refine ex_iload_n (pc := 522) dL_law_522 rfl ?_
  refine ex_iconst (pc := 523) (v := (nI 1)) dL_law_523 (by decide) ?_
  refine ex_iadd (pc := 524) dL_law_524 ?_
  refine ex_scr (pc := 525) dL_law_525 (by omega) hN ?_
  refine cx_VL1i (pc := 526) dL_law_526 lk_L_47 hC.1 rfl (Nat.le_of_ble_eq_true rfl) (Nat.le_of_ble_eq_true rfl) (by omega) (c_W_thief hC.1 hCR (by omega) _) (fun h_526 x_526 q_526 => ?_)
  obtain ⟨⟨y0, u1⟩, y2⟩ := q_526
  have C1 := hC.room u1 y0
  have R1 := hR.fr u1 (fun k z => by unfold rmX at z; omega)
  refine ex_aload_n (pc := 529) dL_law_529 rfl ?_
  refine ex_aload_n (pc := 530) dL_law_530 rfl ?_
  refine ex_iload_n (pc := 531) dL_law_531 rfl ?_
  refine ex_iconst (pc := 532) (v := (nI 1)) dL_law_532 (by decide) ?_
  refine ex_iadd (pc := 533) dL_law_533 ?_
  refine ex_scr (pc := 534) dL_law_534 (by omega) hN ?_
  refine cx_VL1i (pc := 535) dL_law_535 lk_L_51 R1.1.1.1 rfl (Nat.le_of_ble_eq_true rfl) (Nat.le_of_ble_eq_true rfl) (by omega) (c_M_thief R1.1 (by omega) _) (fun h_535 x_535 q_535 => ?_)
  obtain ⟨⟨y3, u2⟩, y4⟩ := q_535
  have C2 := C1.fr u2 (fun k z => by unfold mX at z; omega)
  have R2 := R1.room u2 y3
  refine bx_icmp_eq_t (pc := 538) (tgt := 1647) dL_law_538 (by decide) (by rw [y2, y4]) ?_
  exact K _ (IV.mk ((u2.1.trans u1.1).trans eJ) tB t96 C2 R2 ⟨g_thief hP.1 p8 _, hP.2⟩)
set_option maxHeartbeats 4000000 in
set_option maxRecDepth 100000 in
theorem lc_rule {g : Gl} {d kc ks i nt nti tl j : Nat} {ik : Int32} {tf : Nat → Int32} {h : AH} {Q : AH → Option Value → Prop}  (hi : i + 6 ≤ sN g) (hN : sN g ≤ 3072) (hd : 80 ≤ d) (hI : IV g h nt ik nti tf tl j) (K : ∀ h', IV g h' nt ik nti tf tl j → Ex g mL_law d kc ks 1647 [some (.ref (sB g)), some (.ref (g.1 + 0)), some (.ref (g.1 + 75)), some (.int (nI i))] [] h' Q) : Ex g mL_law d kc ks 543 [some (.ref (sB g)), some (.ref (g.1 + 0)), some (.ref (g.1 + 75)), some (.int (nI i))] [] h Q := by
  have hI0 := hI
  obtain ⟨eJ, tB, t96, s, n, im, ni, S, L, wf, c, z, hC, hR, hP⟩ := hI
  have hCR := hC.2.1
  have p8 := hCR.2.1.2.1
  refine ex_aload_n (pc := 543) dL_law_543 rfl ?_
  refine ex_aload_n (pc := 544) dL_law_544 rfl ?_
  refine ex_iload_n (pc := 545) dL_law_545 rfl ?_
  refine ex_iconst (pc := 546) (v := (nI 1)) dL_law_546 (by decide) ?_
  refine ex_iadd (pc := 547) dL_law_547 ?_
  refine ex_scr (pc := 548) dL_law_548 (by omega) hN ?_
  refine ex_aload_n (pc := 549) dL_law_549 rfl ?_
  refine ex_iload_n (pc := 550) dL_law_550 rfl ?_
  refine ex_iconst (pc := 551) (v := (nI 2)) dL_law_551 (by decide) ?_
  refine ex_iadd (pc := 552) dL_law_552 ?_
  refine ex_scr (pc := 553) dL_law_553 (by omega) hN ?_
  refine cx_VL2i (pc := 554) dL_law_554 lk_L_52 hC.1 rfl (Nat.le_of_ble_eq_true rfl) (Nat.le_of_ble_eq_true rfl) (by omega) (c_W_rule hC.1 hCR (by omega) _ _) (fun h_554 x_554 q_554 => ?_)
  obtain ⟨⟨y0, u1⟩, y2⟩ := q_554
  have C1 := hC.room u1 y0
  have R1 := hR.fr u1 (fun k z => by unfold rmX at z; omega)
  refine ex_aload_n (pc := 557) dL_law_557 rfl ?_
  refine ex_aload_n (pc := 558) dL_law_558 rfl ?_
  refine ex_iload_n (pc := 559) dL_law_559 rfl ?_
  refine ex_iconst (pc := 560) (v := (nI 1)) dL_law_560 (by decide) ?_
  refine ex_iadd (pc := 561) dL_law_561 ?_
  refine ex_scr (pc := 562) dL_law_562 (by omega) hN ?_
  refine ex_aload_n (pc := 563) dL_law_563 rfl ?_
  refine ex_iload_n (pc := 564) dL_law_564 rfl ?_
  refine ex_iconst (pc := 565) (v := (nI 2)) dL_law_565 (by decide) ?_
  refine ex_iadd (pc := 566) dL_law_566 ?_
  refine ex_scr (pc := 567) dL_law_567 (by omega) hN ?_
  refine cx_VL2i (pc := 568) dL_law_568 lk_L_55 R1.1.1.1 rfl (Nat.le_of_ble_eq_true rfl) (Nat.le_of_ble_eq_true rfl) (by omega) (c_M_rule R1.1 (by omega) _ _) (fun h_568 x_568 q_568 => ?_)
  obtain ⟨⟨y3, u2⟩, y4⟩ := q_568
  have C2 := C1.fr u2 (fun k z => by unfold mX at z; omega)
  have R2 := R1.room u2 y3
  refine bx_icmp_eq_t (pc := 571) (tgt := 1647) dL_law_571 (by decide) (by rw [y2, y4]) ?_
  exact K _ (IV.mk ((u2.1.trans u1.1).trans eJ) tB t96 C2 R2 ⟨g_rule hP.1 p8 _ _, hP.2⟩)
set_option maxHeartbeats 4000000 in
set_option maxRecDepth 100000 in
theorem lc_seed {g : Gl} {d kc ks i nt nti tl j : Nat} {ik : Int32} {tf : Nat → Int32} {h : AH} {Q : AH → Option Value → Prop}  (hi : i + 6 ≤ sN g) (hN : sN g ≤ 3072) (hd : 80 ≤ d) (hI : IV g h nt ik nti tf tl j) (K : ∀ h', IV g h' nt ik nti tf tl j → Ex g mL_law d kc ks 1647 [some (.ref (sB g)), some (.ref (g.1 + 0)), some (.ref (g.1 + 75)), some (.int (nI i))] [] h' Q) : Ex g mL_law d kc ks 599 [some (.ref (sB g)), some (.ref (g.1 + 0)), some (.ref (g.1 + 75)), some (.int (nI i))] [] h Q := by
  have hI0 := hI
  obtain ⟨eJ, tB, t96, s, n, im, ni, S, L, wf, c, z, hC, hR, hP⟩ := hI
  have hCR := hC.2.1
  have p8 := hCR.2.1.2.1
  refine ex_aload_n (pc := 599) dL_law_599 rfl ?_
  refine ex_aload_n (pc := 600) dL_law_600 rfl ?_
  refine ex_iload_n (pc := 601) dL_law_601 rfl ?_
  refine ex_iconst (pc := 602) (v := (nI 1)) dL_law_602 (by decide) ?_
  refine ex_iadd (pc := 603) dL_law_603 ?_
  refine ex_scr (pc := 604) dL_law_604 (by omega) hN ?_
  refine cx_VL1i (pc := 605) dL_law_605 lk_L_60 hC.1 rfl (Nat.le_of_ble_eq_true rfl) (Nat.le_of_ble_eq_true rfl) (by omega) (c_W_seed hC.1 hCR _) (fun h_605 x_605 q_605 => ?_)
  obtain ⟨⟨y0, u1⟩, y2⟩ := q_605
  have C1 := hC.room u1 y0
  have R1 := hR.fr u1 (fun k z => by unfold rmX at z; omega)
  refine ex_aload_n (pc := 608) dL_law_608 rfl ?_
  refine ex_aload_n (pc := 609) dL_law_609 rfl ?_
  refine ex_iload_n (pc := 610) dL_law_610 rfl ?_
  refine ex_iconst (pc := 611) (v := (nI 1)) dL_law_611 (by decide) ?_
  refine ex_iadd (pc := 612) dL_law_612 ?_
  refine ex_scr (pc := 613) dL_law_613 (by omega) hN ?_
  refine cx_VL1i (pc := 614) dL_law_614 lk_L_63 R1.1.1.1 rfl (Nat.le_of_ble_eq_true rfl) (Nat.le_of_ble_eq_true rfl) (by omega) (c_M_seed R1.1 (by omega) _) (fun h_614 x_614 q_614 => ?_)
  obtain ⟨⟨y3, u2⟩, y4⟩ := q_614
  have C2 := C1.fr u2 (fun k z => by unfold mX at z; omega)
  have R2 := R1.room u2 y3
  refine bx_icmp_eq_t (pc := 617) (tgt := 1647) dL_law_617 (by decide) (by rw [y2, y4]) ?_
  exact K _ (IV.mk ((u2.1.trans u1.1).trans eJ) tB t96 C2 R2 ⟨g_seed hP.1 _, hP.2⟩)
set_option maxHeartbeats 4000000 in
set_option maxRecDepth 100000 in
theorem lc_deal {g : Gl} {d kc ks i nt nti tl j : Nat} {ik : Int32} {tf : Nat → Int32} {h : AH} {Q : AH → Option Value → Prop}  (hi : i + 6 ≤ sN g) (hN : sN g ≤ 3072) (hd : 80 ≤ d) (hI : IV g h nt ik nti tf tl j) (K : ∀ h', IV g h' nt ik nti tf tl j → Ex g mL_law d kc ks 1647 [some (.ref (sB g)), some (.ref (g.1 + 0)), some (.ref (g.1 + 75)), some (.int (nI i))] [] h' Q) : Ex g mL_law d kc ks 576 [some (.ref (sB g)), some (.ref (g.1 + 0)), some (.ref (g.1 + 75)), some (.int (nI i))] [] h Q := by
  have hI0 := hI
  obtain ⟨eJ, tB, t96, s, n, im, ni, S, L, wf, c, z, hC, hR, hP⟩ := hI
  have hCR := hC.2.1
  have p8 := hCR.2.1.2.1
  refine ex_aload_n (pc := 576) dL_law_576 rfl ?_
  refine ex_aload_n (pc := 577) dL_law_577 rfl ?_
  refine ex_iload_n (pc := 578) dL_law_578 rfl ?_
  refine ex_iconst (pc := 579) (v := (nI 1)) dL_law_579 (by decide) ?_
  refine ex_iadd (pc := 580) dL_law_580 ?_
  refine ex_scr (pc := 581) dL_law_581 (by omega) hN ?_
  refine cx_VL1i (pc := 582) dL_law_582 lk_L_56 hC.1 rfl (Nat.le_of_ble_eq_true rfl) (Nat.le_of_ble_eq_true rfl) (by omega) (c_W_dealF hC.1 hCR (by omega) _) (fun h_582 x_582 q_582 => ?_)
  obtain ⟨⟨y0, u1⟩, y2⟩ := q_582
  have C1 := hC.room u1 y0
  have R1 := hR.fr u1 (fun k z => by unfold rmX at z; omega)
  refine ex_aload_n (pc := 585) dL_law_585 rfl ?_
  refine ex_aload_n (pc := 586) dL_law_586 rfl ?_
  refine ex_iload_n (pc := 587) dL_law_587 rfl ?_
  refine ex_iconst (pc := 588) (v := (nI 1)) dL_law_588 (by decide) ?_
  refine ex_iadd (pc := 589) dL_law_589 ?_
  refine ex_scr (pc := 590) dL_law_590 (by omega) hN ?_
  refine cx_VL1i (pc := 591) dL_law_591 lk_L_59 R1.1.1.1 rfl (Nat.le_of_ble_eq_true rfl) (Nat.le_of_ble_eq_true rfl) (by omega) (c_M_deal R1.1 (by omega) _) (fun h_591 x_591 q_591 => ?_)
  obtain ⟨⟨y3, u2⟩, y4⟩ := q_591
  have C2 := C1.fr u2 (fun k z => by unfold mX at z; omega)
  have R2 := R1.room u2 y3
  refine bx_icmp_eq_t (pc := 594) (tgt := 1647) dL_law_594 (by decide) (by rw [y2, y4]) ?_
  exact K _ (IV.mk ((u2.1.trans u1.1).trans eJ) tB t96 C2 R2 ⟨g_deal hP.1 _, hP.2⟩)
set_option maxHeartbeats 4000000 in
set_option maxRecDepth 100000 in
theorem lc_hours {g : Gl} {d kc ks i nt nti tl j : Nat} {ik : Int32} {tf : Nat → Int32} {h : AH} {Q : AH → Option Value → Prop}  (hi : i + 6 ≤ sN g) (hN : sN g ≤ 3072) (hd : 80 ≤ d) (hI : IV g h nt ik nti tf tl j) (K : ∀ h', IV g h' nt ik nti tf tl j → Ex g mL_law d kc ks 1647 [some (.ref (sB g)), some (.ref (g.1 + 0)), some (.ref (g.1 + 75)), some (.int (nI i))] [] h' Q) : Ex g mL_law d kc ks 833 [some (.ref (sB g)), some (.ref (g.1 + 0)), some (.ref (g.1 + 75)), some (.int (nI i))] [] h Q := by
  have hI0 := hI
  obtain ⟨eJ, tB, t96, s, n, im, ni, S, L, wf, c, z, hC, hR, hP⟩ := hI
  have hCR := hC.2.1
  have p8 := hCR.2.1.2.1
  refine ex_aload_n (pc := 833) dL_law_833 rfl ?_
  refine ex_aload_n (pc := 834) dL_law_834 rfl ?_
  refine ex_iload_n (pc := 835) dL_law_835 rfl ?_
  refine ex_iconst (pc := 836) (v := (nI 1)) dL_law_836 (by decide) ?_
  refine ex_iadd (pc := 837) dL_law_837 ?_
  refine ex_scr (pc := 838) dL_law_838 (by omega) hN ?_
  refine cx_VL1i (pc := 839) dL_law_839 lk_L_92 hC.1 rfl (Nat.le_of_ble_eq_true rfl) (Nat.le_of_ble_eq_true rfl) (by omega) (c_W_hours hC.1 hCR (hP.1.ok hCR.2.1) (by omega) _) (fun h_839 x_839 q_839 => ?_)
  obtain ⟨⟨y0, u1⟩, y2⟩ := q_839
  have C1 := hC.room u1 y0
  have R1 := hR.fr u1 (fun k z => by unfold rmX at z; omega)
  refine ex_aload_n (pc := 842) dL_law_842 rfl ?_
  refine ex_aload_n (pc := 843) dL_law_843 rfl ?_
  refine ex_iload_n (pc := 844) dL_law_844 rfl ?_
  refine ex_iconst (pc := 845) (v := (nI 1)) dL_law_845 (by decide) ?_
  refine ex_iadd (pc := 846) dL_law_846 ?_
  refine ex_scr (pc := 847) dL_law_847 (by omega) hN ?_
  refine cx_VL1i (pc := 848) dL_law_848 lk_L_95 R1.1.1.1 rfl (Nat.le_of_ble_eq_true rfl) (Nat.le_of_ble_eq_true rfl) (by omega) (c_M_hours R1.1 (hP.1.ok hCR.2.1) (by omega) _) (fun h_848 x_848 q_848 => ?_)
  obtain ⟨⟨y3, u2⟩, y4⟩ := q_848
  have C2 := C1.fr u2 (fun k z => by unfold mX at z; omega)
  have R2 := R1.room u2 y3
  refine bx_icmp_eq_t (pc := 851) (tgt := 1647) dL_law_851 (by decide) (by rw [y2, y4]) ?_
  exact K _ (IV.mk ((u2.1.trans u1.1).trans eJ) tB t96 C2 R2 ⟨g_hours hP.1 hCR.2.1 _, hP.2⟩)
set_option maxHeartbeats 4000000 in
set_option maxRecDepth 100000 in
theorem lc_pour {g : Gl} {d kc ks i nt nti tl j : Nat} {ik : Int32} {tf : Nat → Int32} {h : AH} {Q : AH → Option Value → Prop}  (hi : i + 6 ≤ sN g) (hN : sN g ≤ 3072) (hd : 80 ≤ d) (hI : IV g h nt ik nti tf tl j) (K : ∀ h', IV g h' nt ik nti tf tl j → Ex g mL_law d kc ks 1647 [some (.ref (sB g)), some (.ref (g.1 + 0)), some (.ref (g.1 + 75)), some (.int (nI i))] [] h' Q) : Ex g mL_law d kc ks 1301 [some (.ref (sB g)), some (.ref (g.1 + 0)), some (.ref (g.1 + 75)), some (.int (nI i))] [] h Q := by
  have hI0 := hI
  obtain ⟨eJ, tB, t96, s, n, im, ni, S, L, wf, c, z, hC, hR, hP⟩ := hI
  have hCR := hC.2.1
  have p8 := hCR.2.1.2.1
  refine ex_aload_n (pc := 1301) dL_law_1301 rfl ?_
  refine ex_aload_n (pc := 1302) dL_law_1302 rfl ?_
  refine ex_iload_n (pc := 1303) dL_law_1303 rfl ?_
  refine ex_iconst (pc := 1304) (v := (nI 1)) dL_law_1304 (by decide) ?_
  refine ex_iadd (pc := 1305) dL_law_1305 ?_
  refine ex_scr (pc := 1306) dL_law_1306 (by omega) hN ?_
  refine cx_VL1i (pc := 1307) dL_law_1307 lk_L_157 hC.1 rfl (Nat.le_of_ble_eq_true rfl) (Nat.le_of_ble_eq_true rfl) (by omega) (c_W_pour hC.1 hCR hC.2.2.2.2.2.1 hP.2.2.2.1 (by omega) _) (fun h_1307 x_1307 q_1307 => ?_)
  obtain ⟨⟨y0, u1⟩, y2⟩ := q_1307
  have C1 := hC.room u1 y0
  have R1 := hR.fr u1 (fun k z => by unfold rmX at z; omega)
  refine ex_aload_n (pc := 1310) dL_law_1310 rfl ?_
  refine ex_aload_n (pc := 1311) dL_law_1311 rfl ?_
  refine ex_iload_n (pc := 1312) dL_law_1312 rfl ?_
  refine ex_iconst (pc := 1313) (v := (nI 1)) dL_law_1313 (by decide) ?_
  refine ex_iadd (pc := 1314) dL_law_1314 ?_
  refine ex_scr (pc := 1315) dL_law_1315 (by omega) hN ?_
  refine cx_VL1i (pc := 1316) dL_law_1316 lk_L_160 R1.1.1.1 rfl (Nat.le_of_ble_eq_true rfl) (Nat.le_of_ble_eq_true rfl) (by omega) (c_M_pour R1.1 R1.2.2.2.2.1 hP.2.2.2.1 (by omega) _) (fun h_1316 x_1316 q_1316 => ?_)
  obtain ⟨⟨y3, u2⟩, y4⟩ := q_1316
  have C2 := C1.fr u2 (fun k z => by unfold mX at z; omega)
  have R2 := R1.room u2 y3
  refine bx_icmp_eq_t (pc := 1319) (tgt := 1647) dL_law_1319 (by decide) (by rw [y2, y4]) ?_
  exact K _ (IV.mk ((u2.1.trans u1.1).trans eJ) tB t96 C2 R2 ⟨g_pour hP.1 p8 _ _, hP.2⟩)
set_option maxHeartbeats 4000000 in
set_option maxRecDepth 100000 in
theorem lc_sheet {g : Gl} {d kc ks i nt nti tl j : Nat} {ik : Int32} {tf : Nat → Int32} {h : AH} {Q : AH → Option Value → Prop}  (hi : i + 6 ≤ sN g) (hN : sN g ≤ 3072) (hd : 80 ≤ d) (hI : IV g h nt ik nti tf tl j) (K : ∀ h', IV g h' nt ik nti tf tl j → Ex g mL_law d kc ks 1647 [some (.ref (sB g)), some (.ref (g.1 + 0)), some (.ref (g.1 + 75)), some (.int (nI i))] [] h' Q) : Ex g mL_law d kc ks 1215 [some (.ref (sB g)), some (.ref (g.1 + 0)), some (.ref (g.1 + 75)), some (.int (nI i))] [] h Q := by
  have hI0 := hI
  obtain ⟨eJ, tB, t96, s, n, im, ni, S, L, wf, c, z, hC, hR, hP⟩ := hI
  have hCR := hC.2.1
  have p8 := hCR.2.1.2.1
  refine ex_aload_n (pc := 1215) dL_law_1215 rfl ?_
  refine ex_aload_n (pc := 1216) dL_law_1216 rfl ?_
  refine ex_iload_n (pc := 1217) dL_law_1217 rfl ?_
  refine ex_iconst (pc := 1218) (v := (nI 1)) dL_law_1218 (by decide) ?_
  refine ex_iadd (pc := 1219) dL_law_1219 ?_
  refine ex_scr (pc := 1220) dL_law_1220 (by omega) hN ?_
  refine ex_aload_n (pc := 1221) dL_law_1221 rfl ?_
  refine ex_iload_n (pc := 1222) dL_law_1222 rfl ?_
  refine ex_iconst (pc := 1223) (v := (nI 2)) dL_law_1223 (by decide) ?_
  refine ex_iadd (pc := 1224) dL_law_1224 ?_
  refine ex_scr (pc := 1225) dL_law_1225 (by omega) hN ?_
  refine ex_aload_n (pc := 1226) dL_law_1226 rfl ?_
  refine ex_iload_n (pc := 1227) dL_law_1227 rfl ?_
  refine ex_iconst (pc := 1228) (v := (nI 3)) dL_law_1228 (by decide) ?_
  refine ex_iadd (pc := 1229) dL_law_1229 ?_
  refine ex_scr (pc := 1230) dL_law_1230 (by omega) hN ?_
  refine cx_VL3i (pc := 1231) dL_law_1231 lk_L_149 hC.1 rfl (Nat.le_of_ble_eq_true rfl) (Nat.le_of_ble_eq_true rfl) (by omega) (c_W_sheet hC.1 hC.2.2.2.2.2.1 hP.2.2.2.1 (by omega) _ _ _) (fun h_1231 x_1231 q_1231 => ?_)
  obtain ⟨⟨y0, u1⟩, y2⟩ := q_1231
  have C1 := hC.sht u1 y0
  have R1 := hR.fr u1 (fun k z => by unfold shX at z; omega)
  refine ex_aload_n (pc := 1234) dL_law_1234 rfl ?_
  refine ex_aload_n (pc := 1235) dL_law_1235 rfl ?_
  refine ex_iload_n (pc := 1236) dL_law_1236 rfl ?_
  refine ex_iconst (pc := 1237) (v := (nI 1)) dL_law_1237 (by decide) ?_
  refine ex_iadd (pc := 1238) dL_law_1238 ?_
  refine ex_scr (pc := 1239) dL_law_1239 (by omega) hN ?_
  refine ex_aload_n (pc := 1240) dL_law_1240 rfl ?_
  refine ex_iload_n (pc := 1241) dL_law_1241 rfl ?_
  refine ex_iconst (pc := 1242) (v := (nI 2)) dL_law_1242 (by decide) ?_
  refine ex_iadd (pc := 1243) dL_law_1243 ?_
  refine ex_scr (pc := 1244) dL_law_1244 (by omega) hN ?_
  refine ex_aload_n (pc := 1245) dL_law_1245 rfl ?_
  refine ex_iload_n (pc := 1246) dL_law_1246 rfl ?_
  refine ex_iconst (pc := 1247) (v := (nI 3)) dL_law_1247 (by decide) ?_
  refine ex_iadd (pc := 1248) dL_law_1248 ?_
  refine ex_scr (pc := 1249) dL_law_1249 (by omega) hN ?_
  refine cx_VL3i (pc := 1250) dL_law_1250 lk_L_152 R1.1.1.1 rfl (Nat.le_of_ble_eq_true rfl) (Nat.le_of_ble_eq_true rfl) (by omega) (c_M_sheet R1.1.1 R1.2.2.2.2.1 hP.2.2.2.1 (by omega) _ _ _) (fun h_1250 x_1250 q_1250 => ?_)
  obtain ⟨⟨y3, u2⟩, y4⟩ := q_1250
  have C2 := C1.fr u2 (fun k z => by unfold smX at z; omega)
  have R2 := R1.sht u2 y3
  refine bx_icmp_eq_t (pc := 1253) (tgt := 1647) dL_law_1253 (by decide) (by rw [y2, y4]) ?_
  exact K _ (IV.mk ((u2.1.trans u1.1).trans eJ) tB t96 C2 R2 ⟨hP.1, hP.2.1, hP.2.2.1, g_sheet hP.2.2.2.1 _ _ _, hP.2.2.2.2⟩)
set_option maxHeartbeats 4000000 in
set_option maxRecDepth 100000 in
theorem lc_mark {g : Gl} {d kc ks i nt nti tl j : Nat} {ik : Int32} {tf : Nat → Int32} {h : AH} {Q : AH → Option Value → Prop}  (hi : i + 6 ≤ sN g) (hN : sN g ≤ 3072) (hd : 80 ≤ d) (hI : IV g h nt ik nti tf tl j) (K : ∀ h', IV g h' nt ik nti tf tl j → Ex g mL_law d kc ks 1647 [some (.ref (sB g)), some (.ref (g.1 + 0)), some (.ref (g.1 + 75)), some (.int (nI i))] [] h' Q) : Ex g mL_law d kc ks 1258 [some (.ref (sB g)), some (.ref (g.1 + 0)), some (.ref (g.1 + 75)), some (.int (nI i))] [] h Q := by
  have hI0 := hI
  obtain ⟨eJ, tB, t96, s, n, im, ni, S, L, wf, c, z, hC, hR, hP⟩ := hI
  have hCR := hC.2.1
  have p8 := hCR.2.1.2.1
  refine ex_aload_n (pc := 1258) dL_law_1258 rfl ?_
  refine ex_aload_n (pc := 1259) dL_law_1259 rfl ?_
  refine ex_iload_n (pc := 1260) dL_law_1260 rfl ?_
  refine ex_iconst (pc := 1261) (v := (nI 1)) dL_law_1261 (by decide) ?_
  refine ex_iadd (pc := 1262) dL_law_1262 ?_
  refine ex_scr (pc := 1263) dL_law_1263 (by omega) hN ?_
  refine ex_aload_n (pc := 1264) dL_law_1264 rfl ?_
  refine ex_iload_n (pc := 1265) dL_law_1265 rfl ?_
  refine ex_iconst (pc := 1266) (v := (nI 2)) dL_law_1266 (by decide) ?_
  refine ex_iadd (pc := 1267) dL_law_1267 ?_
  refine ex_scr (pc := 1268) dL_law_1268 (by omega) hN ?_
  refine ex_aload_n (pc := 1269) dL_law_1269 rfl ?_
  refine ex_iload_n (pc := 1270) dL_law_1270 rfl ?_
  refine ex_iconst (pc := 1271) (v := (nI 3)) dL_law_1271 (by decide) ?_
  refine ex_iadd (pc := 1272) dL_law_1272 ?_
  refine ex_scr (pc := 1273) dL_law_1273 (by omega) hN ?_
  refine cx_VL3i (pc := 1274) dL_law_1274 lk_L_153 hC.1 rfl (Nat.le_of_ble_eq_true rfl) (Nat.le_of_ble_eq_true rfl) (by omega) (c_W_mark hC.1 hC.2.2.2.2.2.1 hP.2.2.2.1 (by omega) _ _ _) (fun h_1274 x_1274 q_1274 => ?_)
  obtain ⟨⟨y0, u1⟩, y2⟩ := q_1274
  have C1 := hC.sht u1 y0
  have R1 := hR.fr u1 (fun k z => by unfold shX at z; omega)
  refine ex_aload_n (pc := 1277) dL_law_1277 rfl ?_
  refine ex_aload_n (pc := 1278) dL_law_1278 rfl ?_
  refine ex_iload_n (pc := 1279) dL_law_1279 rfl ?_
  refine ex_iconst (pc := 1280) (v := (nI 1)) dL_law_1280 (by decide) ?_
  refine ex_iadd (pc := 1281) dL_law_1281 ?_
  refine ex_scr (pc := 1282) dL_law_1282 (by omega) hN ?_
  refine ex_aload_n (pc := 1283) dL_law_1283 rfl ?_
  refine ex_iload_n (pc := 1284) dL_law_1284 rfl ?_
  refine ex_iconst (pc := 1285) (v := (nI 2)) dL_law_1285 (by decide) ?_
  refine ex_iadd (pc := 1286) dL_law_1286 ?_
  refine ex_scr (pc := 1287) dL_law_1287 (by omega) hN ?_
  refine ex_aload_n (pc := 1288) dL_law_1288 rfl ?_
  refine ex_iload_n (pc := 1289) dL_law_1289 rfl ?_
  refine ex_iconst (pc := 1290) (v := (nI 3)) dL_law_1290 (by decide) ?_
  refine ex_iadd (pc := 1291) dL_law_1291 ?_
  refine ex_scr (pc := 1292) dL_law_1292 (by omega) hN ?_
  refine cx_VL3i (pc := 1293) dL_law_1293 lk_L_156 R1.1.1.1 rfl (Nat.le_of_ble_eq_true rfl) (Nat.le_of_ble_eq_true rfl) (by omega) (c_M_mark R1.1.1 R1.2.2.2.2.1 hP.2.2.2.1 (by omega) _ _ _) (fun h_1293 x_1293 q_1293 => ?_)
  obtain ⟨⟨y3, u2⟩, y4⟩ := q_1293
  have C2 := C1.fr u2 (fun k z => by unfold smX at z; omega)
  have R2 := R1.sht u2 y3
  refine bx_icmp_eq_t (pc := 1296) (tgt := 1647) dL_law_1296 (by decide) (by rw [y2, y4]) ?_
  exact K _ (IV.mk ((u2.1.trans u1.1).trans eJ) tB t96 C2 R2 ⟨hP.1, hP.2.1, hP.2.2.1, g_mark hP.2.2.2.1 _ _ _, hP.2.2.2.2⟩)
set_option maxHeartbeats 4000000 in
set_option maxRecDepth 100000 in
theorem lc_copy {g : Gl} {d kc ks i nt nti tl j : Nat} {ik : Int32} {tf : Nat → Int32} {h : AH} {Q : AH → Option Value → Prop}  (hi : i + 6 ≤ sN g) (hN : sN g ≤ 3072) (hd : 80 ≤ d) (hI : IV g h nt ik nti tf tl j) (K : ∀ h', IV g h' nt ik nti tf tl j → Ex g mL_law d kc ks 1647 [some (.ref (sB g)), some (.ref (g.1 + 0)), some (.ref (g.1 + 75)), some (.int (nI i))] [] h' Q) : Ex g mL_law d kc ks 1347 [some (.ref (sB g)), some (.ref (g.1 + 0)), some (.ref (g.1 + 75)), some (.int (nI i))] [] h Q := by
  have hI0 := hI
  obtain ⟨eJ, tB, t96, s, n, im, ni, S, L, wf, c, z, hC, hR, hP⟩ := hI
  have hCR := hC.2.1
  have p8 := hCR.2.1.2.1
  refine ex_aload_n (pc := 1347) dL_law_1347 rfl ?_
  refine ex_aload_n (pc := 1348) dL_law_1348 rfl ?_
  refine ex_iload_n (pc := 1349) dL_law_1349 rfl ?_
  refine ex_iconst (pc := 1350) (v := (nI 1)) dL_law_1350 (by decide) ?_
  refine ex_iadd (pc := 1351) dL_law_1351 ?_
  refine ex_scr (pc := 1352) dL_law_1352 (by omega) hN ?_
  refine ex_aload_n (pc := 1353) dL_law_1353 rfl ?_
  refine ex_iload_n (pc := 1354) dL_law_1354 rfl ?_
  refine ex_iconst (pc := 1355) (v := (nI 2)) dL_law_1355 (by decide) ?_
  refine ex_iadd (pc := 1356) dL_law_1356 ?_
  refine ex_scr (pc := 1357) dL_law_1357 (by omega) hN ?_
  refine ex_aload_n (pc := 1358) dL_law_1358 rfl ?_
  refine ex_iload_n (pc := 1359) dL_law_1359 rfl ?_
  refine ex_iconst (pc := 1360) (v := (nI 3)) dL_law_1360 (by decide) ?_
  refine ex_iadd (pc := 1361) dL_law_1361 ?_
  refine ex_scr (pc := 1362) dL_law_1362 (by omega) hN ?_
  refine ex_aload_n (pc := 1363) dL_law_1363 rfl ?_
  refine ex_iload_n (pc := 1364) dL_law_1364 rfl ?_
  refine ex_iconst (pc := 1365) (v := (nI 4)) dL_law_1365 (by decide) ?_
  refine ex_iadd (pc := 1366) dL_law_1366 ?_
  refine ex_scr (pc := 1367) dL_law_1367 (by omega) hN ?_
  refine ex_aload_n (pc := 1368) dL_law_1368 rfl ?_
  refine ex_iload_n (pc := 1369) dL_law_1369 rfl ?_
  refine ex_iconst (pc := 1370) (v := (nI 5)) dL_law_1370 (by decide) ?_
  refine ex_iadd (pc := 1371) dL_law_1371 ?_
  refine ex_scr (pc := 1372) dL_law_1372 (by omega) hN ?_
  refine cx_VL5i (pc := 1373) dL_law_1373 lk_L_165 hC.1 rfl (Nat.le_of_ble_eq_true rfl) (Nat.le_of_ble_eq_true rfl) (by omega) (c_W_copy hC.1 hC.2.2.2.2.2.1 hP.2.2.2.1 (by omega) _ _ _ _ _) (fun h_1373 x_1373 q_1373 => ?_)
  obtain ⟨⟨y0, u1⟩, y2⟩ := q_1373
  have C1 := hC.sht u1 y0
  have R1 := hR.fr u1 (fun k z => by unfold shX at z; omega)
  obtain ⟨fc0, m92⟩ := R1.2.2.1.2.2.2.1
  refine ex_aload_n (pc := 1376) dL_law_1376 rfl ?_
  refine ex_aload_n (pc := 1377) dL_law_1377 rfl ?_
  refine ex_iload_n (pc := 1378) dL_law_1378 rfl ?_
  refine ex_iconst (pc := 1379) (v := (nI 1)) dL_law_1379 (by decide) ?_
  refine ex_iadd (pc := 1380) dL_law_1380 ?_
  refine ex_scr (pc := 1381) dL_law_1381 (by omega) hN ?_
  refine ex_aload_n (pc := 1382) dL_law_1382 rfl ?_
  refine ex_iload_n (pc := 1383) dL_law_1383 rfl ?_
  refine ex_iconst (pc := 1384) (v := (nI 2)) dL_law_1384 (by decide) ?_
  refine ex_iadd (pc := 1385) dL_law_1385 ?_
  refine ex_scr (pc := 1386) dL_law_1386 (by omega) hN ?_
  refine ex_aload_n (pc := 1387) dL_law_1387 rfl ?_
  refine ex_iload_n (pc := 1388) dL_law_1388 rfl ?_
  refine ex_iconst (pc := 1389) (v := (nI 3)) dL_law_1389 (by decide) ?_
  refine ex_iadd (pc := 1390) dL_law_1390 ?_
  refine ex_scr (pc := 1391) dL_law_1391 (by omega) hN ?_
  refine ex_aload_n (pc := 1392) dL_law_1392 rfl ?_
  refine ex_iload_n (pc := 1393) dL_law_1393 rfl ?_
  refine ex_iconst (pc := 1394) (v := (nI 4)) dL_law_1394 (by decide) ?_
  refine ex_iadd (pc := 1395) dL_law_1395 ?_
  refine ex_scr (pc := 1396) dL_law_1396 (by omega) hN ?_
  refine ex_aload_n (pc := 1397) dL_law_1397 rfl ?_
  refine ex_iload_n (pc := 1398) dL_law_1398 rfl ?_
  refine ex_iconst (pc := 1399) (v := (nI 5)) dL_law_1399 (by decide) ?_
  refine ex_iadd (pc := 1400) dL_law_1400 ?_
  refine ex_scr (pc := 1401) dL_law_1401 (by omega) hN ?_
  refine cx_VL5i (pc := 1402) dL_law_1402 lk_L_169 R1.1.1.1 rfl (Nat.le_of_ble_eq_true rfl) (Nat.le_of_ble_eq_true rfl) (by omega) (c_M_copy R1.1.1 R1.2.2.2.2.1 hP.2.2.2.1 m92 (by omega) _ _ _ _ _) (fun h_1402 x_1402 q_1402 => ?_)
  obtain ⟨⟨y3, y5, u2⟩, y4⟩ := q_1402
  have C2 := C1.fr u2 (fun k z => by unfold cpX at z; omega)
  have R2 := R1.cpy u2 y3 y5
  refine bx_icmp_eq_t (pc := 1405) (tgt := 1647) dL_law_1405 (by decide) (by rw [y2, y4]) ?_
  exact K _ (IV.mk ((u2.1.trans u1.1).trans eJ) tB t96 C2 R2 ⟨hP.1, hP.2.1, hP.2.2.1, g_copy hP.2.2.2.1 _ _ _ _ _, hP.2.2.2.2⟩)
set_option maxHeartbeats 4000000 in
set_option maxRecDepth 100000 in
theorem lc_lay {g : Gl} {d kc ks i nt nti tl j : Nat} {ik : Int32} {tf : Nat → Int32} {h : AH} {Q : AH → Option Value → Prop}  (hi : i + 6 ≤ sN g) (hN : sN g ≤ 3072) (hd : 80 ≤ d) (hI : IV g h nt ik nti tf tl j) (K : ∀ h', IV g h' nt ik nti tf tl j → Ex g mL_law d kc ks 1647 [some (.ref (sB g)), some (.ref (g.1 + 0)), some (.ref (g.1 + 75)), some (.int (nI i))] [] h' Q) : Ex g mL_law d kc ks 1410 [some (.ref (sB g)), some (.ref (g.1 + 0)), some (.ref (g.1 + 75)), some (.int (nI i))] [] h Q := by
  have hI0 := hI
  obtain ⟨eJ, tB, t96, s, n, im, ni, S, L, wf, c, z, hC, hR, hP⟩ := hI
  have hCR := hC.2.1
  have p8 := hCR.2.1.2.1
  refine ex_aload_n (pc := 1410) dL_law_1410 rfl ?_
  refine ex_aload_n (pc := 1411) dL_law_1411 rfl ?_
  refine ex_iload_n (pc := 1412) dL_law_1412 rfl ?_
  refine ex_iconst (pc := 1413) (v := (nI 1)) dL_law_1413 (by decide) ?_
  refine ex_iadd (pc := 1414) dL_law_1414 ?_
  refine ex_scr (pc := 1415) dL_law_1415 (by omega) hN ?_
  refine ex_aload_n (pc := 1416) dL_law_1416 rfl ?_
  refine ex_iload_n (pc := 1417) dL_law_1417 rfl ?_
  refine ex_iconst (pc := 1418) (v := (nI 2)) dL_law_1418 (by decide) ?_
  refine ex_iadd (pc := 1419) dL_law_1419 ?_
  refine ex_scr (pc := 1420) dL_law_1420 (by omega) hN ?_
  refine ex_aload_n (pc := 1421) dL_law_1421 rfl ?_
  refine ex_iload_n (pc := 1422) dL_law_1422 rfl ?_
  refine ex_iconst (pc := 1423) (v := (nI 3)) dL_law_1423 (by decide) ?_
  refine ex_iadd (pc := 1424) dL_law_1424 ?_
  refine ex_scr (pc := 1425) dL_law_1425 (by omega) hN ?_
  refine cx_VL3i (pc := 1426) dL_law_1426 lk_L_170 hC.1 rfl (Nat.le_of_ble_eq_true rfl) (Nat.le_of_ble_eq_true rfl) (by omega) (c_W_lay hC.1 hCR hC.2.2.2.2.2.1 hP.2.2.2.1 hC.2.2.2.2.2.2.1 (by omega) _ _ _) (fun h_1426 x_1426 q_1426 => ?_)
  obtain ⟨⟨y0, u1⟩, y2⟩ := q_1426
  have C1 := hC.slt u1 y0
  have R1 := hR.fr u1 (fun k z => by unfold slX at z; omega)
  refine ex_aload_n (pc := 1429) dL_law_1429 rfl ?_
  refine ex_aload_n (pc := 1430) dL_law_1430 rfl ?_
  refine ex_iload_n (pc := 1431) dL_law_1431 rfl ?_
  refine ex_iconst (pc := 1432) (v := (nI 1)) dL_law_1432 (by decide) ?_
  refine ex_iadd (pc := 1433) dL_law_1433 ?_
  refine ex_scr (pc := 1434) dL_law_1434 (by omega) hN ?_
  refine ex_aload_n (pc := 1435) dL_law_1435 rfl ?_
  refine ex_iload_n (pc := 1436) dL_law_1436 rfl ?_
  refine ex_iconst (pc := 1437) (v := (nI 2)) dL_law_1437 (by decide) ?_
  refine ex_iadd (pc := 1438) dL_law_1438 ?_
  refine ex_scr (pc := 1439) dL_law_1439 (by omega) hN ?_
  refine ex_aload_n (pc := 1440) dL_law_1440 rfl ?_
  refine ex_iload_n (pc := 1441) dL_law_1441 rfl ?_
  refine ex_iconst (pc := 1442) (v := (nI 3)) dL_law_1442 (by decide) ?_
  refine ex_iadd (pc := 1443) dL_law_1443 ?_
  refine ex_scr (pc := 1444) dL_law_1444 (by omega) hN ?_
  refine cx_VL3i (pc := 1445) dL_law_1445 lk_L_173 R1.1.1.1 rfl (Nat.le_of_ble_eq_true rfl) (Nat.le_of_ble_eq_true rfl) (by omega) (c_M_lay R1.1 R1.2.2.2.2.1 hP.2.2.2.1 R1.2.2.2.2.2.1 (by omega) _ _ _) (fun h_1445 x_1445 q_1445 => ?_)
  obtain ⟨⟨y3, u2⟩, y4⟩ := q_1445
  have C2 := C1.fr u2 (fun k z => by unfold lmX at z; omega)
  have R2 := R1.slt u2 y3
  refine bx_icmp_eq_t (pc := 1448) (tgt := 1647) dL_law_1448 (by decide) (by rw [y2, y4]) ?_
  exact K _ (IV.mk ((u2.1.trans u1.1).trans eJ) tB t96 C2 R2 ⟨hP.1, hP.2.1, hP.2.2.1, hP.2.2.2.1, g_lay hCR.2.1 hP.2.2.2.1 hP.2.2.2.2.1 _ _ _, hP.2.2.2.2.2⟩)
set_option maxHeartbeats 4000000 in
set_option maxRecDepth 100000 in
theorem lc_tell {g : Gl} {d kc ks i nt nti tl j : Nat} {ik : Int32} {tf : Nat → Int32} {h : AH} {Q : AH → Option Value → Prop}  (hi : i + 6 ≤ sN g) (hN : sN g ≤ 3072) (hd : 80 ≤ d) (hI : IV g h nt ik nti tf tl j) (K : ∀ h', IV g h' nt ik nti tf tl j → Ex g mL_law d kc ks 1647 [some (.ref (sB g)), some (.ref (g.1 + 0)), some (.ref (g.1 + 75)), some (.int (nI i))] [] h' Q) : Ex g mL_law d kc ks 1552 [some (.ref (sB g)), some (.ref (g.1 + 0)), some (.ref (g.1 + 75)), some (.int (nI i))] [] h Q := by
  have hI0 := hI
  obtain ⟨eJ, tB, t96, s, n, im, ni, S, L, wf, c, z, hC, hR, hP⟩ := hI
  have hCR := hC.2.1
  have p8 := hCR.2.1.2.1
  obtain ⟨rr, r1⟩ := hC.2.2.2.2.1
  refine ex_aload_n (pc := 1552) dL_law_1552 rfl ?_
  refine ex_aload_n (pc := 1553) dL_law_1553 rfl ?_
  refine ex_iload_n (pc := 1554) dL_law_1554 rfl ?_
  refine ex_iconst (pc := 1555) (v := (nI 1)) dL_law_1555 (by decide) ?_
  refine ex_iadd (pc := 1556) dL_law_1556 ?_
  refine ex_scr (pc := 1557) dL_law_1557 (by omega) hN ?_
  refine cx_VL1i (pc := 1558) dL_law_1558 lk_L_186 hC.1 rfl (Nat.le_of_ble_eq_true rfl) (Nat.le_of_ble_eq_true rfl) (by omega) (c_W_tell hC.1 hC.2.2.2.2.2.2.2 hP.2.2.2.2.2 (sv g (i + 1))) (fun h_1558 x_1558 q_1558 => ?_)
  obtain ⟨⟨y0, y1, u1⟩, y2⟩ := q_1558
  have C1 : CI g h_1558 s n nt ik im ni nti S L ((nTell wf c (sv g (i + 1))).1) ((nTell wf c (sv g (i + 1))).2) tf tl := ⟨y0, hC.2.1.fr u1 (fun k q z => by unfold rgX at q; unfold w046 at z; omega), hC.2.2.1.fr u1 (fun k q z => by unfold rgX at q; unfold w046 at z; omega), hC.2.2.2.1.fr u1 (fun k q z => by unfold thX at q; unfold w046 at z; omega), ⟨rr, r1.fr u1 (fun k q z => by unfold w046 at z; omega)⟩, hC.2.2.2.2.2.1.fr u1 (fun k q z => by unfold shX at q; unfold w046 at z; omega), hC.2.2.2.2.2.2.1.fr u1 (fun k q z => by unfold slX at q; unfold w046 at z; omega), y1⟩
  have R1 := hR.fr u1 (fun k z => by unfold w046 at z; omega)
  refine ex_aload_n (pc := 1561) dL_law_1561 rfl ?_
  refine ex_aload_n (pc := 1562) dL_law_1562 rfl ?_
  refine ex_iload_n (pc := 1563) dL_law_1563 rfl ?_
  refine ex_iconst (pc := 1564) (v := (nI 1)) dL_law_1564 (by decide) ?_
  refine ex_iadd (pc := 1565) dL_law_1565 ?_
  refine ex_scr (pc := 1566) dL_law_1566 (by omega) hN ?_
  refine cx_VL1i (pc := 1567) dL_law_1567 lk_L_189 R1.1.1.1 rfl (Nat.le_of_ble_eq_true rfl) (Nat.le_of_ble_eq_true rfl) (by omega) (c_M_tell R1.1 R1.2.1.2.2 R1.2.2.2.2.2.2.2 hP.2.2.2.2.2 (sv g (i + 1))) (fun h_1567 x_1567 q_1567 => ?_)
  obtain ⟨⟨y3, y5, u2⟩, y4⟩ := q_1567
  have C2 := C1.fr u2 (fun k z => by unfold m7593 at z; omega)
  have R2 : RI g h_1567 (upd z 30 (nI ((nTell wf c (sv g (i + 1))).2))) s n nt ik im S L ((nTell wf c (sv g (i + 1))).1) ((nTell wf c (sv g (i + 1))).2) tf tl := ⟨y3, ⟨(upd_ne (by decide)).trans R1.2.1.1, (upd_ne (by decide)).trans R1.2.1.2.1, upd_eq⟩, R1.2.2.1.fx u2 (fun k q z => by unfold m7593 at z; omega), u2.at (by unfold m7593; omega) (nscr (by omega)) R1.2.2.2.1, R1.2.2.2.2.1.fr u2 (fun k q z => by unfold smX at q; unfold m7593 at z; omega), R1.2.2.2.2.2.1.fr u2 (fun k q z => by unfold lmX at q; unfold m7593 at z; omega), u2.at (by unfold m7593; omega) (nscr (by omega)) R1.2.2.2.2.2.2.1, y5⟩
  refine bx_icmp_eq_t (pc := 1570) (tgt := 1647) dL_law_1570 (by decide) (by rw [y2, y4]) ?_
  exact K _ (IV.mk ((u2.1.trans u1.1).trans eJ) tB t96 C2 R2 ⟨hP.1, hP.2.1, hP.2.2.1, hP.2.2.2.1, hP.2.2.2.2.1, (by unfold nTell; split; exact (by omega); exact hP.2.2.2.2.2)⟩)
set_option maxHeartbeats 4000000 in
set_option maxRecDepth 100000 in
theorem lc_check {g : Gl} {d kc ks i nt nti tl j : Nat} {ik : Int32} {tf : Nat → Int32} {h : AH} {Q : AH → Option Value → Prop}  (hi : i + 6 ≤ sN g) (hN : sN g ≤ 3072) (hd : 80 ≤ d) (hI : IV g h nt ik nti tf tl j) (K : ∀ h', IV g h' nt ik nti tf tl j → Ex g mL_law d kc ks 1647 [some (.ref (sB g)), some (.ref (g.1 + 0)), some (.ref (g.1 + 75)), some (.int (nI i))] [] h' Q) : Ex g mL_law d kc ks 1575 [some (.ref (sB g)), some (.ref (g.1 + 0)), some (.ref (g.1 + 75)), some (.int (nI i))] [] h Q := by
  have hI0 := hI
  obtain ⟨eJ, tB, t96, s, n, im, ni, S, L, wf, c, z, hC, hR, hP⟩ := hI
  have hCR := hC.2.1
  have p8 := hCR.2.1.2.1
  obtain ⟨rr, r1⟩ := hC.2.2.2.2.1
  have ag : agr im (bkF im s 2890) := bk_agr im s
  obtain ⟨hr, cc, g1, g2, g3, g4⟩ := hP.1.2.2.2
  refine ex_aload_n (pc := 1575) dL_law_1575 rfl ?_
  refine ex_aload_n (pc := 1576) dL_law_1576 rfl ?_
  refine ex_iload_n (pc := 1577) dL_law_1577 rfl ?_
  refine ex_iconst (pc := 1578) (v := (nI 1)) dL_law_1578 (by decide) ?_
  refine ex_iadd (pc := 1579) dL_law_1579 ?_
  refine ex_scr (pc := 1580) dL_law_1580 (by omega) hN ?_
  refine cx_VL1i (pc := 1581) dL_law_1581 lk_L_190 hC.1 rfl (Nat.le_of_ble_eq_true rfl) (Nat.le_of_ble_eq_true rfl) (by omega) (c_W_check (im := (bkF im s 2890)) (ni := ni) (nti := nti) hC.1 hP.2.2.2.2.2 hC.2.2.2.2.2.2.2 hC.2.2.2.1 hP.2.1 (fun e => ⟨(hC.2.2.1.2 e).ag ag, ((hP.2.2.1 e).ag (hC.2.2.1.2 e).2.1.2.1 ag).ok ((hC.2.2.1.2 e).ag ag).2.1, (by obtain ⟨hr, cc, k1, k2, k3, k4⟩ := ((hP.2.2.1 e).ag (hC.2.2.1.2 e).2.1.2.1 ag).2.2.2; exact ⟨hr, k1, k3⟩)⟩) (by omega) (sv g (i + 1))) (fun h_1581 x_1581 q_1581 => ?_)
  obtain ⟨⟨y0, y1, u1⟩, y2⟩ := q_1581
  have C1 : CI g h_1581 s n nt ik im ni nti S L wf 0 tf tl := ⟨y0, hC.2.1.fr u1 (fun k q z => by unfold rgX at q; unfold w0t thX at z; omega), hC.2.2.1.fr u1 (fun k q z => by unfold rgX at q; unfold w0t thX at z; omega), y1, ⟨rr, r1.fr u1 (fun k q z => by unfold w0t thX at z; omega)⟩, hC.2.2.2.2.2.1.fr u1 (fun k q z => by unfold shX at q; unfold w0t thX at z; omega), hC.2.2.2.2.2.2.1.fr u1 (fun k q z => by unfold slX at q; unfold w0t thX at z; omega), u1.at (by unfold w0t thX; omega) (nscr (by omega)) hC.2.2.2.2.2.2.2⟩
  have R1 := hR.fr u1 (fun k z => by unfold w0t thX at z; omega)
  refine ex_aload_n (pc := 1584) dL_law_1584 rfl ?_
  refine ex_aload_n (pc := 1585) dL_law_1585 rfl ?_
  refine ex_iload_n (pc := 1586) dL_law_1586 rfl ?_
  refine ex_iconst (pc := 1587) (v := (nI 1)) dL_law_1587 (by decide) ?_
  refine ex_iadd (pc := 1588) dL_law_1588 ?_
  refine ex_scr (pc := 1589) dL_law_1589 (by omega) hN ?_
  refine cx_VL1i (pc := 1590) dL_law_1590 lk_L_193 R1.1.1.1 rfl (Nat.le_of_ble_eq_true rfl) (Nat.le_of_ble_eq_true rfl) (by omega) (c_M_check R1.1 R1.2.2.1 (im := im) (ni := ni) (nti := nti) R1.2.1.2.2 hP.2.2.2.2.2 R1.2.2.2.2.2.2.2 R1.2.2.2.1 (by rw [R1.2.1.1]; exact hP.2.1) (fun e => ⟨(hP.2.2.1 (R1.2.1.1.symm.trans e)).ok (hC.2.2.1.2 (R1.2.1.1.symm.trans e)).2.1, (hC.2.2.1.2 (R1.2.1.1.symm.trans e)).2.2.1, (by obtain ⟨hr, cc, k1, k2, k3, k4⟩ := (hP.2.2.1 (R1.2.1.1.symm.trans e)).2.2.2; exact ⟨hr, k1, k3⟩)⟩) (by omega) (sv g (i + 1))) (fun h_1590 x_1590 q_1590 => ?_)
  obtain ⟨⟨y3, y5, u2⟩, y4⟩ := q_1590
  have C2 := C1.fr u2 (fun k z => by unfold mckX mtX at z; omega)
  have R2 : RI g h_1590 (upd z 30 (nI 0)) s n nt ik im S L wf 0 tf tl := ⟨y3, ⟨(upd_ne (by decide)).trans R1.2.1.1, (upd_ne (by decide)).trans R1.2.1.2.1, upd_eq⟩, y5, u2.at (by unfold mckX mtX; omega) (nscr (by omega)) R1.2.2.2.1, R1.2.2.2.2.1.fr u2 (fun k q z => by unfold smX at q; unfold mckX mtX at z; omega), R1.2.2.2.2.2.1.fr u2 (fun k q z => by unfold lmX at q; unfold mckX mtX at z; omega), u2.at (by unfold mckX mtX; omega) (nscr (by omega)) R1.2.2.2.2.2.2.1, u2.at (by unfold mckX mtX; omega) (nsc2 (by omega)) R1.2.2.2.2.2.2.2⟩
  refine bx_icmp_eq_t (pc := 1593) (tgt := 1647) dL_law_1593 (by decide) (by rw [y2, y4, R1.2.1.1]) ?_
  exact K _ (IV.mk ((u2.1.trans u1.1).trans eJ) tB t96 C2 R2 ⟨hP.1, hP.2.1, hP.2.2.1, hP.2.2.2.1, hP.2.2.2.2.1, Nat.zero_le _⟩)
set_option maxHeartbeats 4000000 in
set_option maxRecDepth 100000 in
theorem lc_keep {g : Gl} {d kc ks i nt nti tl j : Nat} {ik : Int32} {tf : Nat → Int32} {h : AH} {Q : AH → Option Value → Prop}  (hi : i + 6 ≤ sN g) (hN : sN g ≤ 3072) (hd : 80 ≤ d) (hI : IV g h nt ik nti tf tl j) (K : ∀ h', IV g h' nt (nI 1) nt tf tl j → Ex g mL_law d kc ks 1647 [some (.ref (sB g)), some (.ref (g.1 + 0)), some (.ref (g.1 + 75)), some (.int (nI i))] [] h' Q) : Ex g mL_law d kc ks 1598 [some (.ref (sB g)), some (.ref (g.1 + 0)), some (.ref (g.1 + 75)), some (.int (nI i))] [] h Q := by
  have hI0 := hI
  obtain ⟨eJ, tB, t96, s, n, im, ni, S, L, wf, c, z, hC, hR, hP⟩ := hI
  have hCR := hC.2.1
  have p8 := hCR.2.1.2.1
  obtain ⟨rr, r1⟩ := hC.2.2.2.2.1
  refine ex_aload_n (pc := 1598) dL_law_1598 rfl ?_
  refine cx_VL0i (pc := 1599) dL_law_1599 lk_L_194 hC.1 rfl (Nat.le_of_ble_eq_true rfl) (Nat.le_of_ble_eq_true rfl) (by omega) (c_W_keep hC.1 hCR hC.2.2.1.1 (by omega)) (fun h_1599 x_1599 q_1599 => ?_)
  obtain ⟨⟨y0, y1, y5, u1⟩, y2⟩ := q_1599
  have C1 : CI g h_1599 s n nt (nI 1) (bkF s im 2890) n nt S L wf c tf tl := ⟨y0, y5, ⟨y1.sh, fun _ => y1.ag (bk_agr s im)⟩, hC.2.2.2.1.fr u1 (fun k q z => by unfold thX at q; unfold wkX rgX at z; omega), ⟨rr, r1.fr u1 (fun k q z => by unfold wkX rgX at z; omega)⟩, hC.2.2.2.2.2.1.fr u1 (fun k q z => by unfold shX at q; unfold wkX rgX at z; omega), hC.2.2.2.2.2.2.1.fr u1 (fun k q z => by unfold slX at q; unfold wkX rgX at z; omega), u1.at (by unfold wkX rgX; omega) (nscr (by omega)) hC.2.2.2.2.2.2.2⟩
  have R1 := hR.fr u1 (fun k z => by unfold wkX rgX at z; omega)
  refine ex_aload_n (pc := 1602) dL_law_1602 rfl ?_
  refine cx_VL0i (pc := 1603) dL_law_1603 lk_L_197 R1.1.1.1 rfl (Nat.le_of_ble_eq_true rfl) (Nat.le_of_ble_eq_true rfl) (by omega) (c_M_keep R1.1 R1.2.2.2.1 (by omega)) (fun h_1603 x_1603 q_1603 => ?_)
  obtain ⟨⟨y3, y6, u2⟩, y4⟩ := q_1603
  have C2 := C1.fr u2 (fun k z => by unfold m7577 at z; omega)
  have R2 : RI g h_1603 (upd z 3 (nI 1)) s n nt (nI 1) (bkF s im 2890) S L wf c tf tl := ⟨y3, ⟨upd_eq, (upd_ne (by decide)).trans R1.2.1.2.1, (upd_ne (by decide)).trans R1.2.1.2.2⟩, R1.2.2.1.fx u2 (fun k q z => by unfold m7577 at z; omega), y6, R1.2.2.2.2.1.fr u2 (fun k q z => by unfold smX at q; unfold m7577 at z; omega), R1.2.2.2.2.2.1.fr u2 (fun k q z => by unfold lmX at q; unfold m7577 at z; omega), u2.at (by unfold m7577; omega) (nscr (by omega)) R1.2.2.2.2.2.2.1, u2.at (by unfold m7577; omega) (nsc2 (by omega)) R1.2.2.2.2.2.2.2⟩
  refine bx_icmp_eq_t (pc := 1606) (tgt := 1647) dL_law_1606 (by decide) (by rw [y2, y4]) ?_
  exact K _ (IV.mk ((u2.1.trans u1.1).trans eJ) tB t96 C2 R2 ⟨hP.1, Or.inr rfl, fun _ => hP.1.ag p8 (bk_agr s im), hP.2.2.2⟩)
set_option maxHeartbeats 4000000 in
set_option maxRecDepth 100000 in
theorem lc_back_n {g : Gl} {d kc ks i nt nti tl j : Nat} {ik : Int32} {tf : Nat → Int32} {h : AH} {Q : AH → Option Value → Prop} (e0 : ik = 0) (hi : i + 6 ≤ sN g) (hN : sN g ≤ 3072) (hd : 80 ≤ d) (hI : IV g h nt ik nti tf tl j) (K : ∀ h', IV g h' nt ik nti tf tl j → Ex g mL_law d kc ks 1647 [some (.ref (sB g)), some (.ref (g.1 + 0)), some (.ref (g.1 + 75)), some (.int (nI i))] [] h' Q) : Ex g mL_law d kc ks 1611 [some (.ref (sB g)), some (.ref (g.1 + 0)), some (.ref (g.1 + 75)), some (.int (nI i))] [] h Q := by
  subst e0
  have hI0 := hI
  obtain ⟨eJ, tB, t96, s, n, im, ni, S, L, wf, c, z, hC, hR, hP⟩ := hI
  have hCR := hC.2.1
  have p8 := hCR.2.1.2.1
  have R1 := hR
  refine ex_aload_n (pc := 1611) dL_law_1611 rfl ?_
  refine cx_VL0i (pc := 1612) dL_law_1612 lk_L_198 hC.1 rfl (Nat.le_of_ble_eq_true rfl) (Nat.le_of_ble_eq_true rfl) (by omega) (c_W_back_n hC.1) (fun h_1612 x_1612 q_1612 => ?_)
  obtain ⟨e_1612, y2⟩ := q_1612
  rw [e_1612]
  refine ex_aload_n (pc := 1615) dL_law_1615 rfl ?_
  refine cx_VL0i (pc := 1616) dL_law_1616 lk_L_201 R1.1.1.1 rfl (Nat.le_of_ble_eq_true rfl) (Nat.le_of_ble_eq_true rfl) (by omega) (c_M_back_n R1.1.1 R1.2.1.1) (fun h_1616 x_1616 q_1616 => ?_)
  obtain ⟨e_1616, y4⟩ := q_1616
  rw [e_1616]
  refine bx_icmp_eq_t (pc := 1619) (tgt := 1647) dL_law_1619 (by decide) (by rw [y2, y4]) ?_
  exact K _ hI0
set_option maxHeartbeats 4000000 in
set_option maxRecDepth 100000 in
theorem lc_back_y {g : Gl} {d kc ks i nt nti tl j : Nat} {ik : Int32} {tf : Nat → Int32} {h : AH} {Q : AH → Option Value → Prop} (e1 : ik = nI 1) (hi : i + 6 ≤ sN g) (hN : sN g ≤ 3072) (hd : 80 ≤ d) (hI : IV g h nt ik nti tf tl j) (K : ∀ h', IV g h' nti (nI 1) nti tf tl j → Ex g mL_law d kc ks 1647 [some (.ref (sB g)), some (.ref (g.1 + 0)), some (.ref (g.1 + 75)), some (.int (nI i))] [] h' Q) : Ex g mL_law d kc ks 1611 [some (.ref (sB g)), some (.ref (g.1 + 0)), some (.ref (g.1 + 75)), some (.int (nI i))] [] h Q := by
  subst e1
  have hI0 := hI
  obtain ⟨eJ, tB, t96, s, n, im, ni, S, L, wf, c, z, hC, hR, hP⟩ := hI
  have hCR := hC.2.1
  have p8 := hCR.2.1.2.1
  obtain ⟨rr, r1⟩ := hC.2.2.2.2.1
  have ag : agr im (bkF im s 2890) := bk_agr im s
  have hI13 := hC.2.2.1.2 rfl
  refine ex_aload_n (pc := 1611) dL_law_1611 rfl ?_
  refine cx_VL0i (pc := 1612) dL_law_1612 lk_L_198 hC.1 rfl (Nat.le_of_ble_eq_true rfl) (Nat.le_of_ble_eq_true rfl) (by omega) (c_W_back_y hC.1 hI13 hCR.sh (by omega)) (fun h_1612 x_1612 q_1612 => ?_)
  obtain ⟨⟨y0, u1⟩, y2⟩ := q_1612
  have C1 : CI g h_1612 (bkF im s 2890) ni nti (nI 1) im ni nti S L wf c tf tl := ⟨u1.at (by unfold rgX; omega) (nscr (by omega)) hC.1, y0.ag ag, hC.2.2.1.fr u1 (fun k q z => by unfold rgX at q; unfold rgX at z; omega), hC.2.2.2.1.fr u1 (fun k q z => by unfold thX at q; unfold rgX at z; omega), ⟨rr, r1.fr u1 (fun k q z => by unfold rgX at z; omega)⟩, hC.2.2.2.2.2.1.fr u1 (fun k q z => by unfold shX at q; unfold rgX at z; omega), hC.2.2.2.2.2.2.1.fr u1 (fun k q z => by unfold slX at q; unfold rgX at z; omega), u1.at (by unfold rgX; omega) (nscr (by omega)) hC.2.2.2.2.2.2.2⟩
  have R1 := hR.fr u1 (fun k z => by unfold rgX at z; omega)
  refine ex_aload_n (pc := 1615) dL_law_1615 rfl ?_
  refine cx_VL0i (pc := 1616) dL_law_1616 lk_L_201 R1.1.1.1 rfl (Nat.le_of_ble_eq_true rfl) (Nat.le_of_ble_eq_true rfl) (by omega) (c_M_back_y R1.1 R1.2.1.1 R1.2.2.2.1 hI13.2.1 hI13.2.2.1 (by omega)) (fun h_1616 x_1616 q_1616 => ?_)
  obtain ⟨⟨y3, u2⟩, y4⟩ := q_1616
  have C2 := C1.fr u2 (fun k z => by have z : k = 76 := z; omega)
  have R2 : RI g h_1616 z (bkF im s 2890) ni nti (nI 1) im S L wf c tf tl := ⟨y3, R1.2.1, R1.2.2.1.fx u2 (fun k q z => by omega), u2.at (by omega) (nscr (by omega)) R1.2.2.2.1, R1.2.2.2.2.1.fr u2 (fun k q z => by unfold smX at q; omega), R1.2.2.2.2.2.1.fr u2 (fun k q z => by unfold lmX at q; omega), u2.at (by omega) (nscr (by omega)) R1.2.2.2.2.2.2.1, u2.at (by omega) (nsc2 (by omega)) R1.2.2.2.2.2.2.2⟩
  refine bx_icmp_eq_t (pc := 1619) (tgt := 1647) dL_law_1619 (by decide) (by rw [y2, y4]) ?_
  exact K _ (IV.mk ((u2.1.trans u1.1).trans eJ) tB t96 C2 R2 ⟨(hP.2.2.1 rfl).ag hI13.2.1.2.1 ag, hP.2⟩)
set_option maxHeartbeats 4000000 in
set_option maxRecDepth 100000 in
theorem lc_feed {g : Gl} {d kc ks i nt nti tl j : Nat} {ik : Int32} {tf : Nat → Int32} {h : AH} {Q : AH → Option Value → Prop}  (hi : i + 6 ≤ sN g) (hN : sN g ≤ 3072) (hd : 80 ≤ d) (hI : IV g h nt ik nti tf tl j) (K : ∀ h', IV g h' nt ik nti ((nFeed tf tl (sv g (i + 1)) (sv g (i + 2)) (sv g (i + 3))).1) ((nFeed tf tl (sv g (i + 1)) (sv g (i + 2)) (sv g (i + 3))).2) j → Ex g mL_law d kc ks 1647 [some (.ref (sB g)), some (.ref (g.1 + 0)), some (.ref (g.1 + 75)), some (.int (nI i))] [] h' Q) : Ex g mL_law d kc ks 1080 [some (.ref (sB g)), some (.ref (g.1 + 0)), some (.ref (g.1 + 75)), some (.int (nI i))] [] h Q := by
  have hI0 := hI
  obtain ⟨eJ, tB, t96, s, n, im, ni, S, L, wf, c, z, hC, hR, hP⟩ := hI
  have hCR := hC.2.1
  have p8 := hCR.2.1.2.1
  obtain ⟨rr, r1⟩ := hC.2.2.2.2.1
  have t97 : (nFeed tf tl (sv g (i + 1)) (sv g (i + 2)) (sv g (i + 3))).2 ≤ 96 := by unfold nFeed; split; exact (by assumption); exact t96
  refine ex_aload_n (pc := 1080) dL_law_1080 rfl ?_
  refine ex_aload_n (pc := 1081) dL_law_1081 rfl ?_
  refine ex_iload_n (pc := 1082) dL_law_1082 rfl ?_
  refine ex_iconst (pc := 1083) (v := (nI 1)) dL_law_1083 (by decide) ?_
  refine ex_iadd (pc := 1084) dL_law_1084 ?_
  refine ex_scr (pc := 1085) dL_law_1085 (by omega) hN ?_
  refine ex_aload_n (pc := 1086) dL_law_1086 rfl ?_
  refine ex_iload_n (pc := 1087) dL_law_1087 rfl ?_
  refine ex_iconst (pc := 1088) (v := (nI 2)) dL_law_1088 (by decide) ?_
  refine ex_iadd (pc := 1089) dL_law_1089 ?_
  refine ex_scr (pc := 1090) dL_law_1090 (by omega) hN ?_
  refine ex_aload_n (pc := 1091) dL_law_1091 rfl ?_
  refine ex_iload_n (pc := 1092) dL_law_1092 rfl ?_
  refine ex_iconst (pc := 1093) (v := (nI 3)) dL_law_1093 (by decide) ?_
  refine ex_iadd (pc := 1094) dL_law_1094 ?_
  refine ex_scr (pc := 1095) dL_law_1095 (by omega) hN ?_
  refine cx_VL3i (pc := 1096) dL_law_1096 lk_L_129 hC.1 rfl (Nat.le_of_ble_eq_true rfl) (Nat.le_of_ble_eq_true rfl) (by omega) (c_W_feed hC.1 r1.1.1 r1.1.2.2.1 r1.1.2.2.2 r1.1.2.1 (by omega) (sv g (i + 1)) (sv g (i + 2)) (sv g (i + 3))) (fun h_1096 x_1096 q_1096 => ?_)
  obtain ⟨⟨y0, y1, u1⟩, y2⟩ := q_1096
  have C1 : CI g h_1096 s n nt ik im ni nti S L wf c ((nFeed tf tl (sv g (i + 1)) (sv g (i + 2)) (sv g (i + 3))).1) ((nFeed tf tl (sv g (i + 1)) (sv g (i + 2)) (sv g (i + 3))).2) := ⟨u1.at (by unfold rdX; omega) (nscr (by omega)) hC.1, hC.2.1.fr u1 (fun k q z => by unfold rgX at q; unfold rdX at z; omega), hC.2.2.1.fr u1 (fun k q z => by unfold rgX at q; unfold rdX at z; omega), hC.2.2.2.1.fr u1 (fun k q z => by unfold thX at q; unfold rdX at z; omega), ⟨_, ⟨y0, y1, upd_eq, t97⟩, (by obtain ⟨q0, q⟩ := r1.2.1; exact ⟨q0, u1.at (by unfold rdX; omega) (nscr (by omega)) q⟩), (by obtain ⟨q0, q⟩ := r1.2.2; exact ⟨q0, u1.at (by unfold rdX; omega) (nscr (by omega)) q⟩)⟩, hC.2.2.2.2.2.1.fr u1 (fun k q z => by unfold shX at q; unfold rdX at z; omega), hC.2.2.2.2.2.2.1.fr u1 (fun k q z => by unfold slX at q; unfold rdX at z; omega), u1.at (by unfold rdX; omega) (nscr (by omega)) hC.2.2.2.2.2.2.2⟩
  have R1 := hR.fr u1 (fun k z => by unfold rdX at z; omega)
  refine ex_aload_n (pc := 1099) dL_law_1099 rfl ?_
  refine ex_aload_n (pc := 1100) dL_law_1100 rfl ?_
  refine ex_iload_n (pc := 1101) dL_law_1101 rfl ?_
  refine ex_iconst (pc := 1102) (v := (nI 1)) dL_law_1102 (by decide) ?_
  refine ex_iadd (pc := 1103) dL_law_1103 ?_
  refine ex_scr (pc := 1104) dL_law_1104 (by omega) hN ?_
  refine ex_aload_n (pc := 1105) dL_law_1105 rfl ?_
  refine ex_iload_n (pc := 1106) dL_law_1106 rfl ?_
  refine ex_iconst (pc := 1107) (v := (nI 2)) dL_law_1107 (by decide) ?_
  refine ex_iadd (pc := 1108) dL_law_1108 ?_
  refine ex_scr (pc := 1109) dL_law_1109 (by omega) hN ?_
  refine ex_aload_n (pc := 1110) dL_law_1110 rfl ?_
  refine ex_iload_n (pc := 1111) dL_law_1111 rfl ?_
  refine ex_iconst (pc := 1112) (v := (nI 3)) dL_law_1112 (by decide) ?_
  refine ex_iadd (pc := 1113) dL_law_1113 ?_
  refine ex_scr (pc := 1114) dL_law_1114 (by omega) hN ?_
  refine cx_VL3i (pc := 1115) dL_law_1115 lk_L_132 R1.1.1.1 rfl (Nat.le_of_ble_eq_true rfl) (Nat.le_of_ble_eq_true rfl) (by omega) (c_M_feed R1.1 R1.2.1.2.1 t96 R1.2.2.2.2.2.2.1 (sv g (i + 1)) (sv g (i + 2)) (sv g (i + 3))) (fun h_1115 x_1115 q_1115 => ?_)
  obtain ⟨⟨y3, y5, u2⟩, y4⟩ := q_1115
  have C2 := C1.fr u2 (fun k z => by unfold m7589 at z; omega)
  have R2 : RI g h_1115 (upd z 15 (nI ((nFeed tf tl (sv g (i + 1)) (sv g (i + 2)) (sv g (i + 3))).2))) s n nt ik im S L wf c ((nFeed tf tl (sv g (i + 1)) (sv g (i + 2)) (sv g (i + 3))).1) ((nFeed tf tl (sv g (i + 1)) (sv g (i + 2)) (sv g (i + 3))).2) := ⟨y3, ⟨(upd_ne (by decide)).trans R1.2.1.1, upd_eq, (upd_ne (by decide)).trans R1.2.1.2.2⟩, R1.2.2.1.fx u2 (fun k q z => by unfold m7589 at z; omega), u2.at (by unfold m7589; omega) (nscr (by omega)) R1.2.2.2.1, R1.2.2.2.2.1.fr u2 (fun k q z => by unfold smX at q; unfold m7589 at z; omega), R1.2.2.2.2.2.1.fr u2 (fun k q z => by unfold lmX at q; unfold m7589 at z; omega), y5, u2.at (by unfold m7589; omega) (nsc2 (by omega)) R1.2.2.2.2.2.2.2⟩
  refine bx_icmp_eq_t (pc := 1118) (tgt := 1647) dL_law_1118 (by decide) (by rw [y2, y4]) ?_
  exact K _ (IV.mk ((u2.1.trans u1.1).trans eJ) (g_feed tB _ _ _) t97 C2 R2 hP)
set_option maxHeartbeats 4000000 in
set_option maxRecDepth 100000 in
theorem lc_trim {g : Gl} {d kc ks i nt nti tl j : Nat} {ik : Int32} {tf : Nat → Int32} {h : AH} {Q : AH → Option Value → Prop}  (hi : i + 6 ≤ sN g) (hN : sN g ≤ 3072) (hd : 80 ≤ d) (hI : IV g h nt ik nti tf tl j) (K : ∀ h', IV g h' nt ik nti tf (nTrim tl (sv g (i + 1))) j → Ex g mL_law d kc ks 1647 [some (.ref (sB g)), some (.ref (g.1 + 0)), some (.ref (g.1 + 75)), some (.int (nI i))] [] h' Q) : Ex g mL_law d kc ks 1123 [some (.ref (sB g)), some (.ref (g.1 + 0)), some (.ref (g.1 + 75)), some (.int (nI i))] [] h Q := by
  have hI0 := hI
  obtain ⟨eJ, tB, t96, s, n, im, ni, S, L, wf, c, z, hC, hR, hP⟩ := hI
  have hCR := hC.2.1
  have p8 := hCR.2.1.2.1
  obtain ⟨rr, r1⟩ := hC.2.2.2.2.1
  have t97 : (nTrim tl (sv g (i + 1))) ≤ 96 := by
    unfold nTrim
    split
    · rename_i q
      obtain ⟨x, hx, e⟩ := bw_ex q
      unfold ixI
      rw [e, iK (by omega)]; omega
    · exact t96
  refine ex_aload_n (pc := 1123) dL_law_1123 rfl ?_
  refine ex_aload_n (pc := 1124) dL_law_1124 rfl ?_
  refine ex_iload_n (pc := 1125) dL_law_1125 rfl ?_
  refine ex_iconst (pc := 1126) (v := (nI 1)) dL_law_1126 (by decide) ?_
  refine ex_iadd (pc := 1127) dL_law_1127 ?_
  refine ex_scr (pc := 1128) dL_law_1128 (by omega) hN ?_
  refine cx_VL1i (pc := 1129) dL_law_1129 lk_L_133 hC.1 rfl (Nat.le_of_ble_eq_true rfl) (Nat.le_of_ble_eq_true rfl) (by omega) (c_W_trim hC.1 r1.1.1 r1.1.2.2.1 r1.1.2.2.2 (by omega) (sv g (i + 1))) (fun h_1129 x_1129 q_1129 => ?_)
  obtain ⟨⟨y0, u1⟩, y2⟩ := q_1129
  have C1 : CI g h_1129 s n nt ik im ni nti S L wf c tf (nTrim tl (sv g (i + 1))) := ⟨u1.at (by omega) (nscr (by omega)) hC.1, hC.2.1.fr u1 (fun k q z => by unfold rgX at q; omega), hC.2.2.1.fr u1 (fun k q z => by unfold rgX at q; omega), hC.2.2.2.1.fr u1 (fun k q z => by unfold thX at q; omega), ⟨_, ⟨y0, u1.at (by omega) (nscr (by omega)) r1.1.2.1, upd_eq, t97⟩, (by obtain ⟨q0, q⟩ := r1.2.1; exact ⟨q0, u1.at (by omega) (nscr (by omega)) q⟩), (by obtain ⟨q0, q⟩ := r1.2.2; exact ⟨q0, u1.at (by omega) (nscr (by omega)) q⟩)⟩, hC.2.2.2.2.2.1.fr u1 (fun k q z => by unfold shX at q; omega), hC.2.2.2.2.2.2.1.fr u1 (fun k q z => by unfold slX at q; omega), u1.at (by omega) (nscr (by omega)) hC.2.2.2.2.2.2.2⟩
  have R1 := hR.fr u1 (fun k z => by have z : k = 40 := z; omega)
  refine ex_aload_n (pc := 1132) dL_law_1132 rfl ?_
  refine ex_aload_n (pc := 1133) dL_law_1133 rfl ?_
  refine ex_iload_n (pc := 1134) dL_law_1134 rfl ?_
  refine ex_iconst (pc := 1135) (v := (nI 1)) dL_law_1135 (by decide) ?_
  refine ex_iadd (pc := 1136) dL_law_1136 ?_
  refine ex_scr (pc := 1137) dL_law_1137 (by omega) hN ?_
  refine cx_VL1i (pc := 1138) dL_law_1138 lk_L_136 R1.1.1.1 rfl (Nat.le_of_ble_eq_true rfl) (Nat.le_of_ble_eq_true rfl) (by omega) (c_M_trim R1.1 R1.2.1.2.1 t96 (by omega) (sv g (i + 1))) (fun h_1138 x_1138 q_1138 => ?_)
  obtain ⟨⟨y3, u2⟩, y4⟩ := q_1138
  have C2 := C1.fr u2 (fun k z => by have z : k = 75 := z; omega)
  have R2 : RI g h_1138 (upd z 15 (nI (nTrim tl (sv g (i + 1))))) s n nt ik im S L wf c tf (nTrim tl (sv g (i + 1))) := ⟨y3, ⟨(upd_ne (by decide)).trans R1.2.1.1, upd_eq, (upd_ne (by decide)).trans R1.2.1.2.2⟩, R1.2.2.1.fx u2 (fun k q z => by omega), u2.at (by omega) (nscr (by omega)) R1.2.2.2.1, R1.2.2.2.2.1.fr u2 (fun k q z => by unfold smX at q; omega), R1.2.2.2.2.2.1.fr u2 (fun k q z => by unfold lmX at q; omega), u2.at (by omega) (nscr (by omega)) R1.2.2.2.2.2.2.1, u2.at (by omega) (nsc2 (by omega)) R1.2.2.2.2.2.2.2⟩
  refine bx_icmp_eq_t (pc := 1141) (tgt := 1647) dL_law_1141 (by decide) (by rw [y2, y4]) ?_
  exact K _ (IV.mk ((u2.1.trans u1.1).trans eJ) tB t97 C2 R2 hP)
