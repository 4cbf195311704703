section
theorem lc_0 {G : aG} {F : aF} {o : wO} {n s i L : Nat} {wx wm : wS} {u : Nat → Int64} {t : Tn} {z : Sy} {xs : Nat → Int32} {Q : aR → Prop} (hG : aGood G) (hT : aTxt G) (hX : aScr G L xs) (hN : aNc G) (h : LH F o n s) (r : RR t z o wx wm) (hi : i + 6 ≤ L) (hL : L ≤ 3072) (ih : IHs G i n s Q) : ∃ R, Q R ∧ AG G ML_law 244 (lsL i) [] (F wx wm u) R := by
  obtain ⟨rx, rm, e1, e2, hq⟩ := q_feed (a1 := xs (i + 1)) (a2 := xs (i + 2)) (a3 := xs (i + 3)) (a4 := xs (i + 4)) (a5 := xs (i + 5)) r
  obtain ⟨⟨z1, rr⟩, eq⟩ := hq
  have hx := h.1 wm u
  have hm := h.2.1 rx.2 u
  obtain ⟨R, hQ, K⟩ := ih F o t z1 rx.2 rm.2 u n s h rr (by omega) (by omega)
  refine ⟨R, hQ, ?_⟩
  refine g_aload_n dL_law_244 rfl rfl ?_
  refine g_arg (i := i) (j := 1) hX (v := 1) dL_law_245 dL_law_246 dL_law_248 dL_law_249 dL_law_250 rfl rfl rfl (by omega) hL ?_
  refine g_arg (i := i) (j := 2) hX (v := 2) dL_law_251 dL_law_252 dL_law_254 dL_law_255 dL_law_256 rfl rfl rfl (by omega) hL ?_
  refine g_arg (i := i) (j := 3) hX (v := 3) dL_law_257 dL_law_258 dL_law_260 dL_law_261 dL_law_262 rfl rfl rfl (by omega) hL ?_
  refine g_arg (i := i) (j := 4) hX (v := 4) dL_law_263 dL_law_264 dL_law_266 dL_law_267 dL_law_268 rfl rfl rfl (by omega) hL ?_
  refine g_arg (i := i) (j := 5) hX (v := 5) dL_law_269 dL_law_270 dL_law_272 dL_law_273 dL_law_274 rfl rfl rfl (by omega) hL ?_
  refine g_callV (M' := M_X9_feed) (as := [.int (xs (i + 1)), .int (xs (i + 2)), .int (xs (i + 3)), .int (xs (i + 4)), .int (xs (i + 5))]) (v := (some (.int rx.1))) l_L_138 kV_X9_feed (by decide) (C_X9_feed hG hx e1) rfl (by decide) (hx.1.2.1 wx 0 _ rfl) ⟨_, _, rfl⟩ (Nat.le_of_ble_eq_true rfl) dL_law_275 ?_
  refine g_aload_n dL_law_278 rfl rfl ?_
  refine g_arg (i := i) (j := 1) hX (v := 1) dL_law_279 dL_law_280 dL_law_282 dL_law_283 dL_law_284 rfl rfl rfl (by omega) hL ?_
  refine g_arg (i := i) (j := 2) hX (v := 2) dL_law_285 dL_law_286 dL_law_288 dL_law_289 dL_law_290 rfl rfl rfl (by omega) hL ?_
  refine g_arg (i := i) (j := 3) hX (v := 3) dL_law_291 dL_law_292 dL_law_294 dL_law_295 dL_law_296 rfl rfl rfl (by omega) hL ?_
  refine g_arg (i := i) (j := 4) hX (v := 4) dL_law_297 dL_law_298 dL_law_300 dL_law_301 dL_law_302 rfl rfl rfl (by omega) hL ?_
  refine g_arg (i := i) (j := 5) hX (v := 5) dL_law_303 dL_law_304 dL_law_306 dL_law_307 dL_law_308 rfl rfl rfl (by omega) hL ?_
  refine g_callV (M' := M_X10_feed) (as := [.int (xs (i + 1)), .int (xs (i + 2)), .int (xs (i + 3)), .int (xs (i + 4)), .int (xs (i + 5))]) (v := (some (.int rm.1))) l_L_142 kV_X10_feed (by decide) (C_X10_feed hm e2) rfl (by decide) (hm.2.1 wm 0 _ rfl) ⟨_, _, rfl⟩ (Nat.le_of_ble_eq_true rfl) dL_law_309 ?_
  exact g_icmp_eq (tgt := 2947) dL_law_312 (by decide) (fun _ => K) (fun q => absurd eq.symm q)
theorem lc_1 {G : aG} {F : aF} {o : wO} {n s i L : Nat} {wx wm : wS} {u : Nat → Int64} {t : Tn} {z : Sy} {xs : Nat → Int32} {Q : aR → Prop} (hG : aGood G) (hT : aTxt G) (hX : aScr G L xs) (hN : aNc G) (h : LH F o n s) (r : RR t z o wx wm) (hi : i + 6 ≤ L) (hL : L ≤ 3072) (ih : IHs G i n s Q) : ∃ R, Q R ∧ AG G ML_law 317 (lsL i) [] (F wx wm u) R := by
  obtain ⟨w', rm, o1, t1, F1, n1, s1, u1, k, e2, h1, ⟨b1, b2⟩, ha, ⟨z1, rr⟩, ek, ev⟩ := wr_town (a1 := xs (i + 1)) (u := u) hG hT hN h r
  obtain ⟨R, hQ, K⟩ := ih F1 o1 t1 z1 w' rm.2 u1 n1 s1 h1 rr (by omega) (by omega)
  have hm := h1.2.1 w' u1
  have ho := h1.2.2.1 w' rm.2 u1
  refine ⟨R, hQ, ?_⟩
  refine g_aload_n dL_law_317 rfl rfl ?_
  refine g_arg (i := i) (j := 1) hX (v := 1) dL_law_318 dL_law_319 dL_law_321 dL_law_322 dL_law_323 rfl rfl rfl (by omega) hL ?_
  refine g_aload_n dL_law_324 rfl rfl ?_
  refine g_callH (M' := ML_town) (as := [.ref 40, .int (xs (i + 1)), .ref 132]) (v := some (.int k)) (aIn1 643 (by decide +kernel) rfl) kH_town (by decide) ha rfl (Nat.le_of_ble_eq_true rfl) dL_law_325 ?_
  refine g_istore dL_law_328 (by decide) rfl ?_
  refine g_aload_n dL_law_330 rfl rfl ?_
  refine g_arg (i := i) (j := 1) hX (v := 1) dL_law_331 dL_law_332 dL_law_334 dL_law_335 dL_law_336 rfl rfl rfl (by omega) hL ?_
  refine g_callV (M' := M_X10_town) (as := [.int (xs (i + 1))]) (v := some (.int rm.1)) l_L_148 kV_X10_town (by decide) (C_X10_town hm e2) rfl (by decide) (hm.2.1 wm 0 _ rfl) ⟨_, _, rfl⟩ (Nat.le_of_ble_eq_true rfl) dL_law_337 ?_
  refine g_istore dL_law_340 (by decide) rfl ?_
  refine g_aload_n dL_law_342 rfl rfl ?_
  refine g_callV (M' := M_X10_thrown) (as := []) (v := some (.int (rm.2.1 0))) l_L_149 kV_X10_thrown (by decide) (C_X10_thrown hm (thrown_s rm.2)) rfl (by decide) (hm.2.1 rm.2 0 _ rfl) ⟨_, _, rfl⟩ (Nat.le_of_ble_eq_true rfl) dL_law_343 ?_
  refine g_iload dL_law_346 rfl ?_
  refine g_icmp_eq (tgt := 353) dL_law_348 (by decide) (fun _ => ?_) (fun q => absurd ek q)
  refine g_iload dL_law_353 rfl ?_
  have fin : AG G ML_law 370 [some (.ref 0), some (.ref 40), some (.ref 100), some (.ref 132), some (.int (nI i)), some (.int k), some (.int rm.1)] [] (F1 w' rm.2 u1) R := by
    refine g_goto (tgt := 2947) dL_law_370 (by decide) ?_
    refine g_none 5 ?_
    refine g_none 6 ?_
    exact K
  refine g_if_ne (tgt := 370) dL_law_355 (by decide) (fun _ => fin) (fun q => ?_)
  have hk0 : k = 0 := q
  refine g_aload_n dL_law_358 rfl rfl ?_
  refine g_iconst (v := 0) dL_law_359 (by decide) ?_
  refine g_lald dL_law_360 (by decide) ho vp01 ?_
  refine g_iload dL_law_361 rfl ?_
  refine g_i2l dL_law_363 ?_
  refine g_lcmp dL_law_364 ?_
  exact g_if_eq (tgt := 370) dL_law_365 (by decide) (fun _ => fin) (fun q => absurd (lg_0.2 (ev hk0)) q)
theorem lc_2 {G : aG} {F : aF} {o : wO} {n s i L : Nat} {wx wm : wS} {u : Nat → Int64} {t : Tn} {z : Sy} {xs : Nat → Int32} {Q : aR → Prop} (hG : aGood G) (hT : aTxt G) (hX : aScr G L xs) (hN : aNc G) (h : LH F o n s) (r : RR t z o wx wm) (hi : i + 6 ≤ L) (hL : L ≤ 3072) (ih : IHs G i n s Q) : ∃ R, Q R ∧ AG G ML_law 373 (lsL i) [] (F wx wm u) R := by
  obtain ⟨rx, rm, e1, e2, hq⟩ := q_fault  r
  obtain ⟨⟨z1, rr⟩, eq⟩ := hq
  have hx := h.1 wm u
  have hm := h.2.1 rx.2 u
  obtain ⟨R, hQ, K⟩ := ih F o t z1 rx.2 rm.2 u n s h rr (by omega) (by omega)
  refine ⟨R, hQ, ?_⟩
  refine g_aload_n dL_law_373 rfl rfl ?_
  refine g_callV (M' := M_X9_fault) (as := []) (v := (some (.int rx.1))) l_L_153 kV_X9_fault (by decide) (C_X9_fault hG hx e1) rfl (by decide) (hx.1.2.1 wx 0 _ rfl) ⟨_, _, rfl⟩ (Nat.le_of_ble_eq_true rfl) dL_law_374 ?_
  refine g_aload_n dL_law_377 rfl rfl ?_
  refine g_callV (M' := M_X10_fault) (as := []) (v := (some (.int rm.1))) l_L_156 kV_X10_fault (by decide) (C_X10_fault hm e2) rfl (by decide) (hm.2.1 wm 0 _ rfl) ⟨_, _, rfl⟩ (Nat.le_of_ble_eq_true rfl) dL_law_378 ?_
  exact g_icmp_eq (tgt := 2947) dL_law_381 (by decide) (fun _ => K) (fun q => absurd eq.symm q)
theorem lc_3 {G : aG} {F : aF} {o : wO} {n s i L : Nat} {wx wm : wS} {u : Nat → Int64} {t : Tn} {z : Sy} {xs : Nat → Int32} {Q : aR → Prop} (hG : aGood G) (hT : aTxt G) (hX : aScr G L xs) (hN : aNc G) (h : LH F o n s) (r : RR t z o wx wm) (hi : i + 6 ≤ L) (hL : L ≤ 3072) (ih : IHs G i n s Q) : ∃ R, Q R ∧ AG G ML_law 386 (lsL i) [] (F wx wm u) R := by
  obtain ⟨w', rm, F1, n1, s1, u1, k, e2, h1, ⟨b1, b2⟩, ha, ⟨z1, rr⟩, ek, ev⟩ := wr_count (a1 := xs (i + 1)) (u := u) hG hN h r
  obtain ⟨R, hQ, K⟩ := ih F1 o t z1 w' rm.2 u1 n1 s1 h1 rr (by omega) (by omega)
  have hm := h1.2.1 w' u1
  have ho := h1.2.2.1 w' rm.2 u1
  refine ⟨R, hQ, ?_⟩
  refine g_aload_n dL_law_386 rfl rfl ?_
  refine g_arg (i := i) (j := 1) hX (v := 1) dL_law_387 dL_law_388 dL_law_390 dL_law_391 dL_law_392 rfl rfl rfl (by omega) hL ?_
  refine g_aload_n dL_law_393 rfl rfl ?_
  refine g_callH (M' := ML_count) (as := [.ref 40, .int (xs (i + 1)), .ref 132]) (v := some (.int k)) (aIn1 916 (by decide +kernel) rfl) kH_count (by decide) ha rfl (Nat.le_of_ble_eq_true rfl) dL_law_394 ?_
  refine g_istore dL_law_397 (by decide) rfl ?_
  refine g_aload_n dL_law_399 rfl rfl ?_
  refine g_arg (i := i) (j := 1) hX (v := 1) dL_law_400 dL_law_401 dL_law_403 dL_law_404 dL_law_405 rfl rfl rfl (by omega) hL ?_
  refine g_callV (M' := M_X10_count) (as := [.int (xs (i + 1))]) (v := some (.int rm.1)) l_L_159 kV_X10_count (by decide) (C_X10_count hm e2) rfl (by decide) (hm.2.1 wm 0 _ rfl) ⟨_, _, rfl⟩ (Nat.le_of_ble_eq_true rfl) dL_law_406 ?_
  refine g_istore dL_law_409 (by decide) rfl ?_
  refine g_aload_n dL_law_411 rfl rfl ?_
  refine g_callV (M' := M_X10_thrown) (as := []) (v := some (.int (rm.2.1 0))) l_L_149 kV_X10_thrown (by decide) (C_X10_thrown hm (thrown_s rm.2)) rfl (by decide) (hm.2.1 rm.2 0 _ rfl) ⟨_, _, rfl⟩ (Nat.le_of_ble_eq_true rfl) dL_law_412 ?_
  refine g_iload dL_law_415 rfl ?_
  refine g_icmp_eq (tgt := 422) dL_law_417 (by decide) (fun _ => ?_) (fun q => absurd ek q)
  refine g_iload dL_law_422 rfl ?_
  have fin : AG G ML_law 439 [some (.ref 0), some (.ref 40), some (.ref 100), some (.ref 132), some (.int (nI i)), some (.int k), some (.int rm.1)] [] (F1 w' rm.2 u1) R := by
    refine g_goto (tgt := 2947) dL_law_439 (by decide) ?_
    refine g_none 5 ?_
    refine g_none 6 ?_
    exact K
  refine g_if_ne (tgt := 439) dL_law_424 (by decide) (fun _ => fin) (fun q => ?_)
  have hk0 : k = 0 := q
  refine g_aload_n dL_law_427 rfl rfl ?_
  refine g_iconst (v := 0) dL_law_428 (by decide) ?_
  refine g_lald dL_law_429 (by decide) ho vp01 ?_
  refine g_iload dL_law_430 rfl ?_
  refine g_i2l dL_law_432 ?_
  refine g_lcmp dL_law_433 ?_
  exact g_if_eq (tgt := 439) dL_law_434 (by decide) (fun _ => fin) (fun q => absurd (lg_0.2 (ev hk0)) q)
theorem lc_4 {G : aG} {F : aF} {o : wO} {n s i L : Nat} {wx wm : wS} {u : Nat → Int64} {t : Tn} {z : Sy} {xs : Nat → Int32} {Q : aR → Prop} (hG : aGood G) (hT : aTxt G) (hX : aScr G L xs) (hN : aNc G) (h : LH F o n s) (r : RR t z o wx wm) (hi : i + 6 ≤ L) (hL : L ≤ 3072) (ih : IHs G i n s Q) : ∃ R, Q R ∧ AG G ML_law 442 (lsL i) [] (F wx wm u) R := by
  obtain ⟨w', rm, F1, n1, s1, u1, k, e2, h1, ⟨b1, b2⟩, ha, ⟨z1, rr⟩, ek, ev⟩ := wr_person (a1 := xs (i + 1)) (a2 := xs (i + 2)) (u := u) hG hN h r
  obtain ⟨R, hQ, K⟩ := ih F1 o t z1 w' rm.2 u1 n1 s1 h1 rr (by omega) (by omega)
  have hm := h1.2.1 w' u1
  have ho := h1.2.2.1 w' rm.2 u1
  refine ⟨R, hQ, ?_⟩
  refine g_aload_n dL_law_442 rfl rfl ?_
  refine g_arg (i := i) (j := 1) hX (v := 1) dL_law_443 dL_law_444 dL_law_446 dL_law_447 dL_law_448 rfl rfl rfl (by omega) hL ?_
  refine g_arg (i := i) (j := 2) hX (v := 2) dL_law_449 dL_law_450 dL_law_452 dL_law_453 dL_law_454 rfl rfl rfl (by omega) hL ?_
  refine g_aload_n dL_law_455 rfl rfl ?_
  refine g_callH (M' := ML_person) (as := [.ref 40, .int (xs (i + 1)), .int (xs (i + 2)), .ref 132]) (v := some (.int k)) (aIn1 949 (by decide +kernel) rfl) kH_person (by decide) ha rfl (Nat.le_of_ble_eq_true rfl) dL_law_456 ?_
  refine g_istore dL_law_459 (by decide) rfl ?_
  refine g_aload_n dL_law_461 rfl rfl ?_
  refine g_arg (i := i) (j := 1) hX (v := 1) dL_law_462 dL_law_463 dL_law_465 dL_law_466 dL_law_467 rfl rfl rfl (by omega) hL ?_
  refine g_arg (i := i) (j := 2) hX (v := 2) dL_law_468 dL_law_469 dL_law_471 dL_law_472 dL_law_473 rfl rfl rfl (by omega) hL ?_
  refine g_callV (M' := M_X10_person) (as := [.int (xs (i + 1)), .int (xs (i + 2))]) (v := some (.int rm.1)) l_L_163 kV_X10_person (by decide) (C_X10_person hm e2) rfl (by decide) (hm.2.1 wm 0 _ rfl) ⟨_, _, rfl⟩ (Nat.le_of_ble_eq_true rfl) dL_law_474 ?_
  refine g_istore dL_law_477 (by decide) rfl ?_
  refine g_aload_n dL_law_479 rfl rfl ?_
  refine g_callV (M' := M_X10_thrown) (as := []) (v := some (.int (rm.2.1 0))) l_L_149 kV_X10_thrown (by decide) (C_X10_thrown hm (thrown_s rm.2)) rfl (by decide) (hm.2.1 rm.2 0 _ rfl) ⟨_, _, rfl⟩ (Nat.le_of_ble_eq_true rfl) dL_law_480 ?_
  refine g_iload dL_law_483 rfl ?_
  refine g_icmp_eq (tgt := 490) dL_law_485 (by decide) (fun _ => ?_) (fun q => absurd ek q)
  refine g_iload dL_law_490 rfl ?_
  have fin : AG G ML_law 507 [some (.ref 0), some (.ref 40), some (.ref 100), some (.ref 132), some (.int (nI i)), some (.int k), some (.int rm.1)] [] (F1 w' rm.2 u1) R := by
    refine g_goto (tgt := 2947) dL_law_507 (by decide) ?_
    refine g_none 5 ?_
    refine g_none 6 ?_
    exact K
  refine g_if_ne (tgt := 507) dL_law_492 (by decide) (fun _ => fin) (fun q => ?_)
  have hk0 : k = 0 := q
  refine g_aload_n dL_law_495 rfl rfl ?_
  refine g_iconst (v := 0) dL_law_496 (by decide) ?_
  refine g_lald dL_law_497 (by decide) ho vp01 ?_
  refine g_iload dL_law_498 rfl ?_
  refine g_i2l dL_law_500 ?_
  refine g_lcmp dL_law_501 ?_
  exact g_if_eq (tgt := 507) dL_law_502 (by decide) (fun _ => fin) (fun q => absurd (lg_0.2 (ev hk0)) q)
theorem lc_5 {G : aG} {F : aF} {o : wO} {n s i L : Nat} {wx wm : wS} {u : Nat → Int64} {t : Tn} {z : Sy} {xs : Nat → Int32} {Q : aR → Prop} (hG : aGood G) (hT : aTxt G) (hX : aScr G L xs) (hN : aNc G) (h : LH F o n s) (r : RR t z o wx wm) (hi : i + 6 ≤ L) (hL : L ≤ 3072) (ih : IHs G i n s Q) : ∃ R, Q R ∧ AG G ML_law 510 (lsL i) [] (F wx wm u) R := by
  obtain ⟨w', rm, F1, n1, s1, u1, k, e2, h1, ⟨b1, b2⟩, ha, ⟨z1, rr⟩, ek, ev⟩ := wr_duty (a1 := xs (i + 1)) (a2 := xs (i + 2)) (u := u) hG hN h r
  obtain ⟨R, hQ, K⟩ := ih F1 o t z1 w' rm.2 u1 n1 s1 h1 rr (by omega) (by omega)
  have hm := h1.2.1 w' u1
  have ho := h1.2.2.1 w' rm.2 u1
  refine ⟨R, hQ, ?_⟩
  refine g_aload_n dL_law_510 rfl rfl ?_
  refine g_arg (i := i) (j := 1) hX (v := 1) dL_law_511 dL_law_512 dL_law_514 dL_law_515 dL_law_516 rfl rfl rfl (by omega) hL ?_
  refine g_arg (i := i) (j := 2) hX (v := 2) dL_law_517 dL_law_518 dL_law_520 dL_law_521 dL_law_522 rfl rfl rfl (by omega) hL ?_
  refine g_aload_n dL_law_523 rfl rfl ?_
  refine g_callH (M' := ML_duty) (as := [.ref 40, .int (xs (i + 1)), .int (xs (i + 2)), .ref 132]) (v := some (.int k)) (aIn1 965 (by decide +kernel) rfl) kH_duty (by decide) ha rfl (Nat.le_of_ble_eq_true rfl) dL_law_524 ?_
  refine g_istore dL_law_527 (by decide) rfl ?_
  refine g_aload_n dL_law_529 rfl rfl ?_
  refine g_arg (i := i) (j := 1) hX (v := 1) dL_law_530 dL_law_531 dL_law_533 dL_law_534 dL_law_535 rfl rfl rfl (by omega) hL ?_
  refine g_arg (i := i) (j := 2) hX (v := 2) dL_law_536 dL_law_537 dL_law_539 dL_law_540 dL_law_541 rfl rfl rfl (by omega) hL ?_
  refine g_callV (M' := M_X10_duty) (as := [.int (xs (i + 1)), .int (xs (i + 2))]) (v := some (.int rm.1)) l_L_166 kV_X10_duty (by decide) (C_X10_duty hm e2) rfl (by decide) (hm.2.1 wm 0 _ rfl) ⟨_, _, rfl⟩ (Nat.le_of_ble_eq_true rfl) dL_law_542 ?_
  refine g_istore dL_law_545 (by decide) rfl ?_
  refine g_aload_n dL_law_547 rfl rfl ?_
  refine g_callV (M' := M_X10_thrown) (as := []) (v := some (.int (rm.2.1 0))) l_L_149 kV_X10_thrown (by decide) (C_X10_thrown hm (thrown_s rm.2)) rfl (by decide) (hm.2.1 rm.2 0 _ rfl) ⟨_, _, rfl⟩ (Nat.le_of_ble_eq_true rfl) dL_law_548 ?_
  refine g_iload dL_law_551 rfl ?_
  refine g_icmp_eq (tgt := 558) dL_law_553 (by decide) (fun _ => ?_) (fun q => absurd ek q)
  refine g_iload dL_law_558 rfl ?_
  have fin : AG G ML_law 575 [some (.ref 0), some (.ref 40), some (.ref 100), some (.ref 132), some (.int (nI i)), some (.int k), some (.int rm.1)] [] (F1 w' rm.2 u1) R := by
    refine g_goto (tgt := 2947) dL_law_575 (by decide) ?_
    refine g_none 5 ?_
    refine g_none 6 ?_
    exact K
  refine g_if_ne (tgt := 575) dL_law_560 (by decide) (fun _ => fin) (fun q => ?_)
  have hk0 : k = 0 := q
  refine g_aload_n dL_law_563 rfl rfl ?_
  refine g_iconst (v := 0) dL_law_564 (by decide) ?_
  refine g_lald dL_law_565 (by decide) ho vp01 ?_
  refine g_iload dL_law_566 rfl ?_
  refine g_i2l dL_law_568 ?_
  refine g_lcmp dL_law_569 ?_
  exact g_if_eq (tgt := 575) dL_law_570 (by decide) (fun _ => fin) (fun q => absurd (lg_0.2 (ev hk0)) q)
theorem lc_6 {G : aG} {F : aF} {o : wO} {n s i L : Nat} {wx wm : wS} {u : Nat → Int64} {t : Tn} {z : Sy} {xs : Nat → Int32} {Q : aR → Prop} (hG : aGood G) (hT : aTxt G) (hX : aScr G L xs) (hN : aNc G) (h : LH F o n s) (r : RR t z o wx wm) (hi : i + 6 ≤ L) (hL : L ≤ 3072) (ih : IHs G i n s Q) : ∃ R, Q R ∧ AG G ML_law 578 (lsL i) [] (F wx wm u) R := by
  obtain ⟨rx, rm, e1, e2, hq⟩ := q_days (a1 := xs (i + 1)) r
  obtain ⟨⟨z1, rr⟩, eq⟩ := hq
  have hx := h.1 wm u
  have hm := h.2.1 rx.2 u
  obtain ⟨R, hQ, K⟩ := ih F o t z1 rx.2 rm.2 u n s h rr (by omega) (by omega)
  refine ⟨R, hQ, ?_⟩
  refine g_aload_n dL_law_578 rfl rfl ?_
  refine g_arg (i := i) (j := 1) hX (v := 1) dL_law_579 dL_law_580 dL_law_582 dL_law_583 dL_law_584 rfl rfl rfl (by omega) hL ?_
  refine g_callV (M' := M_X9_days) (as := [.int (xs (i + 1))]) (v := (some (.int rx.1))) l_L_167 kV_X9_days (by decide) (C_X9_days hG hx e1) rfl (by decide) (hx.1.2.1 wx 0 _ rfl) ⟨_, _, rfl⟩ (Nat.le_of_ble_eq_true rfl) dL_law_585 ?_
  refine g_aload_n dL_law_588 rfl rfl ?_
  refine g_arg (i := i) (j := 1) hX (v := 1) dL_law_589 dL_law_590 dL_law_592 dL_law_593 dL_law_594 rfl rfl rfl (by omega) hL ?_
  refine g_callV (M' := M_X10_days) (as := [.int (xs (i + 1))]) (v := (some (.int rm.1))) l_L_170 kV_X10_days (by decide) (C_X10_days hm e2) rfl (by decide) (hm.2.1 wm 0 _ rfl) ⟨_, _, rfl⟩ (Nat.le_of_ble_eq_true rfl) dL_law_595 ?_
  exact g_icmp_eq (tgt := 2947) dL_law_598 (by decide) (fun _ => K) (fun q => absurd eq.symm q)
theorem lc_7 {G : aG} {F : aF} {o : wO} {n s i L : Nat} {wx wm : wS} {u : Nat → Int64} {t : Tn} {z : Sy} {xs : Nat → Int32} {Q : aR → Prop} (hG : aGood G) (hT : aTxt G) (hX : aScr G L xs) (hN : aNc G) (h : LH F o n s) (r : RR t z o wx wm) (hi : i + 6 ≤ L) (hL : L ≤ 3072) (ih : IHs G i n s Q) : ∃ R, Q R ∧ AG G ML_law 603 (lsL i) [] (F wx wm u) R := by
  obtain ⟨w', rm, F1, n1, s1, u1, k, e2, h1, ⟨b1, b2⟩, ha, ⟨z1, rr⟩, ek, ev⟩ := wr_hurry (a1 := xs (i + 1)) (a2 := xs (i + 2)) (u := u) hG hN h r
  obtain ⟨R, hQ, K⟩ := ih F1 o t z1 w' rm.2 u1 n1 s1 h1 rr (by omega) (by omega)
  have hm := h1.2.1 w' u1
  have ho := h1.2.2.1 w' rm.2 u1
  refine ⟨R, hQ, ?_⟩
  refine g_aload_n dL_law_603 rfl rfl ?_
  refine g_arg (i := i) (j := 1) hX (v := 1) dL_law_604 dL_law_605 dL_law_607 dL_law_608 dL_law_609 rfl rfl rfl (by omega) hL ?_
  refine g_arg (i := i) (j := 2) hX (v := 2) dL_law_610 dL_law_611 dL_law_613 dL_law_614 dL_law_615 rfl rfl rfl (by omega) hL ?_
  refine g_aload_n dL_law_616 rfl rfl ?_
  refine g_callH (M' := ML_hurry) (as := [.ref 40, .int (xs (i + 1)), .int (xs (i + 2)), .ref 132]) (v := some (.int k)) (aIn1 988 (by decide +kernel) rfl) kH_hurry (by decide) ha rfl (Nat.le_of_ble_eq_true rfl) dL_law_617 ?_
  refine g_istore dL_law_620 (by decide) rfl ?_
  refine g_aload_n dL_law_622 rfl rfl ?_
  refine g_arg (i := i) (j := 1) hX (v := 1) dL_law_623 dL_law_624 dL_law_626 dL_law_627 dL_law_628 rfl rfl rfl (by omega) hL ?_
  refine g_arg (i := i) (j := 2) hX (v := 2) dL_law_629 dL_law_630 dL_law_632 dL_law_633 dL_law_634 rfl rfl rfl (by omega) hL ?_
  refine g_callV (M' := M_X10_hurry) (as := [.int (xs (i + 1)), .int (xs (i + 2))]) (v := some (.int rm.1)) l_L_173 kV_X10_hurry (by decide) (C_X10_hurry hm e2) rfl (by decide) (hm.2.1 wm 0 _ rfl) ⟨_, _, rfl⟩ (Nat.le_of_ble_eq_true rfl) dL_law_635 ?_
  refine g_istore dL_law_638 (by decide) rfl ?_
  refine g_aload_n dL_law_640 rfl rfl ?_
  refine g_callV (M' := M_X10_thrown) (as := []) (v := some (.int (rm.2.1 0))) l_L_149 kV_X10_thrown (by decide) (C_X10_thrown hm (thrown_s rm.2)) rfl (by decide) (hm.2.1 rm.2 0 _ rfl) ⟨_, _, rfl⟩ (Nat.le_of_ble_eq_true rfl) dL_law_641 ?_
  refine g_iload dL_law_644 rfl ?_
  refine g_icmp_eq (tgt := 651) dL_law_646 (by decide) (fun _ => ?_) (fun q => absurd ek q)
  refine g_iload dL_law_651 rfl ?_
  have fin : AG G ML_law 668 [some (.ref 0), some (.ref 40), some (.ref 100), some (.ref 132), some (.int (nI i)), some (.int k), some (.int rm.1)] [] (F1 w' rm.2 u1) R := by
    refine g_goto (tgt := 2947) dL_law_668 (by decide) ?_
    refine g_none 5 ?_
    refine g_none 6 ?_
    exact K
  refine g_if_ne (tgt := 668) dL_law_653 (by decide) (fun _ => fin) (fun q => ?_)
  have hk0 : k = 0 := q
  refine g_aload_n dL_law_656 rfl rfl ?_
  refine g_iconst (v := 0) dL_law_657 (by decide) ?_
  refine g_lald dL_law_658 (by decide) ho vp01 ?_
  refine g_iload dL_law_659 rfl ?_
  refine g_i2l dL_law_661 ?_
  refine g_lcmp dL_law_662 ?_
  exact g_if_eq (tgt := 668) dL_law_663 (by decide) (fun _ => fin) (fun q => absurd (lg_0.2 (ev hk0)) q)
theorem lc_8 {G : aG} {F : aF} {o : wO} {n s i L : Nat} {wx wm : wS} {u : Nat → Int64} {t : Tn} {z : Sy} {xs : Nat → Int32} {Q : aR → Prop} (hG : aGood G) (hT : aTxt G) (hX : aScr G L xs) (hN : aNc G) (h : LH F o n s) (r : RR t z o wx wm) (hi : i + 6 ≤ L) (hL : L ≤ 3072) (ih : IHs G i n s Q) : ∃ R, Q R ∧ AG G ML_law 671 (lsL i) [] (F wx wm u) R := by
  obtain ⟨w', rm, F1, n1, s1, u1, k, e2, h1, ⟨b1, b2⟩, ha, ⟨z1, rr⟩, ek, ev⟩ := wr_ill (a1 := xs (i + 1)) (a := bz (xs (i + 2))) (u := u) (bz_le _) hG hN h r
  obtain ⟨R, hQ, K⟩ := ih F1 o t z1 w' rm.2 u1 n1 s1 h1 rr (by omega) (by omega)
  have hm := h1.2.1 w' u1
  have ho := h1.2.2.1 w' rm.2 u1
  refine ⟨R, hQ, ?_⟩
  refine g_aload_n dL_law_671 rfl rfl ?_
  refine g_arg (i := i) (j := 1) hX (v := 1) dL_law_672 dL_law_673 dL_law_675 dL_law_676 dL_law_677 rfl rfl rfl (by omega) hL ?_
  refine g_arg (i := i) (j := 2) hX (v := 2) dL_law_678 dL_law_679 dL_law_681 dL_law_682 dL_law_683 rfl rfl rfl (by omega) hL ?_
  refine g_bool (a := bz (xs (i + 2))) dL_law_684 dL_law_687 dL_law_688 dL_law_691 (tg := 691) (te := 692) (by decide) (by decide) rfl rfl ?_
  refine g_aload_n dL_law_692 rfl rfl ?_
  refine g_callH (M' := ML_ill) (as := [.ref 40, .int (xs (i + 1)), .int (nI (bz (xs (i + 2)))), .ref 132]) (v := some (.int k)) (aIn1 996 (by decide +kernel) rfl) kH_ill (by decide) ha rfl (Nat.le_of_ble_eq_true rfl) dL_law_693 ?_
  refine g_istore dL_law_696 (by decide) rfl ?_
  refine g_aload_n dL_law_698 rfl rfl ?_
  refine g_arg (i := i) (j := 1) hX (v := 1) dL_law_699 dL_law_700 dL_law_702 dL_law_703 dL_law_704 rfl rfl rfl (by omega) hL ?_
  refine g_arg (i := i) (j := 2) hX (v := 2) dL_law_705 dL_law_706 dL_law_708 dL_law_709 dL_law_710 rfl rfl rfl (by omega) hL ?_
  refine g_bool (a := bz (xs (i + 2))) dL_law_711 dL_law_714 dL_law_715 dL_law_718 (tg := 718) (te := 719) (by decide) (by decide) rfl rfl ?_
  refine g_callV (M' := M_X10_ill) (as := [.int (xs (i + 1)), .int (nI (bz (xs (i + 2))))]) (v := some (.int rm.1)) l_L_177 kV_X10_ill (by decide) (C_X10_ill hm e2) rfl (by decide) (hm.2.1 wm 0 _ rfl) ⟨_, _, rfl⟩ (Nat.le_of_ble_eq_true rfl) dL_law_719 ?_
  refine g_istore dL_law_722 (by decide) rfl ?_
  refine g_aload_n dL_law_724 rfl rfl ?_
  refine g_callV (M' := M_X10_thrown) (as := []) (v := some (.int (rm.2.1 0))) l_L_149 kV_X10_thrown (by decide) (C_X10_thrown hm (thrown_s rm.2)) rfl (by decide) (hm.2.1 rm.2 0 _ rfl) ⟨_, _, rfl⟩ (Nat.le_of_ble_eq_true rfl) dL_law_725 ?_
  refine g_iload dL_law_728 rfl ?_
  refine g_icmp_eq (tgt := 735) dL_law_730 (by decide) (fun _ => ?_) (fun q => absurd ek q)
  refine g_iload dL_law_735 rfl ?_
  have fin : AG G ML_law 759 [some (.ref 0), some (.ref 40), some (.ref 100), some (.ref 132), some (.int (nI i)), some (.int k), some (.int rm.1)] [] (F1 w' rm.2 u1) R := by
    refine g_goto (tgt := 2947) dL_law_759 (by decide) ?_
    refine g_none 5 ?_
    refine g_none 6 ?_
    exact K
  refine g_if_ne (tgt := 759) dL_law_737 (by decide) (fun _ => fin) (fun q => ?_)
  have hk0 : k = 0 := q
  refine g_aload_n dL_law_740 rfl rfl ?_
  refine g_iconst (v := 0) dL_law_741 (by decide) ?_
  refine g_lald dL_law_742 (by decide) ho vp01 ?_
  refine g_iload dL_law_743 rfl ?_
  have e9 : u1 0 = if rm.1 = 0 then 0 else 1 := ev hk0
  have cmp : ∀ y : Int64, u1 0 = y → AG G ML_law 753 [some (.ref 0), some (.ref 40), some (.ref 100), some (.ref 132), some (.int (nI i)), some (.int k), some (.int rm.1)] [.long y, .long (u1 0)] (F1 w' rm.2 u1) R := fun y ey => by
    refine g_lcmp dL_law_753 ?_
    exact g_if_eq (tgt := 759) dL_law_754 (by decide) (fun _ => fin) (fun q => absurd (lg_0.2 ey) q)
  refine g_if_eq (tgt := 752) dL_law_745 (by decide) (fun q => ?_) (fun q => ?_)
  · refine g_lconst (v := 0) dL_law_752 (by decide) ?_
    exact cmp 0 (by rw [e9, if_pos q])
  · refine g_lconst (v := 1) dL_law_748 (by decide) ?_
    refine g_goto (tgt := 753) dL_law_749 (by decide) ?_
    exact cmp 1 (by rw [e9, if_neg q])
theorem lc_9 {G : aG} {F : aF} {o : wO} {n s i L : Nat} {wx wm : wS} {u : Nat → Int64} {t : Tn} {z : Sy} {xs : Nat → Int32} {Q : aR → Prop} (hG : aGood G) (hT : aTxt G) (hX : aScr G L xs) (hN : aNc G) (h : LH F o n s) (r : RR t z o wx wm) (hi : i + 6 ≤ L) (hL : L ≤ 3072) (ih : IHs G i n s Q) : ∃ R, Q R ∧ AG G ML_law 762 (lsL i) [] (F wx wm u) R := by
  obtain ⟨w', rm, F1, n1, s1, u1, k, e2, h1, ⟨b1, b2⟩, ha, ⟨z1, rr⟩, ek, ev⟩ := wr_appoint (a1 := xs (i + 1)) (u := u) hG hN h r
  obtain ⟨R, hQ, K⟩ := ih F1 o t z1 w' rm.2 u1 n1 s1 h1 rr (by omega) (by omega)
  have hm := h1.2.1 w' u1
  have ho := h1.2.2.1 w' rm.2 u1
  refine ⟨R, hQ, ?_⟩
  refine g_aload_n dL_law_762 rfl rfl ?_
  refine g_arg (i := i) (j := 1) hX (v := 1) dL_law_763 dL_law_764 dL_law_766 dL_law_767 dL_law_768 rfl rfl rfl (by omega) hL ?_
  refine g_aload_n dL_law_769 rfl rfl ?_
  refine g_callH (M' := ML_appoint) (as := [.ref 40, .int (xs (i + 1)), .ref 132]) (v := some (.int k)) (aIn1 1007 (by decide +kernel) rfl) kH_appoint (by decide) ha rfl (Nat.le_of_ble_eq_true rfl) dL_law_770 ?_
  refine g_istore dL_law_773 (by decide) rfl ?_
  refine g_aload_n dL_law_775 rfl rfl ?_
  refine g_arg (i := i) (j := 1) hX (v := 1) dL_law_776 dL_law_777 dL_law_779 dL_law_780 dL_law_781 rfl rfl rfl (by omega) hL ?_
  refine g_callV (M' := M_X10_appoint) (as := [.int (xs (i + 1))]) (v := some (.int rm.1)) l_L_180 kV_X10_appoint (by decide) (C_X10_appoint hm e2) rfl (by decide) (hm.2.1 wm 0 _ rfl) ⟨_, _, rfl⟩ (Nat.le_of_ble_eq_true rfl) dL_law_782 ?_
  refine g_istore dL_law_785 (by decide) rfl ?_
  refine g_aload_n dL_law_787 rfl rfl ?_
  refine g_callV (M' := M_X10_thrown) (as := []) (v := some (.int (rm.2.1 0))) l_L_149 kV_X10_thrown (by decide) (C_X10_thrown hm (thrown_s rm.2)) rfl (by decide) (hm.2.1 rm.2 0 _ rfl) ⟨_, _, rfl⟩ (Nat.le_of_ble_eq_true rfl) dL_law_788 ?_
  refine g_iload dL_law_791 rfl ?_
  refine g_icmp_eq (tgt := 798) dL_law_793 (by decide) (fun _ => ?_) (fun q => absurd ek q)
  refine g_iload dL_law_798 rfl ?_
  have fin : AG G ML_law 815 [some (.ref 0), some (.ref 40), some (.ref 100), some (.ref 132), some (.int (nI i)), some (.int k), some (.int rm.1)] [] (F1 w' rm.2 u1) R := by
    refine g_goto (tgt := 2947) dL_law_815 (by decide) ?_
    refine g_none 5 ?_
    refine g_none 6 ?_
    exact K
  refine g_if_ne (tgt := 815) dL_law_800 (by decide) (fun _ => fin) (fun q => ?_)
  have hk0 : k = 0 := q
  refine g_aload_n dL_law_803 rfl rfl ?_
  refine g_iconst (v := 0) dL_law_804 (by decide) ?_
  refine g_lald dL_law_805 (by decide) ho vp01 ?_
  refine g_iload dL_law_806 rfl ?_
  refine g_i2l dL_law_808 ?_
  refine g_lcmp dL_law_809 ?_
  exact g_if_eq (tgt := 815) dL_law_810 (by decide) (fun _ => fin) (fun q => absurd (lg_0.2 (ev hk0)) q)
theorem lc_10 {G : aG} {F : aF} {o : wO} {n s i L : Nat} {wx wm : wS} {u : Nat → Int64} {t : Tn} {z : Sy} {xs : Nat → Int32} {Q : aR → Prop} (hG : aGood G) (hT : aTxt G) (hX : aScr G L xs) (hN : aNc G) (h : LH F o n s) (r : RR t z o wx wm) (hi : i + 6 ≤ L) (hL : L ≤ 3072) (ih : IHs G i n s Q) : ∃ R, Q R ∧ AG G ML_law 818 (lsL i) [] (F wx wm u) R := by
  obtain ⟨w', rm, F1, n1, s1, u1, k, e2, h1, ⟨b1, b2⟩, ha, ⟨z1, rr⟩, ek, ev⟩ := wr_due (a1 := xs (i + 1)) (a2 := xs (i + 2)) (u := u) hG hN h r
  obtain ⟨R, hQ, K⟩ := ih F1 o t z1 w' rm.2 u1 n1 s1 h1 rr (by omega) (by omega)
  have hm := h1.2.1 w' u1
  have ho := h1.2.2.1 w' rm.2 u1
  refine ⟨R, hQ, ?_⟩
  refine g_aload_n dL_law_818 rfl rfl ?_
  refine g_arg (i := i) (j := 1) hX (v := 1) dL_law_819 dL_law_820 dL_law_822 dL_law_823 dL_law_824 rfl rfl rfl (by omega) hL ?_
  refine g_arg (i := i) (j := 2) hX (v := 2) dL_law_825 dL_law_826 dL_law_828 dL_law_829 dL_law_830 rfl rfl rfl (by omega) hL ?_
  refine g_aload_n dL_law_831 rfl rfl ?_
  refine g_callH (M' := ML_due) (as := [.ref 40, .int (xs (i + 1)), .int (xs (i + 2)), .ref 132]) (v := some (.int k)) (aIn1 1015 (by decide +kernel) rfl) kH_due (by decide) ha rfl (Nat.le_of_ble_eq_true rfl) dL_law_832 ?_
  refine g_istore dL_law_835 (by decide) rfl ?_
  refine g_aload_n dL_law_837 rfl rfl ?_
  refine g_arg (i := i) (j := 1) hX (v := 1) dL_law_838 dL_law_839 dL_law_841 dL_law_842 dL_law_843 rfl rfl rfl (by omega) hL ?_
  refine g_arg (i := i) (j := 2) hX (v := 2) dL_law_844 dL_law_845 dL_law_847 dL_law_848 dL_law_849 rfl rfl rfl (by omega) hL ?_
  refine g_callV (M' := M_X10_due) (as := [.int (xs (i + 1)), .int (xs (i + 2))]) (v := some (.int rm.1)) l_L_183 kV_X10_due (by decide) (C_X10_due hm e2) rfl (by decide) (hm.2.1 wm 0 _ rfl) ⟨_, _, rfl⟩ (Nat.le_of_ble_eq_true rfl) dL_law_850 ?_
  refine g_istore dL_law_853 (by decide) rfl ?_
  refine g_aload_n dL_law_855 rfl rfl ?_
  refine g_callV (M' := M_X10_thrown) (as := []) (v := some (.int (rm.2.1 0))) l_L_149 kV_X10_thrown (by decide) (C_X10_thrown hm (thrown_s rm.2)) rfl (by decide) (hm.2.1 rm.2 0 _ rfl) ⟨_, _, rfl⟩ (Nat.le_of_ble_eq_true rfl) dL_law_856 ?_
  refine g_iload dL_law_859 rfl ?_
  refine g_icmp_eq (tgt := 866) dL_law_861 (by decide) (fun _ => ?_) (fun q => absurd ek q)
  refine g_iload dL_law_866 rfl ?_
  have fin : AG G ML_law 883 [some (.ref 0), some (.ref 40), some (.ref 100), some (.ref 132), some (.int (nI i)), some (.int k), some (.int rm.1)] [] (F1 w' rm.2 u1) R := by
    refine g_goto (tgt := 2947) dL_law_883 (by decide) ?_
    refine g_none 5 ?_
    refine g_none 6 ?_
    exact K
  refine g_if_ne (tgt := 883) dL_law_868 (by decide) (fun _ => fin) (fun q => ?_)
  have hk0 : k = 0 := q
  refine g_aload_n dL_law_871 rfl rfl ?_
  refine g_iconst (v := 0) dL_law_872 (by decide) ?_
  refine g_lald dL_law_873 (by decide) ho vp01 ?_
  refine g_iload dL_law_874 rfl ?_
  refine g_i2l dL_law_876 ?_
  refine g_lcmp dL_law_877 ?_
  exact g_if_eq (tgt := 883) dL_law_878 (by decide) (fun _ => fin) (fun q => absurd (lg_0.2 (ev hk0)) q)
theorem lc_11 {G : aG} {F : aF} {o : wO} {n s i L : Nat} {wx wm : wS} {u : Nat → Int64} {t : Tn} {z : Sy} {xs : Nat → Int32} {Q : aR → Prop} (hG : aGood G) (hT : aTxt G) (hX : aScr G L xs) (hN : aNc G) (h : LH F o n s) (r : RR t z o wx wm) (hi : i + 6 ≤ L) (hL : L ≤ 3072) (ih : IHs G i n s Q) : ∃ R, Q R ∧ AG G ML_law 886 (lsL i) [] (F wx wm u) R := by
  obtain ⟨rx, rm, e1, e2, hq⟩ := q_undo  r
  obtain ⟨⟨z1, rr⟩, eq⟩ := hq
  have hx := h.1 wm u
  have hm := h.2.1 rx.2 u
  obtain ⟨R, hQ, K⟩ := ih F o t z1 rx.2 rm.2 u n s h rr (by omega) (by omega)
  refine ⟨R, hQ, ?_⟩
  refine g_aload_n dL_law_886 rfl rfl ?_
  refine g_callV (M' := M_X9_undo) (as := []) (v := (some (.int rx.1))) l_L_184 kV_X9_undo (by decide) (C_X9_undo hG hx e1) rfl (by decide) (hx.1.2.1 wx 0 _ rfl) ⟨_, _, rfl⟩ (Nat.le_of_ble_eq_true rfl) dL_law_887 ?_
  refine g_aload_n dL_law_890 rfl rfl ?_
  refine g_callV (M' := M_X10_undo) (as := []) (v := (some (.int rm.1))) l_L_187 kV_X10_undo (by decide) (C_X10_undo hm e2) rfl (by decide) (hm.2.1 wm 0 _ rfl) ⟨_, _, rfl⟩ (Nat.le_of_ble_eq_true rfl) dL_law_891 ?_
  exact g_icmp_eq (tgt := 2947) dL_law_894 (by decide) (fun _ => K) (fun q => absurd eq.symm q)
end
