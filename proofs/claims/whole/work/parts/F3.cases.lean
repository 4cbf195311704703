section
theorem lc_36 {G : aG} {F : aF} {o : wO} {n s i L : Nat} {wx wm : wS} {u : Nat → Int64} {t : Tn} {z : Sy} {xs : Nat → Int32} {Q : aR → Prop} (hG : aGood G) (hT : aTxt G) (hX : aScr G L xs) (hN : aNc G) (h : LH F o n s) (r : RR t z o wx wm) (hi : i + 6 ≤ L) (hL : L ≤ 3072) (ih : IHs G i n s Q) : ∃ R, Q R ∧ AG G ML_law 2438 (lsL i) [] (F wx wm u) R := by
  obtain ⟨w', rm, F1, n1, s1, u1, k, e2, h1, ⟨b1, b2⟩, ha, ⟨z1, rr⟩, ek, ev⟩ := wr_behind (a1 := xs (i + 1)) (u := u) hG hN h r
  obtain ⟨R, hQ, K⟩ := ih F1 o t z1 w' rm.2 u1 n1 s1 h1 rr (by omega) (by omega)
  have hm := h1.2.1 w' u1
  have ho := h1.2.2.1 w' rm.2 u1
  refine ⟨R, hQ, ?_⟩
  refine g_aload_n dL_law_2438 rfl rfl ?_
  refine g_arg (i := i) (j := 1) hX (v := 1) dL_law_2439 dL_law_2440 dL_law_2442 dL_law_2443 dL_law_2444 rfl rfl rfl (by omega) hL ?_
  refine g_aload_n dL_law_2445 rfl rfl ?_
  refine g_callH (M' := ML_behind) (as := [.ref 40, .int (xs (i + 1)), .ref 132]) (v := some (.int k)) (aIn1 1304 (by decide +kernel) rfl) kH_behind (by decide) ha rfl (Nat.le_of_ble_eq_true rfl) dL_law_2446 ?_
  refine g_istore dL_law_2449 (by decide) rfl ?_
  refine g_aload_n dL_law_2451 rfl rfl ?_
  refine g_arg (i := i) (j := 1) hX (v := 1) dL_law_2452 dL_law_2453 dL_law_2455 dL_law_2456 dL_law_2457 rfl rfl rfl (by omega) hL ?_
  refine g_callV (M' := M_X10_behind) (as := [.int (xs (i + 1))]) (v := some (.int rm.1)) l_L_264 kV_X10_behind (by decide) (C_X10_behind hm e2) rfl (by decide) (hm.2.1 wm 0 _ rfl) ⟨_, _, rfl⟩ (Nat.le_of_ble_eq_true rfl) dL_law_2458 ?_
  refine g_istore dL_law_2461 (by decide) rfl ?_
  refine g_aload_n dL_law_2463 rfl rfl ?_
  refine g_callV (M' := M_X10_thrown) (as := []) (v := some (.int (rm.2.1 0))) l_L_149 kV_X10_thrown (by decide) (C_X10_thrown hm (thrown_s rm.2)) rfl (by decide) (hm.2.1 rm.2 0 _ rfl) ⟨_, _, rfl⟩ (Nat.le_of_ble_eq_true rfl) dL_law_2464 ?_
  refine g_iload dL_law_2467 rfl ?_
  refine g_icmp_eq (tgt := 2474) dL_law_2469 (by decide) (fun _ => ?_) (fun q => absurd ek q)
  refine g_iload dL_law_2474 rfl ?_
  have fin : AG G ML_law 2491 [some (.ref 0), some (.ref 40), some (.ref 100), some (.ref 132), some (.int (nI i)), some (.int k), some (.int rm.1)] [] (F1 w' rm.2 u1) R := by
    refine g_goto (tgt := 2947) dL_law_2491 (by decide) ?_
    refine g_none 5 ?_
    refine g_none 6 ?_
    exact K
  refine g_if_ne (tgt := 2491) dL_law_2476 (by decide) (fun _ => fin) (fun q => ?_)
  have hk0 : k = 0 := q
  refine g_aload_n dL_law_2479 rfl rfl ?_
  refine g_iconst (v := 0) dL_law_2480 (by decide) ?_
  refine g_lald dL_law_2481 (by decide) ho vp01 ?_
  refine g_iload dL_law_2482 rfl ?_
  refine g_i2l dL_law_2484 ?_
  refine g_lcmp dL_law_2485 ?_
  exact g_if_eq (tgt := 2491) dL_law_2486 (by decide) (fun _ => fin) (fun q => absurd (lg_0.2 (ev hk0)) q)
theorem lc_37 {G : aG} {F : aF} {o : wO} {n s i L : Nat} {wx wm : wS} {u : Nat → Int64} {t : Tn} {z : Sy} {xs : Nat → Int32} {Q : aR → Prop} (hG : aGood G) (hT : aTxt G) (hX : aScr G L xs) (hN : aNc G) (h : LH F o n s) (r : RR t z o wx wm) (hi : i + 6 ≤ L) (hL : L ≤ 3072) (ih : IHs G i n s Q) : ∃ R, Q R ∧ AG G ML_law 2494 (lsL i) [] (F wx wm u) R := by
  obtain ⟨w', rm, F1, n1, s1, u1, k, e2, h1, ⟨b1, b2⟩, ha, ⟨z1, rr⟩, ek, ev⟩ := wr_most (a1 := xs (i + 1)) (u := u) hG hN h r
  obtain ⟨R, hQ, K⟩ := ih F1 o t z1 w' rm.2 u1 n1 s1 h1 rr (by omega) (by omega)
  have hm := h1.2.1 w' u1
  have ho := h1.2.2.1 w' rm.2 u1
  refine ⟨R, hQ, ?_⟩
  refine g_aload_n dL_law_2494 rfl rfl ?_
  refine g_arg (i := i) (j := 1) hX (v := 1) dL_law_2495 dL_law_2496 dL_law_2498 dL_law_2499 dL_law_2500 rfl rfl rfl (by omega) hL ?_
  refine g_aload_n dL_law_2501 rfl rfl ?_
  refine g_callH (M' := ML_most) (as := [.ref 40, .int (xs (i + 1)), .ref 132]) (v := some (.int k)) (aIn1 1311 (by decide +kernel) rfl) kH_most (by decide) ha rfl (Nat.le_of_ble_eq_true rfl) dL_law_2502 ?_
  refine g_istore dL_law_2505 (by decide) rfl ?_
  refine g_aload_n dL_law_2507 rfl rfl ?_
  refine g_arg (i := i) (j := 1) hX (v := 1) dL_law_2508 dL_law_2509 dL_law_2511 dL_law_2512 dL_law_2513 rfl rfl rfl (by omega) hL ?_
  refine g_callV (M' := M_X10_most) (as := [.int (xs (i + 1))]) (v := some (.int rm.1)) l_L_267 kV_X10_most (by decide) (C_X10_most hm e2) rfl (by decide) (hm.2.1 wm 0 _ rfl) ⟨_, _, rfl⟩ (Nat.le_of_ble_eq_true rfl) dL_law_2514 ?_
  refine g_istore dL_law_2517 (by decide) rfl ?_
  refine g_aload_n dL_law_2519 rfl rfl ?_
  refine g_callV (M' := M_X10_thrown) (as := []) (v := some (.int (rm.2.1 0))) l_L_149 kV_X10_thrown (by decide) (C_X10_thrown hm (thrown_s rm.2)) rfl (by decide) (hm.2.1 rm.2 0 _ rfl) ⟨_, _, rfl⟩ (Nat.le_of_ble_eq_true rfl) dL_law_2520 ?_
  refine g_iload dL_law_2523 rfl ?_
  refine g_icmp_eq (tgt := 2530) dL_law_2525 (by decide) (fun _ => ?_) (fun q => absurd ek q)
  refine g_iload dL_law_2530 rfl ?_
  have fin : AG G ML_law 2547 [some (.ref 0), some (.ref 40), some (.ref 100), some (.ref 132), some (.int (nI i)), some (.int k), some (.int rm.1)] [] (F1 w' rm.2 u1) R := by
    refine g_goto (tgt := 2947) dL_law_2547 (by decide) ?_
    refine g_none 5 ?_
    refine g_none 6 ?_
    exact K
  refine g_if_ne (tgt := 2547) dL_law_2532 (by decide) (fun _ => fin) (fun q => ?_)
  have hk0 : k = 0 := q
  refine g_aload_n dL_law_2535 rfl rfl ?_
  refine g_iconst (v := 0) dL_law_2536 (by decide) ?_
  refine g_lald dL_law_2537 (by decide) ho vp01 ?_
  refine g_iload dL_law_2538 rfl ?_
  refine g_i2l dL_law_2540 ?_
  refine g_lcmp dL_law_2541 ?_
  exact g_if_eq (tgt := 2547) dL_law_2542 (by decide) (fun _ => fin) (fun q => absurd (lg_0.2 (ev hk0)) q)
theorem lc_38 {G : aG} {F : aF} {o : wO} {n s i L : Nat} {wx wm : wS} {u : Nat → Int64} {t : Tn} {z : Sy} {xs : Nat → Int32} {Q : aR → Prop} (hG : aGood G) (hT : aTxt G) (hX : aScr G L xs) (hN : aNc G) (h : LH F o n s) (r : RR t z o wx wm) (hi : i + 6 ≤ L) (hL : L ≤ 3072) (ih : IHs G i n s Q) : ∃ R, Q R ∧ AG G ML_law 2550 (lsL i) [] (F wx wm u) R := by
  obtain ⟨w', rm, F1, n1, s1, u1, k, e2, h1, ⟨b1, b2⟩, ha, ⟨z1, rr⟩, ek, ev⟩ := wr_soonest (a1 := xs (i + 1)) (a2 := xs (i + 2)) (u := u) hG hN h r
  obtain ⟨R, hQ, K⟩ := ih F1 o t z1 w' rm.2 u1 n1 s1 h1 rr (by omega) (by omega)
  have hm := h1.2.1 w' u1
  have ho := h1.2.2.1 w' rm.2 u1
  refine ⟨R, hQ, ?_⟩
  refine g_aload_n dL_law_2550 rfl rfl ?_
  refine g_arg (i := i) (j := 1) hX (v := 1) dL_law_2551 dL_law_2552 dL_law_2554 dL_law_2555 dL_law_2556 rfl rfl rfl (by omega) hL ?_
  refine g_arg (i := i) (j := 2) hX (v := 2) dL_law_2557 dL_law_2558 dL_law_2560 dL_law_2561 dL_law_2562 rfl rfl rfl (by omega) hL ?_
  refine g_aload_n dL_law_2563 rfl rfl ?_
  refine g_callH (M' := ML_soonest) (as := [.ref 40, .int (xs (i + 1)), .int (xs (i + 2)), .ref 132]) (v := some (.int k)) (aIn1 1318 (by decide +kernel) rfl) kH_soonest (by decide) ha rfl (Nat.le_of_ble_eq_true rfl) dL_law_2564 ?_
  refine g_istore dL_law_2567 (by decide) rfl ?_
  refine g_aload_n dL_law_2569 rfl rfl ?_
  refine g_arg (i := i) (j := 1) hX (v := 1) dL_law_2570 dL_law_2571 dL_law_2573 dL_law_2574 dL_law_2575 rfl rfl rfl (by omega) hL ?_
  refine g_arg (i := i) (j := 2) hX (v := 2) dL_law_2576 dL_law_2577 dL_law_2579 dL_law_2580 dL_law_2581 rfl rfl rfl (by omega) hL ?_
  refine g_callV (M' := M_X10_soonest) (as := [.int (xs (i + 1)), .int (xs (i + 2))]) (v := some (.int rm.1)) l_L_270 kV_X10_soonest (by decide) (C_X10_soonest hm e2) rfl (by decide) (hm.2.1 wm 0 _ rfl) ⟨_, _, rfl⟩ (Nat.le_of_ble_eq_true rfl) dL_law_2582 ?_
  refine g_istore dL_law_2585 (by decide) rfl ?_
  refine g_aload_n dL_law_2587 rfl rfl ?_
  refine g_callV (M' := M_X10_thrown) (as := []) (v := some (.int (rm.2.1 0))) l_L_149 kV_X10_thrown (by decide) (C_X10_thrown hm (thrown_s rm.2)) rfl (by decide) (hm.2.1 rm.2 0 _ rfl) ⟨_, _, rfl⟩ (Nat.le_of_ble_eq_true rfl) dL_law_2588 ?_
  refine g_iload dL_law_2591 rfl ?_
  refine g_icmp_eq (tgt := 2598) dL_law_2593 (by decide) (fun _ => ?_) (fun q => absurd ek q)
  refine g_iload dL_law_2598 rfl ?_
  have fin : AG G ML_law 2615 [some (.ref 0), some (.ref 40), some (.ref 100), some (.ref 132), some (.int (nI i)), some (.int k), some (.int rm.1)] [] (F1 w' rm.2 u1) R := by
    refine g_goto (tgt := 2947) dL_law_2615 (by decide) ?_
    refine g_none 5 ?_
    refine g_none 6 ?_
    exact K
  refine g_if_ne (tgt := 2615) dL_law_2600 (by decide) (fun _ => fin) (fun q => ?_)
  have hk0 : k = 0 := q
  refine g_aload_n dL_law_2603 rfl rfl ?_
  refine g_iconst (v := 0) dL_law_2604 (by decide) ?_
  refine g_lald dL_law_2605 (by decide) ho vp01 ?_
  refine g_iload dL_law_2606 rfl ?_
  refine g_i2l dL_law_2608 ?_
  refine g_lcmp dL_law_2609 ?_
  exact g_if_eq (tgt := 2615) dL_law_2610 (by decide) (fun _ => fin) (fun q => absurd (lg_0.2 (ev hk0)) q)
theorem lc_39 {G : aG} {F : aF} {o : wO} {n s i L : Nat} {wx wm : wS} {u : Nat → Int64} {t : Tn} {z : Sy} {xs : Nat → Int32} {Q : aR → Prop} (hG : aGood G) (hT : aTxt G) (hX : aScr G L xs) (hN : aNc G) (h : LH F o n s) (r : RR t z o wx wm) (hi : i + 6 ≤ L) (hL : L ≤ 3072) (ih : IHs G i n s Q) : ∃ R, Q R ∧ AG G ML_law 2618 (lsL i) [] (F wx wm u) R := by
  obtain ⟨w', rm, F1, n1, s1, u1, k, e2, h1, ⟨b1, b2⟩, ha, ⟨z1, rr⟩, ek, ev⟩ := wr_handed (a1 := xs (i + 1)) (u := u) hG hN h r
  obtain ⟨R, hQ, K⟩ := ih F1 o t z1 w' rm.2 u1 n1 s1 h1 rr (by omega) (by omega)
  have hm := h1.2.1 w' u1
  have ho := h1.2.2.1 w' rm.2 u1
  refine ⟨R, hQ, ?_⟩
  refine g_aload_n dL_law_2618 rfl rfl ?_
  refine g_arg (i := i) (j := 1) hX (v := 1) dL_law_2619 dL_law_2620 dL_law_2622 dL_law_2623 dL_law_2624 rfl rfl rfl (by omega) hL ?_
  refine g_aload_n dL_law_2625 rfl rfl ?_
  refine g_callH (M' := ML_handed) (as := [.ref 40, .int (xs (i + 1)), .ref 132]) (v := some (.int k)) (aIn1 1325 (by decide +kernel) rfl) kH_handed (by decide) ha rfl (Nat.le_of_ble_eq_true rfl) dL_law_2626 ?_
  refine g_istore dL_law_2629 (by decide) rfl ?_
  refine g_aload_n dL_law_2631 rfl rfl ?_
  refine g_arg (i := i) (j := 1) hX (v := 1) dL_law_2632 dL_law_2633 dL_law_2635 dL_law_2636 dL_law_2637 rfl rfl rfl (by omega) hL ?_
  refine g_callV (M' := M_X10_handed) (as := [.int (xs (i + 1))]) (v := some (.int rm.1)) l_L_273 kV_X10_handed (by decide) (C_X10_handed hm e2) rfl (by decide) (hm.2.1 wm 0 _ rfl) ⟨_, _, rfl⟩ (Nat.le_of_ble_eq_true rfl) dL_law_2638 ?_
  refine g_istore dL_law_2641 (by decide) rfl ?_
  refine g_aload_n dL_law_2643 rfl rfl ?_
  refine g_callV (M' := M_X10_thrown) (as := []) (v := some (.int (rm.2.1 0))) l_L_149 kV_X10_thrown (by decide) (C_X10_thrown hm (thrown_s rm.2)) rfl (by decide) (hm.2.1 rm.2 0 _ rfl) ⟨_, _, rfl⟩ (Nat.le_of_ble_eq_true rfl) dL_law_2644 ?_
  refine g_iload dL_law_2647 rfl ?_
  refine g_icmp_eq (tgt := 2654) dL_law_2649 (by decide) (fun _ => ?_) (fun q => absurd ek q)
  refine g_iload dL_law_2654 rfl ?_
  have fin : AG G ML_law 2671 [some (.ref 0), some (.ref 40), some (.ref 100), some (.ref 132), some (.int (nI i)), some (.int k), some (.int rm.1)] [] (F1 w' rm.2 u1) R := by
    refine g_goto (tgt := 2947) dL_law_2671 (by decide) ?_
    refine g_none 5 ?_
    refine g_none 6 ?_
    exact K
  refine g_if_ne (tgt := 2671) dL_law_2656 (by decide) (fun _ => fin) (fun q => ?_)
  have hk0 : k = 0 := q
  refine g_aload_n dL_law_2659 rfl rfl ?_
  refine g_iconst (v := 0) dL_law_2660 (by decide) ?_
  refine g_lald dL_law_2661 (by decide) ho vp01 ?_
  refine g_iload dL_law_2662 rfl ?_
  refine g_i2l dL_law_2664 ?_
  refine g_lcmp dL_law_2665 ?_
  exact g_if_eq (tgt := 2671) dL_law_2666 (by decide) (fun _ => fin) (fun q => absurd (lg_0.2 (ev hk0)) q)
theorem lc_40 {G : aG} {F : aF} {o : wO} {n s i L : Nat} {wx wm : wS} {u : Nat → Int64} {t : Tn} {z : Sy} {xs : Nat → Int32} {Q : aR → Prop} (hG : aGood G) (hT : aTxt G) (hX : aScr G L xs) (hN : aNc G) (h : LH F o n s) (r : RR t z o wx wm) (hi : i + 6 ≤ L) (hL : L ≤ 3072) (ih : IHs G i n s Q) : ∃ R, Q R ∧ AG G ML_law 2674 (lsL i) [] (F wx wm u) R := by
  obtain ⟨w', rm, F1, n1, s1, u1, k, e2, h1, ⟨b1, b2⟩, ha, ⟨z1, rr⟩, ek, ev⟩ := wr_loses (a1 := xs (i + 1)) (u := u) hG hN h r
  obtain ⟨R, hQ, K⟩ := ih F1 o t z1 w' rm.2 u1 n1 s1 h1 rr (by omega) (by omega)
  have hm := h1.2.1 w' u1
  have ho := h1.2.2.1 w' rm.2 u1
  refine ⟨R, hQ, ?_⟩
  refine g_aload_n dL_law_2674 rfl rfl ?_
  refine g_arg (i := i) (j := 1) hX (v := 1) dL_law_2675 dL_law_2676 dL_law_2678 dL_law_2679 dL_law_2680 rfl rfl rfl (by omega) hL ?_
  refine g_aload_n dL_law_2681 rfl rfl ?_
  refine g_callH (M' := ML_loses) (as := [.ref 40, .int (xs (i + 1)), .ref 132]) (v := some (.int k)) (aIn1 1332 (by decide +kernel) rfl) kH_loses (by decide) ha rfl (Nat.le_of_ble_eq_true rfl) dL_law_2682 ?_
  refine g_istore dL_law_2685 (by decide) rfl ?_
  refine g_aload_n dL_law_2687 rfl rfl ?_
  refine g_arg (i := i) (j := 1) hX (v := 1) dL_law_2688 dL_law_2689 dL_law_2691 dL_law_2692 dL_law_2693 rfl rfl rfl (by omega) hL ?_
  refine g_callV (M' := M_X10_loses) (as := [.int (xs (i + 1))]) (v := some (.int rm.1)) l_L_276 kV_X10_loses (by decide) (C_X10_loses hm e2) rfl (by decide) (hm.2.1 wm 0 _ rfl) ⟨_, _, rfl⟩ (Nat.le_of_ble_eq_true rfl) dL_law_2694 ?_
  refine g_istore dL_law_2697 (by decide) rfl ?_
  refine g_aload_n dL_law_2699 rfl rfl ?_
  refine g_callV (M' := M_X10_thrown) (as := []) (v := some (.int (rm.2.1 0))) l_L_149 kV_X10_thrown (by decide) (C_X10_thrown hm (thrown_s rm.2)) rfl (by decide) (hm.2.1 rm.2 0 _ rfl) ⟨_, _, rfl⟩ (Nat.le_of_ble_eq_true rfl) dL_law_2700 ?_
  refine g_iload dL_law_2703 rfl ?_
  refine g_icmp_eq (tgt := 2710) dL_law_2705 (by decide) (fun _ => ?_) (fun q => absurd ek q)
  refine g_iload dL_law_2710 rfl ?_
  have fin : AG G ML_law 2727 [some (.ref 0), some (.ref 40), some (.ref 100), some (.ref 132), some (.int (nI i)), some (.int k), some (.int rm.1)] [] (F1 w' rm.2 u1) R := by
    refine g_goto (tgt := 2947) dL_law_2727 (by decide) ?_
    refine g_none 5 ?_
    refine g_none 6 ?_
    exact K
  refine g_if_ne (tgt := 2727) dL_law_2712 (by decide) (fun _ => fin) (fun q => ?_)
  have hk0 : k = 0 := q
  refine g_aload_n dL_law_2715 rfl rfl ?_
  refine g_iconst (v := 0) dL_law_2716 (by decide) ?_
  refine g_lald dL_law_2717 (by decide) ho vp01 ?_
  refine g_iload dL_law_2718 rfl ?_
  refine g_i2l dL_law_2720 ?_
  refine g_lcmp dL_law_2721 ?_
  exact g_if_eq (tgt := 2727) dL_law_2722 (by decide) (fun _ => fin) (fun q => absurd (lg_0.2 (ev hk0)) q)
theorem lc_41 {G : aG} {F : aF} {o : wO} {n s i L : Nat} {wx wm : wS} {u : Nat → Int64} {t : Tn} {z : Sy} {xs : Nat → Int32} {Q : aR → Prop} (hG : aGood G) (hT : aTxt G) (hX : aScr G L xs) (hN : aNc G) (h : LH F o n s) (r : RR t z o wx wm) (hi : i + 6 ≤ L) (hL : L ≤ 3072) (ih : IHs G i n s Q) : ∃ R, Q R ∧ AG G ML_law 2730 (lsL i) [] (F wx wm u) R := by
  obtain ⟨w', rm, F1, n1, s1, u1, k, e2, h1, ⟨b1, b2⟩, ha, ⟨z1, rr⟩, ek, ev⟩ := wr_late (a1 := xs (i + 1)) (a2 := xs (i + 2)) (u := u) hG hN h r
  obtain ⟨R, hQ, K⟩ := ih F1 o t z1 w' rm.2 u1 n1 s1 h1 rr (by omega) (by omega)
  have hm := h1.2.1 w' u1
  have ho := h1.2.2.1 w' rm.2 u1
  refine ⟨R, hQ, ?_⟩
  refine g_aload_n dL_law_2730 rfl rfl ?_
  refine g_arg (i := i) (j := 1) hX (v := 1) dL_law_2731 dL_law_2732 dL_law_2734 dL_law_2735 dL_law_2736 rfl rfl rfl (by omega) hL ?_
  refine g_arg (i := i) (j := 2) hX (v := 2) dL_law_2737 dL_law_2738 dL_law_2740 dL_law_2741 dL_law_2742 rfl rfl rfl (by omega) hL ?_
  refine g_aload_n dL_law_2743 rfl rfl ?_
  refine g_callH (M' := ML_late) (as := [.ref 40, .int (xs (i + 1)), .int (xs (i + 2)), .ref 132]) (v := some (.int k)) (aIn1 1339 (by decide +kernel) rfl) kH_late (by decide) ha rfl (Nat.le_of_ble_eq_true rfl) dL_law_2744 ?_
  refine g_istore dL_law_2747 (by decide) rfl ?_
  refine g_aload_n dL_law_2749 rfl rfl ?_
  refine g_arg (i := i) (j := 1) hX (v := 1) dL_law_2750 dL_law_2751 dL_law_2753 dL_law_2754 dL_law_2755 rfl rfl rfl (by omega) hL ?_
  refine g_arg (i := i) (j := 2) hX (v := 2) dL_law_2756 dL_law_2757 dL_law_2759 dL_law_2760 dL_law_2761 rfl rfl rfl (by omega) hL ?_
  refine g_callV (M' := M_X10_late) (as := [.int (xs (i + 1)), .int (xs (i + 2))]) (v := some (.int rm.1)) l_L_279 kV_X10_late (by decide) (C_X10_late hm e2) rfl (by decide) (hm.2.1 wm 0 _ rfl) ⟨_, _, rfl⟩ (Nat.le_of_ble_eq_true rfl) dL_law_2762 ?_
  refine g_istore dL_law_2765 (by decide) rfl ?_
  refine g_aload_n dL_law_2767 rfl rfl ?_
  refine g_callV (M' := M_X10_thrown) (as := []) (v := some (.int (rm.2.1 0))) l_L_149 kV_X10_thrown (by decide) (C_X10_thrown hm (thrown_s rm.2)) rfl (by decide) (hm.2.1 rm.2 0 _ rfl) ⟨_, _, rfl⟩ (Nat.le_of_ble_eq_true rfl) dL_law_2768 ?_
  refine g_iload dL_law_2771 rfl ?_
  refine g_icmp_eq (tgt := 2778) dL_law_2773 (by decide) (fun _ => ?_) (fun q => absurd ek q)
  refine g_iload dL_law_2778 rfl ?_
  have fin : AG G ML_law 2795 [some (.ref 0), some (.ref 40), some (.ref 100), some (.ref 132), some (.int (nI i)), some (.int k), some (.int rm.1)] [] (F1 w' rm.2 u1) R := by
    refine g_goto (tgt := 2947) dL_law_2795 (by decide) ?_
    refine g_none 5 ?_
    refine g_none 6 ?_
    exact K
  refine g_if_ne (tgt := 2795) dL_law_2780 (by decide) (fun _ => fin) (fun q => ?_)
  have hk0 : k = 0 := q
  refine g_aload_n dL_law_2783 rfl rfl ?_
  refine g_iconst (v := 0) dL_law_2784 (by decide) ?_
  refine g_lald dL_law_2785 (by decide) ho vp01 ?_
  refine g_iload dL_law_2786 rfl ?_
  refine g_i2l dL_law_2788 ?_
  refine g_lcmp dL_law_2789 ?_
  exact g_if_eq (tgt := 2795) dL_law_2790 (by decide) (fun _ => fin) (fun q => absurd (lg_0.2 (ev hk0)) q)
theorem lc_42 {G : aG} {F : aF} {o : wO} {n s i L : Nat} {wx wm : wS} {u : Nat → Int64} {t : Tn} {z : Sy} {xs : Nat → Int32} {Q : aR → Prop} (hG : aGood G) (hT : aTxt G) (hX : aScr G L xs) (hN : aNc G) (h : LH F o n s) (r : RR t z o wx wm) (hi : i + 6 ≤ L) (hL : L ≤ 3072) (ih : IHs G i n s Q) : ∃ R, Q R ∧ AG G ML_law 2798 (lsL i) [] (F wx wm u) R := by
  obtain ⟨w', rm, F1, n1, s1, u1, k, e2, h1, ⟨b1, b2⟩, ha, ⟨z1, rr⟩, ek, ev⟩ := wr_prompt (a1 := xs (i + 1)) (u := u) hG hN h r
  obtain ⟨R, hQ, K⟩ := ih F1 o t z1 w' rm.2 u1 n1 s1 h1 rr (by omega) (by omega)
  have hm := h1.2.1 w' u1
  have ho := h1.2.2.1 w' rm.2 u1
  refine ⟨R, hQ, ?_⟩
  refine g_aload_n dL_law_2798 rfl rfl ?_
  refine g_arg (i := i) (j := 1) hX (v := 1) dL_law_2799 dL_law_2800 dL_law_2802 dL_law_2803 dL_law_2804 rfl rfl rfl (by omega) hL ?_
  refine g_aload_n dL_law_2805 rfl rfl ?_
  refine g_callH (M' := ML_prompt) (as := [.ref 40, .int (xs (i + 1)), .ref 132]) (v := some (.int k)) (aIn1 1346 (by decide +kernel) rfl) kH_prompt (by decide) ha rfl (Nat.le_of_ble_eq_true rfl) dL_law_2806 ?_
  refine g_istore dL_law_2809 (by decide) rfl ?_
  refine g_aload_n dL_law_2811 rfl rfl ?_
  refine g_arg (i := i) (j := 1) hX (v := 1) dL_law_2812 dL_law_2813 dL_law_2815 dL_law_2816 dL_law_2817 rfl rfl rfl (by omega) hL ?_
  refine g_callV (M' := M_X10_prompt) (as := [.int (xs (i + 1))]) (v := some (.int rm.1)) l_L_282 kV_X10_prompt (by decide) (C_X10_prompt hm e2) rfl (by decide) (hm.2.1 wm 0 _ rfl) ⟨_, _, rfl⟩ (Nat.le_of_ble_eq_true rfl) dL_law_2818 ?_
  refine g_istore dL_law_2821 (by decide) rfl ?_
  refine g_aload_n dL_law_2823 rfl rfl ?_
  refine g_callV (M' := M_X10_thrown) (as := []) (v := some (.int (rm.2.1 0))) l_L_149 kV_X10_thrown (by decide) (C_X10_thrown hm (thrown_s rm.2)) rfl (by decide) (hm.2.1 rm.2 0 _ rfl) ⟨_, _, rfl⟩ (Nat.le_of_ble_eq_true rfl) dL_law_2824 ?_
  refine g_iload dL_law_2827 rfl ?_
  refine g_icmp_eq (tgt := 2834) dL_law_2829 (by decide) (fun _ => ?_) (fun q => absurd ek q)
  refine g_iload dL_law_2834 rfl ?_
  have fin : AG G ML_law 2851 [some (.ref 0), some (.ref 40), some (.ref 100), some (.ref 132), some (.int (nI i)), some (.int k), some (.int rm.1)] [] (F1 w' rm.2 u1) R := by
    refine g_goto (tgt := 2947) dL_law_2851 (by decide) ?_
    refine g_none 5 ?_
    refine g_none 6 ?_
    exact K
  refine g_if_ne (tgt := 2851) dL_law_2836 (by decide) (fun _ => fin) (fun q => ?_)
  have hk0 : k = 0 := q
  refine g_aload_n dL_law_2839 rfl rfl ?_
  refine g_iconst (v := 0) dL_law_2840 (by decide) ?_
  refine g_lald dL_law_2841 (by decide) ho vp01 ?_
  refine g_iload dL_law_2842 rfl ?_
  refine g_i2l dL_law_2844 ?_
  refine g_lcmp dL_law_2845 ?_
  exact g_if_eq (tgt := 2851) dL_law_2846 (by decide) (fun _ => fin) (fun q => absurd (lg_0.2 (ev hk0)) q)
theorem lc_43 {G : aG} {F : aF} {o : wO} {n s i L : Nat} {wx wm : wS} {u : Nat → Int64} {t : Tn} {z : Sy} {xs : Nat → Int32} {Q : aR → Prop} (hG : aGood G) (hT : aTxt G) (hX : aScr G L xs) (hN : aNc G) (h : LH F o n s) (r : RR t z o wx wm) (hi : i + 6 ≤ L) (hL : L ≤ 3072) (ih : IHs G i n s Q) : ∃ R, Q R ∧ AG G ML_law 2854 (lsL i) [] (F wx wm u) R := by
  obtain ⟨w', rm, F1, n1, s1, u1, k, e2, h1, ⟨b1, b2⟩, ha, ⟨z1, rr⟩, ek, ev⟩ := wr_walk (a1 := xs (i + 1)) (u := u) hG hN h r
  obtain ⟨R, hQ, K⟩ := ih F1 o t z1 w' rm.2 u1 n1 s1 h1 rr (by omega) (by omega)
  have hm := h1.2.1 w' u1
  have ho := h1.2.2.1 w' rm.2 u1
  refine ⟨R, hQ, ?_⟩
  refine g_aload_n dL_law_2854 rfl rfl ?_
  refine g_arg (i := i) (j := 1) hX (v := 1) dL_law_2855 dL_law_2856 dL_law_2858 dL_law_2859 dL_law_2860 rfl rfl rfl (by omega) hL ?_
  refine g_aload_n dL_law_2861 rfl rfl ?_
  refine g_callH (M' := ML_walk) (as := [.ref 40, .int (xs (i + 1)), .ref 132]) (v := some (.int k)) (aIn1 1353 (by decide +kernel) rfl) kH_walk (by decide) ha rfl (Nat.le_of_ble_eq_true rfl) dL_law_2862 ?_
  refine g_istore dL_law_2865 (by decide) rfl ?_
  refine g_aload_n dL_law_2867 rfl rfl ?_
  refine g_arg (i := i) (j := 1) hX (v := 1) dL_law_2868 dL_law_2869 dL_law_2871 dL_law_2872 dL_law_2873 rfl rfl rfl (by omega) hL ?_
  refine g_callV (M' := M_X10_walk) (as := [.int (xs (i + 1))]) (v := some (.int rm.1)) l_L_285 kV_X10_walk (by decide) (C_X10_walk hm e2) rfl (by decide) (hm.2.1 wm 0 _ rfl) ⟨_, _, rfl⟩ (Nat.le_of_ble_eq_true rfl) dL_law_2874 ?_
  refine g_istore dL_law_2877 (by decide) rfl ?_
  refine g_aload_n dL_law_2879 rfl rfl ?_
  refine g_callV (M' := M_X10_thrown) (as := []) (v := some (.int (rm.2.1 0))) l_L_149 kV_X10_thrown (by decide) (C_X10_thrown hm (thrown_s rm.2)) rfl (by decide) (hm.2.1 rm.2 0 _ rfl) ⟨_, _, rfl⟩ (Nat.le_of_ble_eq_true rfl) dL_law_2880 ?_
  refine g_iload dL_law_2883 rfl ?_
  refine g_icmp_eq (tgt := 2890) dL_law_2885 (by decide) (fun _ => ?_) (fun q => absurd ek q)
  refine g_iload dL_law_2890 rfl ?_
  have fin : AG G ML_law 2907 [some (.ref 0), some (.ref 40), some (.ref 100), some (.ref 132), some (.int (nI i)), some (.int k), some (.int rm.1)] [] (F1 w' rm.2 u1) R := by
    refine g_goto (tgt := 2947) dL_law_2907 (by decide) ?_
    refine g_none 5 ?_
    refine g_none 6 ?_
    exact K
  refine g_if_ne (tgt := 2907) dL_law_2892 (by decide) (fun _ => fin) (fun q => ?_)
  have hk0 : k = 0 := q
  refine g_aload_n dL_law_2895 rfl rfl ?_
  refine g_iconst (v := 0) dL_law_2896 (by decide) ?_
  refine g_lald dL_law_2897 (by decide) ho vp01 ?_
  refine g_iload dL_law_2898 rfl ?_
  refine g_i2l dL_law_2900 ?_
  refine g_lcmp dL_law_2901 ?_
  exact g_if_eq (tgt := 2907) dL_law_2902 (by decide) (fun _ => fin) (fun q => absurd (lg_0.2 (ev hk0)) q)
theorem lc_44 {G : aG} {F : aF} {o : wO} {n s i L : Nat} {wx wm : wS} {u : Nat → Int64} {t : Tn} {z : Sy} {xs : Nat → Int32} {Q : aR → Prop} (hG : aGood G) (hT : aTxt G) (hX : aScr G L xs) (hN : aNc G) (h : LH F o n s) (r : RR t z o wx wm) (hi : i + 6 ≤ L) (hL : L ≤ 3072) (ih : IHs G i n s Q) : ∃ R, Q R ∧ AG G ML_law 2910 (lsL i) [] (F wx wm u) R := by
  obtain ⟨rx, rm, e1, e2, hq⟩ := q_twins  r.1
  have hq := hq.RI r
  obtain ⟨⟨z1, rr⟩, eq⟩ := hq
  have hx := h.1 wm u
  have hm := h.2.1 rx.2 u
  obtain ⟨R, hQ, K⟩ := ih F o t z1 rx.2 rm.2 u n s h rr (by omega) (by omega)
  refine ⟨R, hQ, ?_⟩
  refine g_aload_n dL_law_2910 rfl rfl ?_
  refine g_callV (M' := M_X9_twins) (as := []) (v := (some (.int rx.1))) l_L_286 kV_X9_twins (by decide) (C_X9_twins hG hx e1) rfl (by decide) (hx.1.2.1 wx 0 _ rfl) ⟨_, _, rfl⟩ (Nat.le_of_ble_eq_true rfl) dL_law_2911 ?_
  refine g_aload_n dL_law_2914 rfl rfl ?_
  refine g_callV (M' := M_X10_twins) (as := []) (v := (some (.int rm.1))) l_L_289 kV_X10_twins (by decide) (C_X10_twins hm e2) rfl (by decide) (hm.2.1 wm 0 _ rfl) ⟨_, _, rfl⟩ (Nat.le_of_ble_eq_true rfl) dL_law_2915 ?_
  exact g_icmp_eq (tgt := 2947) dL_law_2918 (by decide) (fun _ => K) (fun q => absurd eq.symm q)
theorem lc_45 {G : aG} {F : aF} {o : wO} {n s i L : Nat} {wx wm : wS} {u : Nat → Int64} {t : Tn} {z : Sy} {xs : Nat → Int32} {Q : aR → Prop} (hG : aGood G) (hT : aTxt G) (hX : aScr G L xs) (hN : aNc G) (h : LH F o n s) (r : RR t z o wx wm) (hi : i + 6 ≤ L) (hL : L ≤ 3072) (ih : IHs G i n s Q) : ∃ R, Q R ∧ AG G ML_law 2923 (lsL i) [] (F wx wm u) R := by
  obtain ⟨rx, rm, e1, e2, hq⟩ := q_image  r
  obtain ⟨z1, rr⟩ := hq
  have hx := h.1 wm u
  have hm := h.2.1 rx u
  obtain ⟨R, hQ, K⟩ := ih F o t z1 rx rm u n s h rr (by omega) (by omega)
  refine ⟨R, hQ, ?_⟩
  refine g_aload_n dL_law_2923 rfl rfl ?_
  refine g_callV (M' := M_X9_image) (as := []) (v := none) l_L_290 kV_X9_image (by decide) (C_X9_image hG hx e1) rfl (by decide) (hx.1.2.1 wx 0 _ rfl) ⟨_, _, rfl⟩ (Nat.le_of_ble_eq_true rfl) dL_law_2924 ?_
  refine g_aload_n dL_law_2927 rfl rfl ?_
  refine g_callV (M' := M_X10_image) (as := []) (v := none) l_L_293 kV_X10_image (by decide) (C_X10_image hm e2) rfl (by decide) (hm.2.1 wm 0 _ rfl) ⟨_, _, rfl⟩ (Nat.le_of_ble_eq_true rfl) dL_law_2928 ?_
  refine g_goto (tgt := 2947) dL_law_2931 (by decide) ?_
  exact K
theorem lc_46 {G : aG} {F : aF} {o : wO} {n s i L : Nat} {wx wm : wS} {u : Nat → Int64} {t : Tn} {z : Sy} {xs : Nat → Int32} {Q : aR → Prop} (hG : aGood G) (hT : aTxt G) (hX : aScr G L xs) (hN : aNc G) (h : LH F o n s) (r : RR t z o wx wm) (hi : i + 6 ≤ L) (hL : L ≤ 3072) (ih : IHs G i n s Q) : ∃ R, Q R ∧ AG G ML_law 2934 (lsL i) [] (F wx wm u) R := by
  obtain ⟨rx, rm, e1, e2, hq⟩ := q_restore  r
  obtain ⟨⟨z1, rr⟩, eq⟩ := hq
  have hx := h.1 wm u
  have hm := h.2.1 rx.2 u
  obtain ⟨R, hQ, K⟩ := ih F o t z1 rx.2 rm.2 u n s h rr (by omega) (by omega)
  refine ⟨R, hQ, ?_⟩
  refine g_aload_n dL_law_2934 rfl rfl ?_
  refine g_callV (M' := M_X9_restore) (as := []) (v := (some (.int rx.1))) l_L_294 kV_X9_restore (by decide) (C_X9_restore hG hx e1) rfl (by decide) (hx.1.2.1 wx 0 _ rfl) ⟨_, _, rfl⟩ (Nat.le_of_ble_eq_true rfl) dL_law_2935 ?_
  refine g_aload_n dL_law_2938 rfl rfl ?_
  refine g_callV (M' := M_X10_restore) (as := []) (v := (some (.int rm.1))) l_L_298 kV_X10_restore (by decide) (C_X10_restore hm e2) rfl (by decide) (hm.2.1 wm 0 _ rfl) ⟨_, _, rfl⟩ (Nat.le_of_ble_eq_true rfl) dL_law_2939 ?_
  exact g_icmp_eq (tgt := 2947) dL_law_2942 (by decide) (fun _ => K) (fun q => absurd eq.symm q)
end
