def B_J7_fill_53178_x14_5 (o : wO) (kh5 : Int32 → Int32 → Int32 → wS → Option (wS)) (ke20 : wS → Option (wS)) (x1 : Int32) (x2 : Int32) (x3 : Int32) (w : wS) : Option (wS) :=
  if x3 ≤ x2 then ke20  w else xB (xAst w 14 33 (x2) (x1)) fun w1 => kh5 (x1) ((x2 + 1)) (x3) w1
set_option maxRecDepth 20000 in
theorem B_J7_fill_53178_x14_5_ok {G : aG} {Hf : wS → aH} {bx : Nat} {o : wO} {kh5 : Int32 → Int32 → Int32 → wS → Option (wS)} {ke20 : wS → Option (wS)} {x1 : Int32} {x2 : Int32} {x3 : Int32} {w : wS} {r : wS} (hG : aGood G) (E : EX Hf bx o) (hL : B_J7_fill_53178_x14_5 o kh5 ke20 x1 x2 x3 w = some r) (Hkh5 : ∀ (z0 : Int32) (z1 : Int32) (z2 : Int32) (w : wS), kh5 z0 z1 z2 w = some r → AG G M_J7_fill_53178 5 [some (.ref (bx + 14)), some (.int (z0)), some (.int (z1)), some (.int (z2))] [] (Hf w) (.inl none, Hf r)) (Hke20 : ∀ (w : wS), ke20  w = some r → AG G M_J7_fill_53178 20 [none, none, none, none] [] (Hf w) (.inl none, Hf r)) : AG G M_J7_fill_53178 5 [some (.ref (bx + 14)), some (.int (x1)), some (.int (x2)), some (.int (x3))] [] (Hf w) (.inl none, Hf r) := by
  unfold B_J7_fill_53178_x14_5 at hL
  refine g_iload_n dJ7_fill_53178_5 rfl rfl ?_
  refine g_iload_n dJ7_fill_53178_6 rfl rfl ?_
  refine g_icmp_ge (tgt := 20) dJ7_fill_53178_7 (by decide) (fun q2 => ?_) (fun q2 => ?_)
  · rw [if_pos q2] at hL
    refine g_none 0 ?_
    refine g_none 1 ?_
    refine g_none 2 ?_
    refine g_none 3 ?_
    exact Hke20  _ hL
  · rw [if_neg q2] at hL
    refine g_aload_n dJ7_fill_53178_10 rfl rfl ?_
    refine g_iload_n dJ7_fill_53178_11 rfl rfl ?_
    refine g_iload_n dJ7_fill_53178_12 rfl rfl ?_
    refine s_iast (k := 14) E.1 hL rfl dJ7_fill_53178_13 ?_
    intro w1 hL
    refine g_iincV (v := (x2 + 1)) dJ7_fill_53178_14 rfl rfl (by decide) rfl ?_
    refine g_goto (tgt := 5) dJ7_fill_53178_17 (by decide) ?_
    exact Hkh5 _ _ _ _ hL
def P_J7_fill_53178_x14_5 (o : wO) (ke20 : wS → Option (wS)) (n : Nat) (x1 : Int32) (x2 : Int32) (x3 : Int32) (w : wS) : Option (wS) :=
  xLoop (fun (kk : Int32 × Int32 × Int32 × wS → Option (wS)) σ => B_J7_fill_53178_x14_5 o (fun x1 x2 x3 w => kk (x1, x2, x3, w)) ke20 (σ.1) (σ.2.1) (σ.2.2.1) (σ.2.2.2)) n (x1, x2, x3, w)
theorem P_J7_fill_53178_x14_5_ok {G : aG} {Hf : wS → aH} {bx : Nat} {o : wO} {ke20 : wS → Option (wS)} {n : Nat} {x1 : Int32} {x2 : Int32} {x3 : Int32} {w : wS} {r : wS} (hG : aGood G) (E : EX Hf bx o) (hL : P_J7_fill_53178_x14_5 o ke20 n x1 x2 x3 w = some r) (Hke20 : ∀ (w : wS), ke20  w = some r → AG G M_J7_fill_53178 20 [none, none, none, none] [] (Hf w) (.inl none, Hf r)) : AG G M_J7_fill_53178 5 [some (.ref (bx + 14)), some (.int (x1)), some (.int (x2)), some (.int (x3))] [] (Hf w) (.inl none, Hf r) :=
  xLoop_ok (Q := fun (σ : Int32 × Int32 × Int32 × wS) => AG G M_J7_fill_53178 5 [some (.ref (bx + 14)), some (.int (σ.1)), some (.int (σ.2.1)), some (.int (σ.2.2.1))] [] (Hf σ.2.2.2) (.inl none, Hf r)) (fun kk hk σ hσ => B_J7_fill_53178_x14_5_ok hG E hσ (fun x1 x2 x3 w h9 => hk (x1, x2, x3, w) h9) Hke20) n (x1, x2, x3, w) hL
def L_J7_fill_53178_x14 (o : wO) (a2 : Int32) (w : wS) : Option (wS) :=
  P_J7_fill_53178_x14_5 o (fun w3 => some w3) 5000 (a2) (0) (33) w
set_option maxRecDepth 20000 in
theorem C_J7_fill_53178_x14 {G : aG} {Hf : wS → aH} {bx : Nat} {o : wO} {a2 : Int32} {w : wS} {r : wS} (hG : aGood G) (E : EX Hf bx o) (hL : L_J7_fill_53178_x14 o a2 w = some r) : AC G M_J7_fill_53178 [.ref (bx + 14), .int a2] (Hf w) (.inl none, Hf r) := by
  unfold L_J7_fill_53178_x14 at hL
  refine AC.of (by decide) rfl (Nat.le_of_ble_eq_true rfl) ?_
  show AG G M_J7_fill_53178 0 [some (.ref (bx + 14)), some (.int (a2)), none, none] [] _ _
  refine g_iconst (v := 0) dJ7_fill_53178_0 (by decide) ?_
  refine g_istore_n (i := 2) dJ7_fill_53178_1 rfl (by decide) rfl ?_
  refine g_aload_n dJ7_fill_53178_2 rfl rfl ?_
  refine g_alen (v := 33) dJ7_fill_53178_3 (by have := E.1.1; omega) (show 0 < 4 by decide) (E.1.2.1 _ 14 _ rfl) rfl ?_
  refine g_istore_n (i := 3) dJ7_fill_53178_4 rfl (by decide) rfl ?_
  refine P_J7_fill_53178_x14_5_ok hG E hL ?_
  · intro w3 hL
    obtain rfl := Option.some.inj hL
    exact g_vret rfl dJ7_fill_53178_20
def L_X5_begin_x13_t0 (o : wO) (w : wS) : Option (wS) :=
  xB (L_J7_fill_53178_x14 o (0) w) fun w1 => xB (xAst w1 14 33 (0) ((-1))) fun w2 => xB (xCpy w2 1003 14 8 33 (0) (1) (8)) fun w3 => xB (xCpy w3 1005 14 6 33 (0) (25) (6)) fun w4 => some w4
set_option maxRecDepth 20000 in
theorem C_X5_begin_x13_t0 {G : aG} {Hf : wS → aH} {bx : Nat} {o : wO} {w : wS} {r : wS} (hG : aGood G) (E : EX Hf bx o) (hL : L_X5_begin_x13_t0 o  w = some r) : AC G M_X5_begin [.ref (bx + 13), .ref (oT o + 0)] (Hf w) (.inl none, Hf r) := by
  unfold L_X5_begin_x13_t0 at hL
  refine AC.of (by decide) rfl (Nat.le_of_ble_eq_true rfl) ?_
  show AG G M_X5_begin 0 [some (.ref (bx + 13)), some (.ref (oT o + 0))] [] _ _
  refine g_aload_n dX5_begin_0 rfl rfl ?_
  refine s_getR (k := 13) (j := 0) E.1 rfl rfl f_X5_11 dX5_begin_1 ?_
  refine g_iconst (v := 0) dX5_begin_4 (by decide) ?_
  obtain ⟨w1, hc, hL⟩ := xB_some hL
  refine g_callS (M' := M_J7_fill_53178) (as := [.ref (bx + 14), .int (0)]) (v := none) l_X5_15 kS_J7_fill_53178 (by decide) (C_J7_fill_53178_x14 hG E hc) rfl (Nat.le_of_ble_eq_true rfl) dX5_begin_5 ?_
  refine g_aload_n dX5_begin_8 rfl rfl ?_
  refine s_getR (k := 13) (j := 0) E.1 rfl rfl f_X5_11 dX5_begin_9 ?_
  refine g_iconst (v := 0) dX5_begin_12 (by decide) ?_
  refine g_iconst (v := (-1)) dX5_begin_13 (by decide) ?_
  refine s_iast (k := 14) E.1 hL rfl dX5_begin_14 ?_
  intro w2 hL
  refine g_aload_n dX5_begin_15 rfl rfl ?_
  refine s_getR (k := 0) (j := 2) E.2.1 rfl rfl f_X5_21 dX5_begin_16 ?_
  refine g_iconst (v := 0) dX5_begin_19 (by decide) ?_
  refine g_aload_n dX5_begin_20 rfl rfl ?_
  refine s_getR (k := 13) (j := 0) E.1 rfl rfl f_X5_11 dX5_begin_21 ?_
  refine g_iconst (v := 1) dX5_begin_24 (by decide) ?_
  refine g_bipush (v := 8) dX5_begin_25 (by decide) ?_
  refine s_copy (k0 := 3) (k1 := 14) E.2.1 E.1 hL rfl rfl (aIn1 450 (by decide +kernel) rfl) ac_nat ac_sta ac_ini (by decide) (Nat.le_of_ble_eq_true rfl) dX5_begin_27 ?_
  intro w3 hL
  refine g_aload_n dX5_begin_30 rfl rfl ?_
  refine g_none 1 ?_
  refine s_getR (k := 0) (j := 4) E.2.1 rfl rfl f_X5_32 dX5_begin_31 ?_
  refine g_iconst (v := 0) dX5_begin_34 (by decide) ?_
  refine g_aload_n dX5_begin_35 rfl rfl ?_
  refine g_none 0 ?_
  refine s_getR (k := 13) (j := 0) E.1 rfl rfl f_X5_11 dX5_begin_36 ?_
  refine g_bipush (v := 25) dX5_begin_39 (by decide) ?_
  refine g_bipush (v := 6) dX5_begin_41 (by decide) ?_
  refine s_copy (k0 := 5) (k1 := 14) E.2.1 E.1 hL rfl rfl (aIn1 450 (by decide +kernel) rfl) ac_nat ac_sta ac_ini (by decide) (Nat.le_of_ble_eq_true rfl) dX5_begin_43 ?_
  intro w4 hL
  obtain rfl := Option.some.inj hL
  exact g_vret rfl dX5_begin_46
def L_X0_clear_x15 (o : wO) (w : wS) : Option (wS) :=
  xB (xPut w 1502 (0)) fun w1 => some w1
set_option maxRecDepth 20000 in
theorem C_X0_clear_x15 {G : aG} {Hf : wS → aH} {bx : Nat} {o : wO} {w : wS} {r : wS} (hG : aGood G) (E : EX Hf bx o) (hL : L_X0_clear_x15 o  w = some r) : AC G M_X0_clear [.ref (bx + 15)] (Hf w) (.inl none, Hf r) := by
  unfold L_X0_clear_x15 at hL
  refine AC.of (by decide) rfl (Nat.le_of_ble_eq_true rfl) ?_
  show AG G M_X0_clear 0 [some (.ref (bx + 15))] [] _ _
  refine g_aload_n dX0_clear_0 rfl rfl ?_
  refine g_none 0 ?_
  refine g_iconst (v := 0) dX0_clear_1 (by decide) ?_
  refine s_putI (k := 15) (j := 2) E.1 hL rfl rfl (by decide) fw_X0_21 rfl rfl dX0_clear_2 ?_
  intro w1 hL
  obtain rfl := Option.some.inj hL
  exact g_vret rfl dX0_clear_5
def L_X6_begin_x12_t0 (o : wO) (w : wS) : Option (wS) :=
  xB (L_X5_begin_x13_t0 o  w) fun w1 => xB (L_X0_clear_x15 o  w1) fun w2 => xB (xPut w2 1703 (0)) fun w3 => some w3
set_option maxRecDepth 20000 in
theorem C_X6_begin_x12_t0 {G : aG} {Hf : wS → aH} {bx : Nat} {o : wO} {w : wS} {r : wS} (hG : aGood G) (E : EX Hf bx o) (hL : L_X6_begin_x12_t0 o  w = some r) : AC G M_X6_begin [.ref (bx + 12), .ref (oT o + 0)] (Hf w) (.inl none, Hf r) := by
  unfold L_X6_begin_x12_t0 at hL
  refine AC.of (by decide) rfl (Nat.le_of_ble_eq_true rfl) ?_
  show AG G M_X6_begin 0 [some (.ref (bx + 12)), some (.ref (oT o + 0))] [] _ _
  refine g_aload_n dX6_begin_0 rfl rfl ?_
  refine s_getR (k := 12) (j := 0) E.1 rfl rfl f_X6_10 dX6_begin_1 ?_
  refine g_aload_n dX6_begin_4 rfl rfl ?_
  refine g_none 1 ?_
  obtain ⟨w1, hc, hL⟩ := xB_some hL
  refine g_callV (M' := M_X5_begin) (as := [.ref (oT o + 0)]) (v := none) l_X6_30 kV_X5_begin (by decide) (C_X5_begin_x13_t0 hG E hc) rfl (by have := E.1.1; omega) (E.1.2.1 _ 13 _ rfl) ⟨_, _, rfl⟩ (Nat.le_of_ble_eq_true rfl) dX6_begin_5 ?_
  refine g_aload_n dX6_begin_8 rfl rfl ?_
  refine s_getR (k := 12) (j := 1) E.1 rfl rfl f_X6_19 dX6_begin_9 ?_
  obtain ⟨w2, hc, hL⟩ := xB_some hL
  refine g_callV (M' := M_X0_clear) (as := []) (v := none) l_X6_34 kV_X0_clear (by decide) (C_X0_clear_x15 hG E hc) rfl (by have := E.1.1; omega) (E.1.2.1 _ 15 _ rfl) ⟨_, _, rfl⟩ (Nat.le_of_ble_eq_true rfl) dX6_begin_12 ?_
  refine g_aload_n dX6_begin_15 rfl rfl ?_
  refine g_none 0 ?_
  refine s_getR (k := 12) (j := 2) E.1 rfl rfl f_X6_26 dX6_begin_16 ?_
  refine g_iconst (v := 0) dX6_begin_19 (by decide) ?_
  refine s_putI (k := 17) (j := 3) E.1 hL rfl rfl (by decide) fw_X6_37 rfl rfl dX6_begin_20 ?_
  intro w3 hL
  obtain rfl := Option.some.inj hL
  exact g_vret rfl dX6_begin_23
