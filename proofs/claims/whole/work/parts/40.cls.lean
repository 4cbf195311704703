def J_X7_put_40 (o : wO) (kh3 : Int32 → Int32 → wS → Option (wS)) (ke46 : wS → Option (wS)) (x1 : Int32) (x2 : Int32) (w : wS) : Option (wS) :=
  kh3 (x1) ((x2 + (-8))) w
set_option maxRecDepth 20000 in
theorem J_X7_put_40_ok {G : aG} {Hf : wS → aH} {bx : Nat} {o : wO} {kh3 : Int32 → Int32 → wS → Option (wS)} {ke46 : wS → Option (wS)} {x1 : Int32} {x2 : Int32} {w : wS} {r : wS} (hG : aGood G) (E : EX Hf bx o) (hL : J_X7_put_40 o kh3 ke46 x1 x2 w = some r) (Hkh3 : ∀ (z0 : Int32) (z1 : Int32) (w : wS), kh3 z0 z1 w = some r → AG G M_X7_put 3 [some (.ref (bx + 2)), some (.int (z0)), some (.int (z1))] [] (Hf w) (.inl none, Hf r)) (Hke46 : ∀ (w : wS), ke46  w = some r → AG G M_X7_put 46 [none, none, none] [] (Hf w) (.inl none, Hf r)) : AG G M_X7_put 40 [some (.ref (bx + 2)), some (.int (x1)), some (.int (x2))] [] (Hf w) (.inl none, Hf r) := by
  unfold J_X7_put_40 at hL
  refine g_iincV (v := (x2 + (-8))) dX7_put_40 rfl rfl (by decide) rfl ?_
  refine g_goto (tgt := 3) dX7_put_43 (by decide) ?_
  exact Hkh3 _ _ _ hL
def B_X7_put_3 (o : wO) (kh3 : Int32 → Int32 → wS → Option (wS)) (ke46 : wS → Option (wS)) (x1 : Int32) (x2 : Int32) (w : wS) : Option (wS) :=
  if x2 < 0 then ke46  w else xB (xGet w 201) fun v1 => if 700 ≤ v1 then J_X7_put_40 o kh3 ke46 (x1) (x2) w else xB (xGet w 201) fun v2 => xB (xAst w 3 700 (v2) (vp_nar .byte (((x1 >>> (x2 &&& 31)) : Int32).toInt8.toInt32))) fun w3 => xB (xGet w3 201) fun v4 => xB (xPut w3 201 ((v4 + (1 : Int32)))) fun w5 => J_X7_put_40 o kh3 ke46 (x1) (x2) w5
set_option maxRecDepth 20000 in
theorem B_X7_put_3_ok {G : aG} {Hf : wS → aH} {bx : Nat} {o : wO} {kh3 : Int32 → Int32 → wS → Option (wS)} {ke46 : wS → Option (wS)} {x1 : Int32} {x2 : Int32} {w : wS} {r : wS} (hG : aGood G) (E : EX Hf bx o) (hL : B_X7_put_3 o kh3 ke46 x1 x2 w = some r) (Hkh3 : ∀ (z0 : Int32) (z1 : Int32) (w : wS), kh3 z0 z1 w = some r → AG G M_X7_put 3 [some (.ref (bx + 2)), some (.int (z0)), some (.int (z1))] [] (Hf w) (.inl none, Hf r)) (Hke46 : ∀ (w : wS), ke46  w = some r → AG G M_X7_put 46 [none, none, none] [] (Hf w) (.inl none, Hf r)) : AG G M_X7_put 3 [some (.ref (bx + 2)), some (.int (x1)), some (.int (x2))] [] (Hf w) (.inl none, Hf r) := by
  unfold B_X7_put_3 at hL
  refine g_iload_n dX7_put_3 rfl rfl ?_
  refine g_if_lt (tgt := 46) dX7_put_4 (by decide) (fun q7 => ?_) (fun q7 => ?_)
  · rw [if_pos q7] at hL
    refine g_none 0 ?_
    refine g_none 1 ?_
    refine g_none 2 ?_
    exact Hke46  _ hL
  · rw [if_neg q7] at hL
    refine g_aload_n dX7_put_7 rfl rfl ?_
    refine s_getI (k := 2) (j := 1) E.1 hL rfl rfl f_X7_15 dX7_put_8 ?_
    intro v1 hL
    refine g_sipush (v := 700) dX7_put_11 (by decide) ?_
    refine g_icmp_ge (tgt := 40) dX7_put_14 (by decide) (fun q6 => ?_) (fun q6 => ?_)
    · rw [if_pos q6] at hL
      exact J_X7_put_40_ok hG E hL Hkh3 Hke46
    · rw [if_neg q6] at hL
      refine g_aload_n dX7_put_17 rfl rfl ?_
      refine s_getR (k := 2) (j := 0) E.1 rfl rfl f_X7_9 dX7_put_18 ?_
      refine g_aload_n dX7_put_21 rfl rfl ?_
      refine s_getI (k := 2) (j := 1) E.1 hL rfl rfl f_X7_15 dX7_put_22 ?_
      intro v2 hL
      refine g_iload_n dX7_put_25 rfl rfl ?_
      refine g_iload_n dX7_put_26 rfl rfl ?_
      refine g_ishr dX7_put_27 ?_
      refine g_i2b dX7_put_28 ?_
      refine s_bast (k := 3) E.1 hL rfl dX7_put_29 ?_
      intro w3 hL
      refine g_aload_n dX7_put_30 rfl rfl ?_
      refine g_dup dX7_put_31 rfl ?_
      refine s_getI (k := 2) (j := 1) E.1 hL rfl rfl f_X7_15 dX7_put_32 ?_
      intro v4 hL
      refine g_iconst (v := 1) dX7_put_35 (by decide) ?_
      refine g_iadd dX7_put_36 ?_
      refine s_putI (k := 2) (j := 1) E.1 hL rfl rfl (by decide) fw_X7_15 rfl rfl dX7_put_37 ?_
      intro w5 hL
      exact J_X7_put_40_ok hG E hL Hkh3 Hke46
def P_X7_put_3 (o : wO) (ke46 : wS → Option (wS)) (n : Nat) (x1 : Int32) (x2 : Int32) (w : wS) : Option (wS) :=
  xLoop (fun (kk : Int32 × Int32 × wS → Option (wS)) σ => B_X7_put_3 o (fun x1 x2 w => kk (x1, x2, w)) ke46 (σ.1) (σ.2.1) (σ.2.2)) n (x1, x2, w)
theorem P_X7_put_3_ok {G : aG} {Hf : wS → aH} {bx : Nat} {o : wO} {ke46 : wS → Option (wS)} {n : Nat} {x1 : Int32} {x2 : Int32} {w : wS} {r : wS} (hG : aGood G) (E : EX Hf bx o) (hL : P_X7_put_3 o ke46 n x1 x2 w = some r) (Hke46 : ∀ (w : wS), ke46  w = some r → AG G M_X7_put 46 [none, none, none] [] (Hf w) (.inl none, Hf r)) : AG G M_X7_put 3 [some (.ref (bx + 2)), some (.int (x1)), some (.int (x2))] [] (Hf w) (.inl none, Hf r) :=
  xLoop_ok (Q := fun (σ : Int32 × Int32 × wS) => AG G M_X7_put 3 [some (.ref (bx + 2)), some (.int (σ.1)), some (.int (σ.2.1))] [] (Hf σ.2.2) (.inl none, Hf r)) (fun kk hk σ hσ => B_X7_put_3_ok hG E hσ (fun x1 x2 w h9 => hk (x1, x2, w) h9) Hke46) n (x1, x2, w) hL
def L_X7_put (o : wO) (a1 : Int32) (w : wS) : Option (wS) :=
  P_X7_put_3 o (fun w8 => some w8) 5000 (a1) (24) w
set_option maxRecDepth 20000 in
theorem C_X7_put {G : aG} {Hf : wS → aH} {bx : Nat} {o : wO} {a1 : Int32} {w : wS} {r : wS} (hG : aGood G) (E : EX Hf bx o) (hL : L_X7_put o a1 w = some r) : AC G M_X7_put [.ref (bx + 2), .int a1] (Hf w) (.inl none, Hf r) := by
  unfold L_X7_put at hL
  refine AC.of (by decide) rfl (Nat.le_of_ble_eq_true rfl) ?_
  show AG G M_X7_put 0 [some (.ref (bx + 2)), some (.int (a1)), none] [] _ _
  refine g_bipush (v := 24) dX7_put_0 (by decide) ?_
  refine g_istore_n (i := 2) dX7_put_2 rfl (by decide) rfl ?_
  refine P_X7_put_3_ok hG E hL ?_
  · intro w8 hL
    obtain rfl := Option.some.inj hL
    exact g_vret rfl dX7_put_46
def L_X9_feed (o : wO) (a1 : Int32) (a2 : Int32) (a3 : Int32) (a4 : Int32) (a5 : Int32) (w : wS) : Option (Int32 × wS) :=
  xB (xGet w 201) fun v1 => if (v1 + (20 : Int32)) ≤ 700 then xB (L_X7_put o (a1) w) fun w2 => xB (L_X7_put o (a2) w2) fun w3 => xB (L_X7_put o (a3) w3) fun w4 => xB (L_X7_put o (a4) w4) fun w5 => xB (L_X7_put o (a5) w5) fun w6 => xB (xGet w6 201) fun v7 => some (v7, w6) else some ((-1), w)
set_option maxRecDepth 20000 in
theorem C_X9_feed {G : aG} {Hf : wS → aH} {bx : Nat} {o : wO} {a1 : Int32} {a2 : Int32} {a3 : Int32} {a4 : Int32} {a5 : Int32} {w : wS} {r : Int32 × wS} (hG : aGood G) (E : EX Hf bx o) (hL : L_X9_feed o a1 a2 a3 a4 a5 w = some r) : AC G M_X9_feed [.ref (bx + 0), .int a1, .int a2, .int a3, .int a4, .int a5] (Hf w) (.inl (some (.int r.1)), Hf r.2) := by
  unfold L_X9_feed at hL
  refine AC.of (by decide) rfl (Nat.le_of_ble_eq_true rfl) ?_
  show AG G M_X9_feed 0 [some (.ref (bx + 0)), some (.int (a1)), some (.int (a2)), some (.int (a3)), some (.int (a4)), some (.int (a5)), none] [] _ _
  refine g_aload_n dX9_feed_0 rfl rfl ?_
  refine g_none 0 ?_
  refine s_getR (k := 0) (j := 0) E.1 rfl rfl f_X9_10 dX9_feed_1 ?_
  refine s_getR (k := 1) (j := 0) E.1 rfl rfl f_X9_67 dX9_feed_4 ?_
  refine g_astore (i := 6) dX9_feed_7 (by decide) rfl ?_
  refine g_aload dX9_feed_9 rfl ?_
  refine s_getI (k := 2) (j := 1) E.1 hL rfl rfl f_X9_71 dX9_feed_11 ?_
  intro v1 hL
  refine g_bipush (v := 20) dX9_feed_14 (by decide) ?_
  refine g_iadd dX9_feed_16 ?_
  refine g_sipush (v := 700) dX9_feed_17 (by decide) ?_
  refine g_icmp_le (tgt := 25) dX9_feed_20 (by decide) (fun q8 => ?_) (fun q8 => ?_)
  · rw [if_pos q8] at hL
    refine g_aload dX9_feed_25 rfl ?_
    refine g_iload_n dX9_feed_27 rfl rfl ?_
    refine g_none 1 ?_
    obtain ⟨w2, hc, hL⟩ := xB_some hL
    refine g_callV (M' := M_X7_put) (as := [.int (a1)]) (v := none) l_X9_76 kV_X7_put (by decide) (C_X7_put hG E hc) rfl (by have := E.1.1; omega) (E.1.2.1 _ 2 _ rfl) ⟨_, _, rfl⟩ (Nat.le_of_ble_eq_true rfl) dX9_feed_28 ?_
    refine g_aload dX9_feed_31 rfl ?_
    refine g_iload_n dX9_feed_33 rfl rfl ?_
    refine g_none 2 ?_
    obtain ⟨w3, hc, hL⟩ := xB_some hL
    refine g_callV (M' := M_X7_put) (as := [.int (a2)]) (v := none) l_X9_76 kV_X7_put (by decide) (C_X7_put hG E hc) rfl (by have := E.1.1; omega) (E.1.2.1 _ 2 _ rfl) ⟨_, _, rfl⟩ (Nat.le_of_ble_eq_true rfl) dX9_feed_34 ?_
    refine g_aload dX9_feed_37 rfl ?_
    refine g_iload_n dX9_feed_39 rfl rfl ?_
    refine g_none 3 ?_
    obtain ⟨w4, hc, hL⟩ := xB_some hL
    refine g_callV (M' := M_X7_put) (as := [.int (a3)]) (v := none) l_X9_76 kV_X7_put (by decide) (C_X7_put hG E hc) rfl (by have := E.1.1; omega) (E.1.2.1 _ 2 _ rfl) ⟨_, _, rfl⟩ (Nat.le_of_ble_eq_true rfl) dX9_feed_40 ?_
    refine g_aload dX9_feed_43 rfl ?_
    refine g_iload dX9_feed_45 rfl ?_
    refine g_none 4 ?_
    obtain ⟨w5, hc, hL⟩ := xB_some hL
    refine g_callV (M' := M_X7_put) (as := [.int (a4)]) (v := none) l_X9_76 kV_X7_put (by decide) (C_X7_put hG E hc) rfl (by have := E.1.1; omega) (E.1.2.1 _ 2 _ rfl) ⟨_, _, rfl⟩ (Nat.le_of_ble_eq_true rfl) dX9_feed_47 ?_
    refine g_aload dX9_feed_50 rfl ?_
    refine g_iload dX9_feed_52 rfl ?_
    refine g_none 5 ?_
    obtain ⟨w6, hc, hL⟩ := xB_some hL
    refine g_callV (M' := M_X7_put) (as := [.int (a5)]) (v := none) l_X9_76 kV_X7_put (by decide) (C_X7_put hG E hc) rfl (by have := E.1.1; omega) (E.1.2.1 _ 2 _ rfl) ⟨_, _, rfl⟩ (Nat.le_of_ble_eq_true rfl) dX9_feed_54 ?_
    refine g_aload dX9_feed_57 rfl ?_
    refine g_none 6 ?_
    refine s_getI (k := 2) (j := 1) E.1 hL rfl rfl f_X9_71 dX9_feed_59 ?_
    intro v7 hL
    obtain rfl := Option.some.inj hL
    exact g_iret rfl dX9_feed_62
  · rw [if_neg q8] at hL
    refine g_none 1 ?_
    refine g_none 2 ?_
    refine g_none 3 ?_
    refine g_none 4 ?_
    refine g_none 5 ?_
    refine g_none 6 ?_
    refine g_iconst (v := (-1)) dX9_feed_23 (by decide) ?_
    obtain rfl := Option.some.inj hL
    exact g_iret rfl dX9_feed_24
def L_X9_fault (o : wO) (w : wS) : Option (Int32 × wS) :=
  xB (xGet w 11) fun v1 => some (v1, w)
set_option maxRecDepth 20000 in
theorem C_X9_fault {G : aG} {Hf : wS → aH} {bx : Nat} {o : wO} {w : wS} {r : Int32 × wS} (hG : aGood G) (E : EX Hf bx o) (hL : L_X9_fault o  w = some r) : AC G M_X9_fault [.ref (bx + 0)] (Hf w) (.inl (some (.int r.1)), Hf r.2) := by
  unfold L_X9_fault at hL
  refine AC.of (by decide) rfl (Nat.le_of_ble_eq_true rfl) ?_
  show AG G M_X9_fault 0 [some (.ref (bx + 0))] [] _ _
  refine g_aload_n dX9_fault_0 rfl rfl ?_
  refine g_none 0 ?_
  refine s_getI (k := 0) (j := 11) E.1 hL rfl rfl f_X9_63 dX9_fault_1 ?_
  intro v1 hL
  obtain rfl := Option.some.inj hL
  exact g_iret rfl dX9_fault_4
def L_X5_day_x13 (o : wO) (w : wS) : Option (Int32 × wS) :=
  xB (xAld w 14 33 (31)) fun v1 => some (v1, w)
set_option maxRecDepth 20000 in
theorem C_X5_day_x13 {G : aG} {Hf : wS → aH} {bx : Nat} {o : wO} {w : wS} {r : Int32 × wS} (hG : aGood G) (E : EX Hf bx o) (hL : L_X5_day_x13 o  w = some r) : AC G M_X5_day [.ref (bx + 13)] (Hf w) (.inl (some (.int r.1)), Hf r.2) := by
  unfold L_X5_day_x13 at hL
  refine AC.of (by decide) rfl (Nat.le_of_ble_eq_true rfl) ?_
  show AG G M_X5_day 0 [some (.ref (bx + 13))] [] _ _
  refine g_aload_n dX5_day_0 rfl rfl ?_
  refine g_none 0 ?_
  refine s_getR (k := 13) (j := 0) E.1 rfl rfl f_X5_11 dX5_day_1 ?_
  refine g_bipush (v := 31) dX5_day_4 (by decide) ?_
  refine s_iald (k := 14) E.1 hL rfl dX5_day_6 ?_
  intro v1 hL
  obtain rfl := Option.some.inj hL
  exact g_iret rfl dX5_day_7
def L_X5_ringer_x13 (o : wO) (w : wS) : Option (Int32 × wS) :=
  xB (xAld w 14 33 (0)) fun v1 => some (v1, w)
set_option maxRecDepth 20000 in
theorem C_X5_ringer_x13 {G : aG} {Hf : wS → aH} {bx : Nat} {o : wO} {w : wS} {r : Int32 × wS} (hG : aGood G) (E : EX Hf bx o) (hL : L_X5_ringer_x13 o  w = some r) : AC G M_X5_ringer [.ref (bx + 13)] (Hf w) (.inl (some (.int r.1)), Hf r.2) := by
  unfold L_X5_ringer_x13 at hL
  refine AC.of (by decide) rfl (Nat.le_of_ble_eq_true rfl) ?_
  show AG G M_X5_ringer 0 [some (.ref (bx + 13))] [] _ _
  refine g_aload_n dX5_ringer_0 rfl rfl ?_
  refine g_none 0 ?_
  refine s_getR (k := 13) (j := 0) E.1 rfl rfl f_X5_11 dX5_ringer_1 ?_
  refine g_iconst (v := 0) dX5_ringer_4 (by decide) ?_
  refine s_iald (k := 14) E.1 hL rfl dX5_ringer_5 ?_
  intro v1 hL
  obtain rfl := Option.some.inj hL
  exact g_iret rfl dX5_ringer_6
def L_X5_illBits_x13 (o : wO) (w : wS) : Option (Int32 × wS) :=
  xB (xAld w 14 33 (32)) fun v1 => some (v1, w)
set_option maxRecDepth 20000 in
theorem C_X5_illBits_x13 {G : aG} {Hf : wS → aH} {bx : Nat} {o : wO} {w : wS} {r : Int32 × wS} (hG : aGood G) (E : EX Hf bx o) (hL : L_X5_illBits_x13 o  w = some r) : AC G M_X5_illBits [.ref (bx + 13)] (Hf w) (.inl (some (.int r.1)), Hf r.2) := by
  unfold L_X5_illBits_x13 at hL
  refine AC.of (by decide) rfl (Nat.le_of_ble_eq_true rfl) ?_
  show AG G M_X5_illBits 0 [some (.ref (bx + 13))] [] _ _
  refine g_aload_n dX5_illBits_0 rfl rfl ?_
  refine g_none 0 ?_
  refine s_getR (k := 13) (j := 0) E.1 rfl rfl f_X5_11 dX5_illBits_1 ?_
  refine g_bipush (v := 32) dX5_illBits_4 (by decide) ?_
  refine s_iald (k := 14) E.1 hL rfl dX5_illBits_6 ?_
  intro v1 hL
  obtain rfl := Option.some.inj hL
  exact g_iret rfl dX5_illBits_7
def L_X5_hasteOf_x13 (o : wO) (a1 : Int32) (w : wS) : Option (Int32 × wS) :=
  xB (xAld w 14 33 (((1 : Int32) + a1))) fun v1 => some (v1, w)
set_option maxRecDepth 20000 in
theorem C_X5_hasteOf_x13 {G : aG} {Hf : wS → aH} {bx : Nat} {o : wO} {a1 : Int32} {w : wS} {r : Int32 × wS} (hG : aGood G) (E : EX Hf bx o) (hL : L_X5_hasteOf_x13 o a1 w = some r) : AC G M_X5_hasteOf [.ref (bx + 13), .int a1] (Hf w) (.inl (some (.int r.1)), Hf r.2) := by
  unfold L_X5_hasteOf_x13 at hL
  refine AC.of (by decide) rfl (Nat.le_of_ble_eq_true rfl) ?_
  show AG G M_X5_hasteOf 0 [some (.ref (bx + 13)), some (.int (a1))] [] _ _
  refine g_aload_n dX5_hasteOf_0 rfl rfl ?_
  refine g_none 0 ?_
  refine s_getR (k := 13) (j := 0) E.1 rfl rfl f_X5_11 dX5_hasteOf_1 ?_
  refine g_iconst (v := 1) dX5_hasteOf_4 (by decide) ?_
  refine g_iload_n dX5_hasteOf_5 rfl rfl ?_
  refine g_none 1 ?_
  refine g_iadd dX5_hasteOf_6 ?_
  refine s_iald (k := 14) E.1 hL rfl dX5_hasteOf_7 ?_
  intro v1 hL
  obtain rfl := Option.some.inj hL
  exact g_iret rfl dX5_hasteOf_8
def B_X9_hasteOfAll_x13_4 (o : wO) (kh4 : Int32 → Int32 → wS → Option (Int32 × wS)) (ke29 : Int32 → wS → Option (Int32 × wS)) (x2 : Int32) (x3 : Int32) (w : wS) : Option (Int32 × wS) :=
  xIf (xRef w 9 (oT o + 0)) (xB (xGet w 100006) fun v1 => if v1 ≤ x3 then ke29 (x2) w else xB2 (L_X5_hasteOf_x13 o (x3) w) fun v2 w3 => kh4 ((x2 + v2)) ((x3 + 1)) w3)
set_option maxRecDepth 20000 in
theorem B_X9_hasteOfAll_x13_4_ok {G : aG} {Hf : wS → aH} {bx : Nat} {o : wO} {kh4 : Int32 → Int32 → wS → Option (Int32 × wS)} {ke29 : Int32 → wS → Option (Int32 × wS)} {x2 : Int32} {x3 : Int32} {w : wS} {r : Int32 × wS} (hG : aGood G) (E : EX Hf bx o) (hL : B_X9_hasteOfAll_x13_4 o kh4 ke29 x2 x3 w = some r) (Hkh4 : ∀ (z0 : Int32) (z1 : Int32) (w : wS), kh4 z0 z1 w = some r → AG G M_X9_hasteOfAll 4 [some (.ref (bx + 0)), some (.ref (bx + 13)), some (.int (z0)), some (.int (z1))] [] (Hf w) (.inl (some (.int r.1)), Hf r.2)) (Hke29 : ∀ (z0 : Int32) (w : wS), ke29 z0 w = some r → AG G M_X9_hasteOfAll 29 [none, none, some (.int (z0)), none] [] (Hf w) (.inl (some (.int r.1)), Hf r.2)) : AG G M_X9_hasteOfAll 4 [some (.ref (bx + 0)), some (.ref (bx + 13)), some (.int (x2)), some (.int (x3))] [] (Hf w) (.inl (some (.int r.1)), Hf r.2) := by
  unfold B_X9_hasteOfAll_x13_4 at hL
  refine g_iload_n dX9_hasteOfAll_4 rfl rfl ?_
  refine g_aload_n dX9_hasteOfAll_5 rfl rfl ?_
  refine s_getT (k := 0) (j := 9) E.1 hL rfl rfl f_X9_55 dX9_hasteOfAll_6 ?_
  intro hL
  refine s_getI (k := 0) (j := 6) E.2.1 hL rfl rfl f_X9_99 dX9_hasteOfAll_9 ?_
  intro v1 hL
  refine g_icmp_ge (tgt := 29) dX9_hasteOfAll_12 (by decide) (fun q4 => ?_) (fun q4 => ?_)
  · rw [if_pos q4] at hL
    refine g_none 0 ?_
    refine g_none 1 ?_
    refine g_none 3 ?_
    exact Hke29 _ _ hL
  · rw [if_neg q4] at hL
    refine g_iload_n dX9_hasteOfAll_15 rfl rfl ?_
    refine g_none 2 ?_
    refine g_aload_n dX9_hasteOfAll_16 rfl rfl ?_
    refine g_iload_n dX9_hasteOfAll_17 rfl rfl ?_
    obtain ⟨v2, w3, hc, hL⟩ := xB2_some hL
    refine g_callV (M' := M_X5_hasteOf) (as := [.int (x3)]) (v := some (.int (v2))) l_X9_153 kV_X5_hasteOf (by decide) (C_X5_hasteOf_x13 hG E hc) rfl (by have := E.1.1; omega) (E.1.2.1 _ 13 _ rfl) ⟨_, _, rfl⟩ (Nat.le_of_ble_eq_true rfl) dX9_hasteOfAll_18 ?_
    refine g_iadd dX9_hasteOfAll_21 ?_
    refine g_istore_n (i := 2) dX9_hasteOfAll_22 rfl (by decide) rfl ?_
    refine g_iincV (v := (x3 + 1)) dX9_hasteOfAll_23 rfl rfl (by decide) rfl ?_
    refine g_goto (tgt := 4) dX9_hasteOfAll_26 (by decide) ?_
    exact Hkh4 _ _ _ hL
def P_X9_hasteOfAll_x13_4 (o : wO) (ke29 : Int32 → wS → Option (Int32 × wS)) (n : Nat) (x2 : Int32) (x3 : Int32) (w : wS) : Option (Int32 × wS) :=
  xLoop (fun (kk : Int32 × Int32 × wS → Option (Int32 × wS)) σ => B_X9_hasteOfAll_x13_4 o (fun x2 x3 w => kk (x2, x3, w)) ke29 (σ.1) (σ.2.1) (σ.2.2)) n (x2, x3, w)
theorem P_X9_hasteOfAll_x13_4_ok {G : aG} {Hf : wS → aH} {bx : Nat} {o : wO} {ke29 : Int32 → wS → Option (Int32 × wS)} {n : Nat} {x2 : Int32} {x3 : Int32} {w : wS} {r : Int32 × wS} (hG : aGood G) (E : EX Hf bx o) (hL : P_X9_hasteOfAll_x13_4 o ke29 n x2 x3 w = some r) (Hke29 : ∀ (z0 : Int32) (w : wS), ke29 z0 w = some r → AG G M_X9_hasteOfAll 29 [none, none, some (.int (z0)), none] [] (Hf w) (.inl (some (.int r.1)), Hf r.2)) : AG G M_X9_hasteOfAll 4 [some (.ref (bx + 0)), some (.ref (bx + 13)), some (.int (x2)), some (.int (x3))] [] (Hf w) (.inl (some (.int r.1)), Hf r.2) :=
  xLoop_ok (Q := fun (σ : Int32 × Int32 × wS) => AG G M_X9_hasteOfAll 4 [some (.ref (bx + 0)), some (.ref (bx + 13)), some (.int (σ.1)), some (.int (σ.2.1))] [] (Hf σ.2.2) (.inl (some (.int r.1)), Hf r.2)) (fun kk hk σ hσ => B_X9_hasteOfAll_x13_4_ok hG E hσ (fun x2 x3 w h9 => hk (x2, x3, w) h9) Hke29) n (x2, x3, w) hL
def L_X9_hasteOfAll_x13 (o : wO) (w : wS) : Option (Int32 × wS) :=
  P_X9_hasteOfAll_x13_4 o (fun z5 w6 => some (z5, w6)) 5000 (0) (0) w
set_option maxRecDepth 20000 in
theorem C_X9_hasteOfAll_x13 {G : aG} {Hf : wS → aH} {bx : Nat} {o : wO} {w : wS} {r : Int32 × wS} (hG : aGood G) (E : EX Hf bx o) (hL : L_X9_hasteOfAll_x13 o  w = some r) : AC G M_X9_hasteOfAll [.ref (bx + 0), .ref (bx + 13)] (Hf w) (.inl (some (.int r.1)), Hf r.2) := by
  unfold L_X9_hasteOfAll_x13 at hL
  refine AC.of (by decide) rfl (Nat.le_of_ble_eq_true rfl) ?_
  show AG G M_X9_hasteOfAll 0 [some (.ref (bx + 0)), some (.ref (bx + 13)), none, none] [] _ _
  refine g_iconst (v := 0) dX9_hasteOfAll_0 (by decide) ?_
  refine g_istore_n (i := 2) dX9_hasteOfAll_1 rfl (by decide) rfl ?_
  refine g_iconst (v := 0) dX9_hasteOfAll_2 (by decide) ?_
  refine g_istore_n (i := 3) dX9_hasteOfAll_3 rfl (by decide) rfl ?_
  refine P_X9_hasteOfAll_x13_4_ok hG E hL ?_
  · intro z5 w6 hL
    refine g_iload_n dX9_hasteOfAll_29 rfl rfl ?_
    refine g_none 2 ?_
    obtain rfl := Option.some.inj hL
    exact g_iret rfl dX9_hasteOfAll_30
def L_X9_count (o : wO) (a1 : Int32) (w : wS) : Option ((Int32 ⊕ String) × wS) :=
  if a1 = 0 then xIf (xRef w 9 (oT o + 0)) (xB (xGet w 100006) fun v2 => some (.inl (v2), w)) else if a1 = 1 then xIf (xRef w 9 (oT o + 0)) (xB (xGet w 100007) fun v4 => some (.inl (v4), w)) else if a1 = 2 then xIf (xRef w 9 (oT o + 0)) (xB (xGet w 100008) fun v6 => some (.inl (v6), w)) else if a1 = 3 then xB2 (L_X5_day_x13 o  w) fun v8 w9 => some (.inl (v8), w9) else if a1 = 4 then xB2 (L_X5_ringer_x13 o  w) fun v11 w12 => some (.inl (v11), w12) else if a1 = 5 then xB2 (L_X5_illBits_x13 o  w) fun v14 w15 => some (.inl (v14), w15) else if a1 = 6 then xB2 (L_X9_hasteOfAll_x13 o  w) fun v17 w18 => some (.inl (v17), w18) else if a1 = 7 then xB (xGet w 1502) fun v20 => some (.inl (v20), w) else if a1 = 8 then xB (xGet w 1703) fun v22 => some (.inl (v22), w) else if a1 = 9 then xB (xGet w 201) fun v24 => some (.inl (v24), w) else if a1 = 10 then xB (xAld w 48 3 (0)) fun v26 => some (.inl (v26), w) else if a1 = 11 then xB (xAld w 48 3 (1)) fun v28 => some (.inl (v28), w) else if a1 = 12 then xB (xAld w 48 3 (2)) fun v30 => some (.inl (v30), w) else some (.inr cNo, w)
set_option maxRecDepth 20000 in
theorem C_X9_count {G : aG} {Hf : wS → aH} {bx : Nat} {o : wO} {a1 : Int32} {w : wS} {r : (Int32 ⊕ String) × wS} (hG : aGood G) (E : EX Hf bx o) (hL : L_X9_count o a1 w = some r) : AC G M_X9_count [.ref (bx + 0), .int a1] (Hf w) (xRv Hf r) := by
  unfold L_X9_count at hL
  refine AC.of (by decide) rfl (Nat.le_of_ble_eq_true rfl) ?_
  show AG G M_X9_count 0 [some (.ref (bx + 0)), some (.int (a1))] [] _ _
  refine g_iload_n dX9_count_0 rfl rfl ?_
  refine g_none 1 ?_
  by_cases q1 : a1 = 0
  · rw [if_pos q1] at hL
    refine g_tableIn (off := 67) (tgt := 68) dX9_count_1 (by rw [q1]; decide) (by rw [q1]; decide) (by rw [q1]; decide +kernel) (by decide) ?_
    refine g_aload_n dX9_count_68 rfl rfl ?_
    refine g_none 0 ?_
    refine s_getT (k := 0) (j := 9) E.1 hL rfl rfl f_X9_55 dX9_count_69 ?_
    intro hL
    refine s_getI (k := 0) (j := 6) E.2.1 hL rfl rfl f_X9_99 dX9_count_72 ?_
    intro v2 hL
    obtain rfl := Option.some.inj hL
    exact g_iret rfl dX9_count_75
  rw [if_neg q1] at hL
  by_cases q3 : a1 = 1
  · rw [if_pos q3] at hL
    refine g_tableIn (off := 75) (tgt := 76) dX9_count_1 (by rw [q3]; decide) (by rw [q3]; decide) (by rw [q3]; decide +kernel) (by decide) ?_
    refine g_aload_n dX9_count_76 rfl rfl ?_
    refine g_none 0 ?_
    refine s_getT (k := 0) (j := 9) E.1 hL rfl rfl f_X9_55 dX9_count_77 ?_
    intro hL
    refine s_getI (k := 0) (j := 7) E.2.1 hL rfl rfl f_X9_102 dX9_count_80 ?_
    intro v4 hL
    obtain rfl := Option.some.inj hL
    exact g_iret rfl dX9_count_83
  rw [if_neg q3] at hL
  by_cases q5 : a1 = 2
  · rw [if_pos q5] at hL
    refine g_tableIn (off := 83) (tgt := 84) dX9_count_1 (by rw [q5]; decide) (by rw [q5]; decide) (by rw [q5]; decide +kernel) (by decide) ?_
    refine g_aload_n dX9_count_84 rfl rfl ?_
    refine g_none 0 ?_
    refine s_getT (k := 0) (j := 9) E.1 hL rfl rfl f_X9_55 dX9_count_85 ?_
    intro hL
    refine s_getI (k := 0) (j := 8) E.2.1 hL rfl rfl f_X9_105 dX9_count_88 ?_
    intro v6 hL
    obtain rfl := Option.some.inj hL
    exact g_iret rfl dX9_count_91
  rw [if_neg q5] at hL
  by_cases q7 : a1 = 3
  · rw [if_pos q7] at hL
    refine g_tableIn (off := 91) (tgt := 92) dX9_count_1 (by rw [q7]; decide) (by rw [q7]; decide) (by rw [q7]; decide +kernel) (by decide) ?_
    refine g_aload_n dX9_count_92 rfl rfl ?_
    refine g_none 0 ?_
    refine s_getR (k := 0) (j := 1) E.1 rfl rfl f_X9_19 dX9_count_93 ?_
    refine s_getR (k := 12) (j := 0) E.1 rfl rfl f_X9_108 dX9_count_96 ?_
    obtain ⟨v8, w9, hc, hL⟩ := xB2_some hL
    refine g_callV (M' := M_X5_day) (as := []) (v := some (.int (v8))) l_X9_112 kV_X5_day (by decide) (C_X5_day_x13 hG E hc) rfl (by have := E.1.1; omega) (E.1.2.1 _ 13 _ rfl) ⟨_, _, rfl⟩ (Nat.le_of_ble_eq_true rfl) dX9_count_99 ?_
    obtain rfl := Option.some.inj hL
    exact g_iret rfl dX9_count_102
  rw [if_neg q7] at hL
  by_cases q10 : a1 = 4
  · rw [if_pos q10] at hL
    refine g_tableIn (off := 102) (tgt := 103) dX9_count_1 (by rw [q10]; decide) (by rw [q10]; decide) (by rw [q10]; decide +kernel) (by decide) ?_
    refine g_aload_n dX9_count_103 rfl rfl ?_
    refine g_none 0 ?_
    refine s_getR (k := 0) (j := 1) E.1 rfl rfl f_X9_19 dX9_count_104 ?_
    refine s_getR (k := 12) (j := 0) E.1 rfl rfl f_X9_108 dX9_count_107 ?_
    obtain ⟨v11, w12, hc, hL⟩ := xB2_some hL
    refine g_callV (M' := M_X5_ringer) (as := []) (v := some (.int (v11))) l_X9_116 kV_X5_ringer (by decide) (C_X5_ringer_x13 hG E hc) rfl (by have := E.1.1; omega) (E.1.2.1 _ 13 _ rfl) ⟨_, _, rfl⟩ (Nat.le_of_ble_eq_true rfl) dX9_count_110 ?_
    obtain rfl := Option.some.inj hL
    exact g_iret rfl dX9_count_113
  rw [if_neg q10] at hL
  by_cases q13 : a1 = 5
  · rw [if_pos q13] at hL
    refine g_tableIn (off := 113) (tgt := 114) dX9_count_1 (by rw [q13]; decide) (by rw [q13]; decide) (by rw [q13]; decide +kernel) (by decide) ?_
    refine g_aload_n dX9_count_114 rfl rfl ?_
    refine g_none 0 ?_
    refine s_getR (k := 0) (j := 1) E.1 rfl rfl f_X9_19 dX9_count_115 ?_
    refine s_getR (k := 12) (j := 0) E.1 rfl rfl f_X9_108 dX9_count_118 ?_
    obtain ⟨v14, w15, hc, hL⟩ := xB2_some hL
    refine g_callV (M' := M_X5_illBits) (as := []) (v := some (.int (v14))) l_X9_119 kV_X5_illBits (by decide) (C_X5_illBits_x13 hG E hc) rfl (by have := E.1.1; omega) (E.1.2.1 _ 13 _ rfl) ⟨_, _, rfl⟩ (Nat.le_of_ble_eq_true rfl) dX9_count_121 ?_
    obtain rfl := Option.some.inj hL
    exact g_iret rfl dX9_count_124
  rw [if_neg q13] at hL
  by_cases q16 : a1 = 6
  · rw [if_pos q16] at hL
    refine g_tableIn (off := 124) (tgt := 125) dX9_count_1 (by rw [q16]; decide) (by rw [q16]; decide) (by rw [q16]; decide +kernel) (by decide) ?_
    refine g_aload_n dX9_count_125 rfl rfl ?_
    refine g_aload_n dX9_count_126 rfl rfl ?_
    refine g_none 0 ?_
    refine s_getR (k := 0) (j := 1) E.1 rfl rfl f_X9_19 dX9_count_127 ?_
    refine s_getR (k := 12) (j := 0) E.1 rfl rfl f_X9_108 dX9_count_130 ?_
    obtain ⟨v17, w18, hc, hL⟩ := xB2_some hL
    refine g_callV (M' := M_X9_hasteOfAll) (as := [.ref (bx + 13)]) (v := some (.int (v17))) l_X9_122 kV_X9_hasteOfAll (by decide) (C_X9_hasteOfAll_x13 hG E hc) rfl (by have := E.1.1; omega) (E.1.2.1 _ 0 _ rfl) ⟨_, _, rfl⟩ (Nat.le_of_ble_eq_true rfl) dX9_count_133 ?_
    obtain rfl := Option.some.inj hL
    exact g_iret rfl dX9_count_136
  rw [if_neg q16] at hL
  by_cases q19 : a1 = 7
  · rw [if_pos q19] at hL
    refine g_tableIn (off := 136) (tgt := 137) dX9_count_1 (by rw [q19]; decide) (by rw [q19]; decide) (by rw [q19]; decide +kernel) (by decide) ?_
    refine g_aload_n dX9_count_137 rfl rfl ?_
    refine g_none 0 ?_
    refine s_getR (k := 0) (j := 1) E.1 rfl rfl f_X9_19 dX9_count_138 ?_
    refine s_getR (k := 12) (j := 1) E.1 rfl rfl f_X9_126 dX9_count_141 ?_
    refine s_getI (k := 15) (j := 2) E.1 hL rfl rfl f_X9_130 dX9_count_144 ?_
    intro v20 hL
    obtain rfl := Option.some.inj hL
    exact g_iret rfl dX9_count_147
  rw [if_neg q19] at hL
  by_cases q21 : a1 = 8
  · rw [if_pos q21] at hL
    refine g_tableIn (off := 147) (tgt := 148) dX9_count_1 (by rw [q21]; decide) (by rw [q21]; decide) (by rw [q21]; decide +kernel) (by decide) ?_
    refine g_aload_n dX9_count_148 rfl rfl ?_
    refine g_none 0 ?_
    refine s_getR (k := 0) (j := 1) E.1 rfl rfl f_X9_19 dX9_count_149 ?_
    refine s_getR (k := 12) (j := 2) E.1 rfl rfl f_X9_135 dX9_count_152 ?_
    refine s_getI (k := 17) (j := 3) E.1 hL rfl rfl f_X9_139 dX9_count_155 ?_
    intro v22 hL
    obtain rfl := Option.some.inj hL
    exact g_iret rfl dX9_count_158
  rw [if_neg q21] at hL
  by_cases q23 : a1 = 9
  · rw [if_pos q23] at hL
    refine g_tableIn (off := 158) (tgt := 159) dX9_count_1 (by rw [q23]; decide) (by rw [q23]; decide) (by rw [q23]; decide +kernel) (by decide) ?_
    refine g_aload_n dX9_count_159 rfl rfl ?_
    refine g_none 0 ?_
    refine s_getR (k := 0) (j := 0) E.1 rfl rfl f_X9_10 dX9_count_160 ?_
    refine s_getR (k := 1) (j := 0) E.1 rfl rfl f_X9_67 dX9_count_163 ?_
    refine s_getI (k := 2) (j := 1) E.1 hL rfl rfl f_X9_71 dX9_count_166 ?_
    intro v24 hL
    obtain rfl := Option.some.inj hL
    exact g_iret rfl dX9_count_169
  rw [if_neg q23] at hL
  by_cases q25 : a1 = 10
  · rw [if_pos q25] at hL
    refine g_tableIn (off := 169) (tgt := 170) dX9_count_1 (by rw [q25]; decide) (by rw [q25]; decide) (by rw [q25]; decide +kernel) (by decide) ?_
    refine g_aload_n dX9_count_170 rfl rfl ?_
    refine g_none 0 ?_
    refine s_getR (k := 0) (j := 4) E.1 rfl rfl f_X9_33 dX9_count_171 ?_
    refine g_iconst (v := 0) dX9_count_174 (by decide) ?_
    refine s_iald (k := 48) E.1 hL rfl dX9_count_175 ?_
    intro v26 hL
    obtain rfl := Option.some.inj hL
    exact g_iret rfl dX9_count_176
  rw [if_neg q25] at hL
  by_cases q27 : a1 = 11
  · rw [if_pos q27] at hL
    refine g_tableIn (off := 176) (tgt := 177) dX9_count_1 (by rw [q27]; decide) (by rw [q27]; decide) (by rw [q27]; decide +kernel) (by decide) ?_
    refine g_aload_n dX9_count_177 rfl rfl ?_
    refine g_none 0 ?_
    refine s_getR (k := 0) (j := 4) E.1 rfl rfl f_X9_33 dX9_count_178 ?_
    refine g_iconst (v := 1) dX9_count_181 (by decide) ?_
    refine s_iald (k := 48) E.1 hL rfl dX9_count_182 ?_
    intro v28 hL
    obtain rfl := Option.some.inj hL
    exact g_iret rfl dX9_count_183
  rw [if_neg q27] at hL
  by_cases q29 : a1 = 12
  · rw [if_pos q29] at hL
    refine g_tableIn (off := 183) (tgt := 184) dX9_count_1 (by rw [q29]; decide) (by rw [q29]; decide) (by rw [q29]; decide +kernel) (by decide) ?_
    refine g_aload_n dX9_count_184 rfl rfl ?_
    refine g_none 0 ?_
    refine s_getR (k := 0) (j := 4) E.1 rfl rfl f_X9_33 dX9_count_185 ?_
    refine g_iconst (v := 2) dX9_count_188 (by decide) ?_
    refine s_iald (k := 48) E.1 hL rfl dX9_count_189 ?_
    intro v30 hL
    obtain rfl := Option.some.inj hL
    exact g_iret rfl dX9_count_190
  rw [if_neg q29] at hL
  refine g_tableOut (tgt := 191) dX9_count_1 (i32_out (x := a1) (0) (12) (fun z hz1 hz2 => ?_)) (by decide) ?_
  · rcases (show z = 0 ∨ z = 1 ∨ z = 2 ∨ z = 3 ∨ z = 4 ∨ z = 5 ∨ z = 6 ∨ z = 7 ∨ z = 8 ∨ z = 9 ∨ z = 10 ∨ z = 11 ∨ z = 12 by omega) with rfl | rfl | rfl | rfl | rfl | rfl | rfl | rfl | rfl | rfl | rfl | rfl | rfl
    · exact q1
    · exact q3
    · exact q5
    · exact q7
    · exact q10
    · exact q13
    · exact q16
    · exact q19
    · exact q21
    · exact q23
    · exact q25
    · exact q27
    · exact q29
  · refine g_none 0 ?_
    obtain rfl := Option.some.inj hL
    exact g_throwS (k := 17) hG thr_No rfl rfl (by decide) (Nat.le_of_ble_eq_true rfl) dX9_count_191 dX9_count_194 dX9_count_195 dX9_count_197 dX9_count_200
def J_X9_needPerson_15 (o : wO) (w : wS) : Option (Option String) :=
  some (some cNo)
set_option maxRecDepth 20000 in
theorem J_X9_needPerson_15_ok {G : aG} {Hf : wS → aH} {bx : Nat} {o : wO} {w : wS} {r : Option String} (hG : aGood G) (E : EX Hf bx o) (hL : J_X9_needPerson_15 o   w = some r) : AG G M_X9_needPerson 15 [none, none] [] (Hf w) (xN (Hf w) r) := by
  unfold J_X9_needPerson_15 at hL
  obtain rfl := Option.some.inj hL
  exact g_throwSW (k := 18) hG thr_No rfl rfl (by decide) (Nat.le_of_ble_eq_true rfl) dX9_needPerson_15 dX9_needPerson_18 dX9_needPerson_19 dX9_needPerson_22 dX9_needPerson_25
def L_X9_needPerson (o : wO) (a1 : Int32) (w : wS) : Option (Option String) :=
  if a1 < 0 then J_X9_needPerson_15 o   w else xIf (xRef w 9 (oT o + 0)) (xB (xGet w 100006) fun v1 => if a1 < v1 then some none else J_X9_needPerson_15 o   w)
set_option maxRecDepth 20000 in
theorem C_X9_needPerson {G : aG} {Hf : wS → aH} {bx : Nat} {o : wO} {a1 : Int32} {w : wS} {r : Option String} (hG : aGood G) (E : EX Hf bx o) (hL : L_X9_needPerson o a1 w = some r) : AC G M_X9_needPerson [.ref (bx + 0), .int a1] (Hf w) (xN (Hf w) r) := by
  unfold L_X9_needPerson at hL
  refine AC.of (by decide) rfl (Nat.le_of_ble_eq_true rfl) ?_
  show AG G M_X9_needPerson 0 [some (.ref (bx + 0)), some (.int (a1))] [] _ _
  refine g_iload_n dX9_needPerson_0 rfl rfl ?_
  refine g_if_lt (tgt := 15) dX9_needPerson_1 (by decide) (fun q3 => ?_) (fun q3 => ?_)
  · rw [if_pos q3] at hL
    refine g_none 0 ?_
    refine g_none 1 ?_
    exact J_X9_needPerson_15_ok hG E hL 
  · rw [if_neg q3] at hL
    refine g_iload_n dX9_needPerson_4 rfl rfl ?_
    refine g_none 1 ?_
    refine g_aload_n dX9_needPerson_5 rfl rfl ?_
    refine g_none 0 ?_
    refine s_getT (k := 0) (j := 9) E.1 hL rfl rfl f_X9_55 dX9_needPerson_6 ?_
    intro hL
    refine s_getI (k := 0) (j := 6) E.2.1 hL rfl rfl f_X9_99 dX9_needPerson_9 ?_
    intro v1 hL
    refine g_icmp_lt (tgt := 26) dX9_needPerson_12 (by decide) (fun q2 => ?_) (fun q2 => ?_)
    · rw [if_pos q2] at hL
      obtain rfl := Option.some.inj hL
      exact g_vret rfl dX9_needPerson_26
    · rw [if_neg q2] at hL
      exact J_X9_needPerson_15_ok hG E hL 
def L_X5_lateOf_x13 (o : wO) (a1 : Int32) (w : wS) : Option (Int32 × wS) :=
  xB (xAld w 14 33 (((9 : Int32) + a1))) fun v1 => some (v1, w)
set_option maxRecDepth 20000 in
theorem C_X5_lateOf_x13 {G : aG} {Hf : wS → aH} {bx : Nat} {o : wO} {a1 : Int32} {w : wS} {r : Int32 × wS} (hG : aGood G) (E : EX Hf bx o) (hL : L_X5_lateOf_x13 o a1 w = some r) : AC G M_X5_lateOf [.ref (bx + 13), .int a1] (Hf w) (.inl (some (.int r.1)), Hf r.2) := by
  unfold L_X5_lateOf_x13 at hL
  refine AC.of (by decide) rfl (Nat.le_of_ble_eq_true rfl) ?_
  show AG G M_X5_lateOf 0 [some (.ref (bx + 13)), some (.int (a1))] [] _ _
  refine g_aload_n dX5_lateOf_0 rfl rfl ?_
  refine g_none 0 ?_
  refine s_getR (k := 13) (j := 0) E.1 rfl rfl f_X5_11 dX5_lateOf_1 ?_
  refine g_bipush (v := 9) dX5_lateOf_4 (by decide) ?_
  refine g_iload_n dX5_lateOf_6 rfl rfl ?_
  refine g_none 1 ?_
  refine g_iadd dX5_lateOf_7 ?_
  refine s_iald (k := 14) E.1 hL rfl dX5_lateOf_8 ?_
  intro v1 hL
  obtain rfl := Option.some.inj hL
  exact g_iret rfl dX5_lateOf_9
def L_X5_rungOf_x13 (o : wO) (a1 : Int32) (w : wS) : Option (Int32 × wS) :=
  xB (xAld w 14 33 (((17 : Int32) + a1))) fun v1 => some (v1, w)
set_option maxRecDepth 20000 in
theorem C_X5_rungOf_x13 {G : aG} {Hf : wS → aH} {bx : Nat} {o : wO} {a1 : Int32} {w : wS} {r : Int32 × wS} (hG : aGood G) (E : EX Hf bx o) (hL : L_X5_rungOf_x13 o a1 w = some r) : AC G M_X5_rungOf [.ref (bx + 13), .int a1] (Hf w) (.inl (some (.int r.1)), Hf r.2) := by
  unfold L_X5_rungOf_x13 at hL
  refine AC.of (by decide) rfl (Nat.le_of_ble_eq_true rfl) ?_
  show AG G M_X5_rungOf 0 [some (.ref (bx + 13)), some (.int (a1))] [] _ _
  refine g_aload_n dX5_rungOf_0 rfl rfl ?_
  refine g_none 0 ?_
  refine s_getR (k := 13) (j := 0) E.1 rfl rfl f_X5_11 dX5_rungOf_1 ?_
  refine g_bipush (v := 17) dX5_rungOf_4 (by decide) ?_
  refine g_iload_n dX5_rungOf_6 rfl rfl ?_
  refine g_none 1 ?_
  refine g_iadd dX5_rungOf_7 ?_
  refine s_iald (k := 14) E.1 hL rfl dX5_rungOf_8 ?_
  intro v1 hL
  obtain rfl := Option.some.inj hL
  exact g_iret rfl dX5_rungOf_9
def J_X5_isIll_x13_20 (o : wO) (y0 : Int32) (w : wS) : Option (Int32 × wS) :=
  xB (xBool (y0)) fun v1 => some (v1, w)
set_option maxRecDepth 20000 in
theorem J_X5_isIll_x13_20_ok {G : aG} {Hf : wS → aH} {bx : Nat} {o : wO} {y0 : Int32} {w : wS} {r : Int32 × wS} (hG : aGood G) (E : EX Hf bx o) (hL : J_X5_isIll_x13_20 o  y0 w = some r) : AG G M_X5_isIll 20 [none, none] [.int (y0)] (Hf w) (.inl (some (.int r.1)), Hf r.2) := by
  unfold J_X5_isIll_x13_20 at hL
  obtain ⟨v1, hb, hR⟩ := xB_some hL
  obtain ⟨hz, hb2⟩ := xBool_some hb
  clear hL
  subst hz
  obtain rfl := Option.some.inj hR
  exact g_zret rfl (narrow_bool hb2) dX5_isIll_20
def L_X5_isIll_x13 (o : wO) (a1 : Int32) (w : wS) : Option (Int32 × wS) :=
  xB (xAld w 14 33 (32)) fun v2 => if ((v2 >>> (a1 &&& 31)) &&& (1 : Int32)) = 1 then J_X5_isIll_x13_20 o  (1) w else J_X5_isIll_x13_20 o  (0) w
set_option maxRecDepth 20000 in
theorem C_X5_isIll_x13 {G : aG} {Hf : wS → aH} {bx : Nat} {o : wO} {a1 : Int32} {w : wS} {r : Int32 × wS} (hG : aGood G) (E : EX Hf bx o) (hL : L_X5_isIll_x13 o a1 w = some r) : AC G M_X5_isIll [.ref (bx + 13), .int a1] (Hf w) (.inl (some (.int r.1)), Hf r.2) := by
  unfold L_X5_isIll_x13 at hL
  refine AC.of (by decide) rfl (Nat.le_of_ble_eq_true rfl) ?_
  show AG G M_X5_isIll 0 [some (.ref (bx + 13)), some (.int (a1))] [] _ _
  refine g_aload_n dX5_isIll_0 rfl rfl ?_
  refine g_none 0 ?_
  refine s_getR (k := 13) (j := 0) E.1 rfl rfl f_X5_11 dX5_isIll_1 ?_
  refine g_bipush (v := 32) dX5_isIll_4 (by decide) ?_
  refine s_iald (k := 14) E.1 hL rfl dX5_isIll_6 ?_
  intro v2 hL
  refine g_iload_n dX5_isIll_7 rfl rfl ?_
  refine g_none 1 ?_
  refine g_ishr dX5_isIll_8 ?_
  refine g_iconst (v := 1) dX5_isIll_9 (by decide) ?_
  refine g_iand dX5_isIll_10 ?_
  refine g_iconst (v := 1) dX5_isIll_11 (by decide) ?_
  refine g_icmp_ne (tgt := 19) dX5_isIll_12 (by decide) (fun q3 => ?_) (fun q3 => ?_)
  · rw [if_neg q3] at hL
    refine g_iconst (v := 0) dX5_isIll_19 (by decide) ?_
    exact J_X5_isIll_x13_20_ok hG E hL 
  · rw [if_pos q3] at hL
    refine g_iconst (v := 1) dX5_isIll_15 (by decide) ?_
    refine g_goto (tgt := 20) dX5_isIll_16 (by decide) ?_
    exact J_X5_isIll_x13_20_ok hG E hL 
def J_X9_person_133 (o : wO) (y0 : Int32) (w : wS) : Option ((Int32 ⊕ String) × wS) :=
  some (.inl (y0), w)
set_option maxRecDepth 20000 in
theorem J_X9_person_133_ok {G : aG} {Hf : wS → aH} {bx : Nat} {o : wO} {y0 : Int32} {w : wS} {r : (Int32 ⊕ String) × wS} (hG : aGood G) (E : EX Hf bx o) (hL : J_X9_person_133 o  y0 w = some r) : AG G M_X9_person 133 [none, none, none] [.int (y0)] (Hf w) (xRv Hf r) := by
  unfold J_X9_person_133 at hL
  obtain rfl := Option.some.inj hL
  exact g_iret rfl dX9_person_133
def L_X9_person (o : wO) (a1 : Int32) (a2 : Int32) (w : wS) : Option ((Int32 ⊕ String) × wS) :=
  xBT (L_X9_needPerson o (a1) w) (fun E9 => some (.inr E9, w)) (if a2 = 0 then xIf (xRef w 9 (oT o + 0)) (xB (xAld w 1002 8 (a1)) fun v2 => some (.inl (v2), w)) else if a2 = 1 then xB2 (L_X5_hasteOf_x13 o (a1) w) fun v4 w5 => some (.inl (v4), w5) else if a2 = 2 then xIf (xRef w 9 (oT o + 0)) (xB (xAld w 1004 8 (a1)) fun v7 => some (.inl (v7), w)) else if a2 = 3 then xB2 (L_X5_lateOf_x13 o (a1) w) fun v9 w10 => some (.inl (v9), w10) else if a2 = 4 then xB2 (L_X5_rungOf_x13 o (a1) w) fun v12 w13 => some (.inl (v12), w13) else if a2 = 5 then xIf (xRef w 9 (oT o + 0)) (xB (xAld w 1001 8 (a1)) fun v15 => some (.inl (v15), w)) else if a2 = 6 then xB2 (L_X5_isIll_x13 o (a1) w) fun v17 w18 => if v17 = 0 then J_X9_person_133 o  (0) w18 else J_X9_person_133 o  (1) w18 else some (.inr cNo, w))
set_option maxRecDepth 20000 in
theorem C_X9_person {G : aG} {Hf : wS → aH} {bx : Nat} {o : wO} {a1 : Int32} {a2 : Int32} {w : wS} {r : (Int32 ⊕ String) × wS} (hG : aGood G) (E : EX Hf bx o) (hL : L_X9_person o a1 a2 w = some r) : AC G M_X9_person [.ref (bx + 0), .int a1, .int a2] (Hf w) (xRv Hf r) := by
  unfold L_X9_person at hL
  refine AC.of (by decide) rfl (Nat.le_of_ble_eq_true rfl) ?_
  show AG G M_X9_person 0 [some (.ref (bx + 0)), some (.int (a1)), some (.int (a2))] [] _ _
  refine g_aload_n dX9_person_0 rfl rfl ?_
  refine g_iload_n dX9_person_1 rfl rfl ?_
  rcases xBT_some hL with ⟨hc, hL⟩ | ⟨E9, hc, hL⟩
  · refine g_callV (M' := M_X9_needPerson) (as := [.int (a1)]) (v := none) l_X9_147 kV_X9_needPerson (by decide) (C_X9_needPerson hG E hc) rfl (by have := E.1.1; omega) (E.1.2.1 _ 0 _ rfl) ⟨_, _, rfl⟩ (Nat.le_of_ble_eq_true rfl) dX9_person_2 ?_
    refine g_iload_n dX9_person_5 rfl rfl ?_
    refine g_none 2 ?_
    by_cases q1 : a2 = 0
    · rw [if_pos q1] at hL
      refine g_tableIn (off := 42) (tgt := 48) dX9_person_6 (by rw [q1]; decide) (by rw [q1]; decide) (by rw [q1]; decide +kernel) (by decide) ?_
      refine g_aload_n dX9_person_48 rfl rfl ?_
      refine g_none 0 ?_
      refine s_getT (k := 0) (j := 9) E.1 hL rfl rfl f_X9_55 dX9_person_49 ?_
      intro hL
      refine s_getR (k := 0) (j := 1) E.2.1 rfl rfl f_X9_150 dX9_person_52 ?_
      refine g_iload_n dX9_person_55 rfl rfl ?_
      refine g_none 1 ?_
      refine s_iald (k := 2) E.2.1 hL rfl dX9_person_56 ?_
      intro v2 hL
      obtain rfl := Option.some.inj hL
      exact g_iret rfl dX9_person_57
    rw [if_neg q1] at hL
    by_cases q3 : a2 = 1
    · rw [if_pos q3] at hL
      refine g_tableIn (off := 52) (tgt := 58) dX9_person_6 (by rw [q3]; decide) (by rw [q3]; decide) (by rw [q3]; decide +kernel) (by decide) ?_
      refine g_aload_n dX9_person_58 rfl rfl ?_
      refine g_none 0 ?_
      refine s_getR (k := 0) (j := 1) E.1 rfl rfl f_X9_19 dX9_person_59 ?_
      refine s_getR (k := 12) (j := 0) E.1 rfl rfl f_X9_108 dX9_person_62 ?_
      refine g_iload_n dX9_person_65 rfl rfl ?_
      refine g_none 1 ?_
      obtain ⟨v4, w5, hc, hL⟩ := xB2_some hL
      refine g_callV (M' := M_X5_hasteOf) (as := [.int (a1)]) (v := some (.int (v4))) l_X9_153 kV_X5_hasteOf (by decide) (C_X5_hasteOf_x13 hG E hc) rfl (by have := E.1.1; omega) (E.1.2.1 _ 13 _ rfl) ⟨_, _, rfl⟩ (Nat.le_of_ble_eq_true rfl) dX9_person_66 ?_
      obtain rfl := Option.some.inj hL
      exact g_iret rfl dX9_person_69
    rw [if_neg q3] at hL
    by_cases q6 : a2 = 2
    · rw [if_pos q6] at hL
      refine g_tableIn (off := 64) (tgt := 70) dX9_person_6 (by rw [q6]; decide) (by rw [q6]; decide) (by rw [q6]; decide +kernel) (by decide) ?_
      refine g_aload_n dX9_person_70 rfl rfl ?_
      refine g_none 0 ?_
      refine s_getT (k := 0) (j := 9) E.1 hL rfl rfl f_X9_55 dX9_person_71 ?_
      intro hL
      refine s_getR (k := 0) (j := 3) E.2.1 rfl rfl f_X9_157 dX9_person_74 ?_
      refine g_iload_n dX9_person_77 rfl rfl ?_
      refine g_none 1 ?_
      refine s_iald (k := 4) E.2.1 hL rfl dX9_person_78 ?_
      intro v7 hL
      obtain rfl := Option.some.inj hL
      exact g_iret rfl dX9_person_79
    rw [if_neg q6] at hL
    by_cases q8 : a2 = 3
    · rw [if_pos q8] at hL
      refine g_tableIn (off := 74) (tgt := 80) dX9_person_6 (by rw [q8]; decide) (by rw [q8]; decide) (by rw [q8]; decide +kernel) (by decide) ?_
      refine g_aload_n dX9_person_80 rfl rfl ?_
      refine g_none 0 ?_
      refine s_getR (k := 0) (j := 1) E.1 rfl rfl f_X9_19 dX9_person_81 ?_
      refine s_getR (k := 12) (j := 0) E.1 rfl rfl f_X9_108 dX9_person_84 ?_
      refine g_iload_n dX9_person_87 rfl rfl ?_
      refine g_none 1 ?_
      obtain ⟨v9, w10, hc, hL⟩ := xB2_some hL
      refine g_callV (M' := M_X5_lateOf) (as := [.int (a1)]) (v := some (.int (v9))) l_X9_160 kV_X5_lateOf (by decide) (C_X5_lateOf_x13 hG E hc) rfl (by have := E.1.1; omega) (E.1.2.1 _ 13 _ rfl) ⟨_, _, rfl⟩ (Nat.le_of_ble_eq_true rfl) dX9_person_88 ?_
      obtain rfl := Option.some.inj hL
      exact g_iret rfl dX9_person_91
    rw [if_neg q8] at hL
    by_cases q11 : a2 = 4
    · rw [if_pos q11] at hL
      refine g_tableIn (off := 86) (tgt := 92) dX9_person_6 (by rw [q11]; decide) (by rw [q11]; decide) (by rw [q11]; decide +kernel) (by decide) ?_
      refine g_aload_n dX9_person_92 rfl rfl ?_
      refine g_none 0 ?_
      refine s_getR (k := 0) (j := 1) E.1 rfl rfl f_X9_19 dX9_person_93 ?_
      refine s_getR (k := 12) (j := 0) E.1 rfl rfl f_X9_108 dX9_person_96 ?_
      refine g_iload_n dX9_person_99 rfl rfl ?_
      refine g_none 1 ?_
      obtain ⟨v12, w13, hc, hL⟩ := xB2_some hL
      refine g_callV (M' := M_X5_rungOf) (as := [.int (a1)]) (v := some (.int (v12))) l_X9_163 kV_X5_rungOf (by decide) (C_X5_rungOf_x13 hG E hc) rfl (by have := E.1.1; omega) (E.1.2.1 _ 13 _ rfl) ⟨_, _, rfl⟩ (Nat.le_of_ble_eq_true rfl) dX9_person_100 ?_
      obtain rfl := Option.some.inj hL
      exact g_iret rfl dX9_person_103
    rw [if_neg q11] at hL
    by_cases q14 : a2 = 5
    · rw [if_pos q14] at hL
      refine g_tableIn (off := 98) (tgt := 104) dX9_person_6 (by rw [q14]; decide) (by rw [q14]; decide) (by rw [q14]; decide +kernel) (by decide) ?_
      refine g_aload_n dX9_person_104 rfl rfl ?_
      refine g_none 0 ?_
      refine s_getT (k := 0) (j := 9) E.1 hL rfl rfl f_X9_55 dX9_person_105 ?_
      intro hL
      refine s_getR (k := 0) (j := 0) E.2.1 rfl rfl f_X9_166 dX9_person_108 ?_
      refine g_iload_n dX9_person_111 rfl rfl ?_
      refine g_none 1 ?_
      refine s_iald (k := 1) E.2.1 hL rfl dX9_person_112 ?_
      intro v15 hL
      obtain rfl := Option.some.inj hL
      exact g_iret rfl dX9_person_113
    rw [if_neg q14] at hL
    by_cases q16 : a2 = 6
    · rw [if_pos q16] at hL
      refine g_tableIn (off := 108) (tgt := 114) dX9_person_6 (by rw [q16]; decide) (by rw [q16]; decide) (by rw [q16]; decide +kernel) (by decide) ?_
      refine g_aload_n dX9_person_114 rfl rfl ?_
      refine g_none 0 ?_
      refine s_getR (k := 0) (j := 1) E.1 rfl rfl f_X9_19 dX9_person_115 ?_
      refine s_getR (k := 12) (j := 0) E.1 rfl rfl f_X9_108 dX9_person_118 ?_
      refine g_iload_n dX9_person_121 rfl rfl ?_
      refine g_none 1 ?_
      obtain ⟨v17, w18, hc, hL⟩ := xB2_some hL
      refine g_callV (M' := M_X5_isIll) (as := [.int (a1)]) (v := some (.int (v17))) l_X9_169 kV_X5_isIll (by decide) (C_X5_isIll_x13 hG E hc) rfl (by have := E.1.1; omega) (E.1.2.1 _ 13 _ rfl) ⟨_, _, rfl⟩ (Nat.le_of_ble_eq_true rfl) dX9_person_122 ?_
      refine g_if_eq (tgt := 132) dX9_person_125 (by decide) (fun q19 => ?_) (fun q19 => ?_)
      · rw [if_pos q19] at hL
        refine g_iconst (v := 0) dX9_person_132 (by decide) ?_
        exact J_X9_person_133_ok hG E hL 
      · rw [if_neg q19] at hL
        refine g_iconst (v := 1) dX9_person_128 (by decide) ?_
        refine g_goto (tgt := 133) dX9_person_129 (by decide) ?_
        exact J_X9_person_133_ok hG E hL 
    rw [if_neg q16] at hL
    refine g_tableOut (tgt := 134) dX9_person_6 (i32_out (x := a2) (0) (6) (fun z hz1 hz2 => ?_)) (by decide) ?_
    · rcases (show z = 0 ∨ z = 1 ∨ z = 2 ∨ z = 3 ∨ z = 4 ∨ z = 5 ∨ z = 6 by omega) with rfl | rfl | rfl | rfl | rfl | rfl | rfl
      · exact q1
      · exact q3
      · exact q6
      · exact q8
      · exact q11
      · exact q14
      · exact q16
    · refine g_none 0 ?_
      refine g_none 1 ?_
      obtain rfl := Option.some.inj hL
      exact g_throwS (k := 19) hG thr_No rfl rfl (by decide) (Nat.le_of_ble_eq_true rfl) dX9_person_134 dX9_person_137 dX9_person_138 dX9_person_140 dX9_person_143
  · obtain rfl := Option.some.inj hL
    exact g_callVX (M' := M_X9_needPerson) (as := [.int (a1)]) (E := E9) (aIn1 956 (by decide +kernel) rfl) kV_X9_needPerson (by decide) rfl (C_X9_needPerson hG E hc) rfl (by have := E.1.1; omega) (E.1.2.1 _ 0 _ rfl) ⟨_, _, rfl⟩ (Nat.le_of_ble_eq_true rfl) dX9_person_2
def J_X9_needDuty_15 (o : wO) (w : wS) : Option (Option String) :=
  some (some cNo)
set_option maxRecDepth 20000 in
theorem J_X9_needDuty_15_ok {G : aG} {Hf : wS → aH} {bx : Nat} {o : wO} {w : wS} {r : Option String} (hG : aGood G) (E : EX Hf bx o) (hL : J_X9_needDuty_15 o   w = some r) : AG G M_X9_needDuty 15 [none, none] [] (Hf w) (xN (Hf w) r) := by
  unfold J_X9_needDuty_15 at hL
  obtain rfl := Option.some.inj hL
  exact g_throwSW (k := 20) hG thr_No rfl rfl (by decide) (Nat.le_of_ble_eq_true rfl) dX9_needDuty_15 dX9_needDuty_18 dX9_needDuty_19 dX9_needDuty_22 dX9_needDuty_25
def L_X9_needDuty (o : wO) (a1 : Int32) (w : wS) : Option (Option String) :=
  if a1 < 0 then J_X9_needDuty_15 o   w else xIf (xRef w 9 (oT o + 0)) (xB (xGet w 100007) fun v1 => if a1 < v1 then some none else J_X9_needDuty_15 o   w)
set_option maxRecDepth 20000 in
theorem C_X9_needDuty {G : aG} {Hf : wS → aH} {bx : Nat} {o : wO} {a1 : Int32} {w : wS} {r : Option String} (hG : aGood G) (E : EX Hf bx o) (hL : L_X9_needDuty o a1 w = some r) : AC G M_X9_needDuty [.ref (bx + 0), .int a1] (Hf w) (xN (Hf w) r) := by
  unfold L_X9_needDuty at hL
  refine AC.of (by decide) rfl (Nat.le_of_ble_eq_true rfl) ?_
  show AG G M_X9_needDuty 0 [some (.ref (bx + 0)), some (.int (a1))] [] _ _
  refine g_iload_n dX9_needDuty_0 rfl rfl ?_
  refine g_if_lt (tgt := 15) dX9_needDuty_1 (by decide) (fun q3 => ?_) (fun q3 => ?_)
  · rw [if_pos q3] at hL
    refine g_none 0 ?_
    refine g_none 1 ?_
    exact J_X9_needDuty_15_ok hG E hL 
  · rw [if_neg q3] at hL
    refine g_iload_n dX9_needDuty_4 rfl rfl ?_
    refine g_none 1 ?_
    refine g_aload_n dX9_needDuty_5 rfl rfl ?_
    refine g_none 0 ?_
    refine s_getT (k := 0) (j := 9) E.1 hL rfl rfl f_X9_55 dX9_needDuty_6 ?_
    intro hL
    refine s_getI (k := 0) (j := 7) E.2.1 hL rfl rfl f_X9_102 dX9_needDuty_9 ?_
    intro v1 hL
    refine g_icmp_lt (tgt := 26) dX9_needDuty_12 (by decide) (fun q2 => ?_) (fun q2 => ?_)
    · rw [if_pos q2] at hL
      obtain rfl := Option.some.inj hL
      exact g_vret rfl dX9_needDuty_26
    · rw [if_neg q2] at hL
      exact J_X9_needDuty_15_ok hG E hL 
def L_X5_dueOf_x13 (o : wO) (a1 : Int32) (w : wS) : Option (Int32 × wS) :=
  xB (xAld w 14 33 (((25 : Int32) + a1))) fun v1 => some (v1, w)
set_option maxRecDepth 20000 in
theorem C_X5_dueOf_x13 {G : aG} {Hf : wS → aH} {bx : Nat} {o : wO} {a1 : Int32} {w : wS} {r : Int32 × wS} (hG : aGood G) (E : EX Hf bx o) (hL : L_X5_dueOf_x13 o a1 w = some r) : AC G M_X5_dueOf [.ref (bx + 13), .int a1] (Hf w) (.inl (some (.int r.1)), Hf r.2) := by
  unfold L_X5_dueOf_x13 at hL
  refine AC.of (by decide) rfl (Nat.le_of_ble_eq_true rfl) ?_
  show AG G M_X5_dueOf 0 [some (.ref (bx + 13)), some (.int (a1))] [] _ _
  refine g_aload_n dX5_dueOf_0 rfl rfl ?_
  refine g_none 0 ?_
  refine s_getR (k := 13) (j := 0) E.1 rfl rfl f_X5_11 dX5_dueOf_1 ?_
  refine g_bipush (v := 25) dX5_dueOf_4 (by decide) ?_
  refine g_iload_n dX5_dueOf_6 rfl rfl ?_
  refine g_none 1 ?_
  refine g_iadd dX5_dueOf_7 ?_
  refine s_iald (k := 14) E.1 hL rfl dX5_dueOf_8 ?_
  intro v1 hL
  obtain rfl := Option.some.inj hL
  exact g_iret rfl dX5_dueOf_9
def L_X8_distance (o : wO) (a1 : Int32) (a2 : Int32) (w : wS) : Option (Int32 × wS) :=
  xB (xAld w 1004 8 (a1)) fun v1 => xB (xAld w 1006 6 (a2)) fun v2 => some ((xAbs ((v1 - v2))), w)
set_option maxRecDepth 20000 in
theorem C_X8_distance {G : aG} {Hf : wS → aH} {bx : Nat} {o : wO} {a1 : Int32} {a2 : Int32} {w : wS} {r : Int32 × wS} (hG : aGood G) (E : EX Hf bx o) (hL : L_X8_distance o a1 a2 w = some r) : AC G M_X8_distance [.ref (oT o + 0), .int a1, .int a2] (Hf w) (.inl (some (.int r.1)), Hf r.2) := by
  unfold L_X8_distance at hL
  refine AC.of (by decide) rfl (Nat.le_of_ble_eq_true rfl) ?_
  show AG G M_X8_distance 0 [some (.ref (oT o + 0)), some (.int (a1)), some (.int (a2))] [] _ _
  refine g_aload_n dX8_distance_0 rfl rfl ?_
  refine s_getR (k := 0) (j := 3) E.2.1 rfl rfl f_X8_21 dX8_distance_1 ?_
  refine g_iload_n dX8_distance_4 rfl rfl ?_
  refine g_none 1 ?_
  refine s_iald (k := 4) E.2.1 hL rfl dX8_distance_5 ?_
  intro v1 hL
  refine g_aload_n dX8_distance_6 rfl rfl ?_
  refine g_none 0 ?_
  refine s_getR (k := 0) (j := 5) E.2.1 rfl rfl f_X8_27 dX8_distance_7 ?_
  refine g_iload_n dX8_distance_10 rfl rfl ?_
  refine g_none 2 ?_
  refine s_iald (k := 6) E.2.1 hL rfl dX8_distance_11 ?_
  intro v2 hL
  refine g_isub dX8_distance_12 ?_
  refine g_mabs (aIn1 510 (by decide +kernel) rfl) mabs_1 mabs_2 mabs_3 (by decide) (Nat.le_of_ble_eq_true rfl) dX8_distance_13 ?_
  obtain rfl := Option.some.inj hL
  exact g_iret rfl dX8_distance_16
def L_X8_minutes (o : wO) (a1 : Int32) (a2 : Int32) (a3 : Int32) (a4 : Int32) (w : wS) : Option (Int32 × wS) :=
  xB (xGet w 100008) fun v1 => xB2 (L_X8_distance o (a1) (a2) w) fun v2 w3 => some ((xMax (0) ((((v1 * v2) + a3) - a4))), w3)
set_option maxRecDepth 20000 in
theorem C_X8_minutes {G : aG} {Hf : wS → aH} {bx : Nat} {o : wO} {a1 : Int32} {a2 : Int32} {a3 : Int32} {a4 : Int32} {w : wS} {r : Int32 × wS} (hG : aGood G) (E : EX Hf bx o) (hL : L_X8_minutes o a1 a2 a3 a4 w = some r) : AC G M_X8_minutes [.ref (oT o + 0), .int a1, .int a2, .int a3, .int a4] (Hf w) (.inl (some (.int r.1)), Hf r.2) := by
  unfold L_X8_minutes at hL
  refine AC.of (by decide) rfl (Nat.le_of_ble_eq_true rfl) ?_
  show AG G M_X8_minutes 0 [some (.ref (oT o + 0)), some (.int (a1)), some (.int (a2)), some (.int (a3)), some (.int (a4))] [] _ _
  refine g_iconst (v := 0) dX8_minutes_0 (by decide) ?_
  refine g_aload_n dX8_minutes_1 rfl rfl ?_
  refine s_getI (k := 0) (j := 8) E.2.1 hL rfl rfl f_X8_37 dX8_minutes_2 ?_
  intro v1 hL
  refine g_aload_n dX8_minutes_5 rfl rfl ?_
  refine g_none 0 ?_
  refine g_iload_n dX8_minutes_6 rfl rfl ?_
  refine g_none 1 ?_
  refine g_iload_n dX8_minutes_7 rfl rfl ?_
  refine g_none 2 ?_
  obtain ⟨v2, w3, hc, hL⟩ := xB2_some hL
  refine g_callV (M' := M_X8_distance) (as := [.int (a1), .int (a2)]) (v := some (.int (v2))) l_X8_53 kV_X8_distance (by decide) (C_X8_distance hG E hc) rfl (by have := E.2.1.1; omega) (E.2.1.2.1 _ 0 _ rfl) ⟨_, _, rfl⟩ (Nat.le_of_ble_eq_true rfl) dX8_minutes_8 ?_
  refine g_imul dX8_minutes_11 ?_
  refine g_iload_n dX8_minutes_12 rfl rfl ?_
  refine g_none 3 ?_
  refine g_iadd dX8_minutes_13 ?_
  refine g_iload dX8_minutes_14 rfl ?_
  refine g_none 4 ?_
  refine g_isub dX8_minutes_16 ?_
  refine g_mmax (aIn1 547 (by decide +kernel) rfl) mmax_1 mmax_2 mmax_3 (by decide) (Nat.le_of_ble_eq_true rfl) dX8_minutes_17 ?_
  obtain rfl := Option.some.inj hL
  exact g_iret rfl dX8_minutes_20
def L_X9_wayNow (o : wO) (a1 : Int32) (a2 : Int32) (w : wS) : Option (Int32 × wS) :=
  xIf (xRef w 9 (oT o + 0)) (xIf (xRef w 9 (oT o + 0)) (xB (xAld w 1002 8 (a1)) fun v1 => xB2 (L_X5_hasteOf_x13 o (a1) w) fun v2 w3 => xB2 (L_X8_minutes o (a1) (a2) (v1) (v2) w3) fun v4 w5 => some (v4, w5)))
set_option maxRecDepth 20000 in
theorem C_X9_wayNow {G : aG} {Hf : wS → aH} {bx : Nat} {o : wO} {a1 : Int32} {a2 : Int32} {w : wS} {r : Int32 × wS} (hG : aGood G) (E : EX Hf bx o) (hL : L_X9_wayNow o a1 a2 w = some r) : AC G M_X9_wayNow [.ref (bx + 0), .int a1, .int a2] (Hf w) (.inl (some (.int r.1)), Hf r.2) := by
  unfold L_X9_wayNow at hL
  refine AC.of (by decide) rfl (Nat.le_of_ble_eq_true rfl) ?_
  show AG G M_X9_wayNow 0 [some (.ref (bx + 0)), some (.int (a1)), some (.int (a2))] [] _ _
  refine g_aload_n dX9_wayNow_0 rfl rfl ?_
  refine s_getT (k := 0) (j := 9) E.1 hL rfl rfl f_X9_55 dX9_wayNow_1 ?_
  intro hL
  refine g_iload_n dX9_wayNow_4 rfl rfl ?_
  refine g_iload_n dX9_wayNow_5 rfl rfl ?_
  refine g_none 2 ?_
  refine g_aload_n dX9_wayNow_6 rfl rfl ?_
  refine s_getT (k := 0) (j := 9) E.1 hL rfl rfl f_X9_55 dX9_wayNow_7 ?_
  intro hL
  refine s_getR (k := 0) (j := 1) E.2.1 rfl rfl f_X9_150 dX9_wayNow_10 ?_
  refine g_iload_n dX9_wayNow_13 rfl rfl ?_
  refine s_iald (k := 2) E.2.1 hL rfl dX9_wayNow_14 ?_
  intro v1 hL
  refine g_aload_n dX9_wayNow_15 rfl rfl ?_
  refine g_none 0 ?_
  refine s_getR (k := 0) (j := 1) E.1 rfl rfl f_X9_19 dX9_wayNow_16 ?_
  refine s_getR (k := 12) (j := 0) E.1 rfl rfl f_X9_108 dX9_wayNow_19 ?_
  refine g_iload_n dX9_wayNow_22 rfl rfl ?_
  refine g_none 1 ?_
  obtain ⟨v2, w3, hc, hL⟩ := xB2_some hL
  refine g_callV (M' := M_X5_hasteOf) (as := [.int (a1)]) (v := some (.int (v2))) l_X9_153 kV_X5_hasteOf (by decide) (C_X5_hasteOf_x13 hG E hc) rfl (by have := E.1.1; omega) (E.1.2.1 _ 13 _ rfl) ⟨_, _, rfl⟩ (Nat.le_of_ble_eq_true rfl) dX9_wayNow_23 ?_
  obtain ⟨v4, w5, hc, hL⟩ := xB2_some hL
  refine g_callV (M' := M_X8_minutes) (as := [.int (a1), .int (a2), .int (v1), .int (v2)]) (v := some (.int (v4))) l_X9_375 kV_X8_minutes (by decide) (C_X8_minutes hG E hc) rfl (by have := E.2.1.1; omega) (E.2.1.2.1 _ 0 _ rfl) ⟨_, _, rfl⟩ (Nat.le_of_ble_eq_true rfl) dX9_wayNow_26 ?_
  obtain rfl := Option.some.inj hL
  exact g_iret rfl dX9_wayNow_29
def J_X9_slowest_49 (o : wO) (kh4 : Int32 → Int32 → Int32 → wS → Option (Int32 × wS)) (ke55 : Int32 → wS → Option (Int32 × wS)) (x1 : Int32) (x2 : Int32) (x3 : Int32) (w : wS) : Option (Int32 × wS) :=
  kh4 (x1) (x2) ((x3 + 1)) w
set_option maxRecDepth 20000 in
theorem J_X9_slowest_49_ok {G : aG} {Hf : wS → aH} {bx : Nat} {o : wO} {kh4 : Int32 → Int32 → Int32 → wS → Option (Int32 × wS)} {ke55 : Int32 → wS → Option (Int32 × wS)} {x1 : Int32} {x2 : Int32} {x3 : Int32} {w : wS} {r : Int32 × wS} (hG : aGood G) (E : EX Hf bx o) (hL : J_X9_slowest_49 o kh4 ke55 x1 x2 x3 w = some r) (Hkh4 : ∀ (z0 : Int32) (z1 : Int32) (z2 : Int32) (w : wS), kh4 z0 z1 z2 w = some r → AG G M_X9_slowest 4 [some (.ref (bx + 0)), some (.int (z0)), some (.int (z1)), some (.int (z2))] [] (Hf w) (.inl (some (.int r.1)), Hf r.2)) (Hke55 : ∀ (z0 : Int32) (w : wS), ke55 z0 w = some r → AG G M_X9_slowest 55 [none, none, some (.int (z0)), none] [] (Hf w) (.inl (some (.int r.1)), Hf r.2)) : AG G M_X9_slowest 49 [some (.ref (bx + 0)), some (.int (x1)), some (.int (x2)), some (.int (x3))] [] (Hf w) (.inl (some (.int r.1)), Hf r.2) := by
  unfold J_X9_slowest_49 at hL
  refine g_iincV (v := (x3 + 1)) dX9_slowest_49 rfl rfl (by decide) rfl ?_
  refine g_goto (tgt := 4) dX9_slowest_52 (by decide) ?_
  exact Hkh4 _ _ _ _ hL
def J_X9_slowest_47 (o : wO) (kh4 : Int32 → Int32 → Int32 → wS → Option (Int32 × wS)) (ke55 : Int32 → wS → Option (Int32 × wS)) (x1 : Int32) (x3 : Int32) (w : wS) : Option (Int32 × wS) :=
  J_X9_slowest_49 o kh4 ke55 (x1) (x3) (x3) w
set_option maxRecDepth 20000 in
theorem J_X9_slowest_47_ok {G : aG} {Hf : wS → aH} {bx : Nat} {o : wO} {kh4 : Int32 → Int32 → Int32 → wS → Option (Int32 × wS)} {ke55 : Int32 → wS → Option (Int32 × wS)} {x1 : Int32} {x3 : Int32} {w : wS} {r : Int32 × wS} (hG : aGood G) (E : EX Hf bx o) (hL : J_X9_slowest_47 o kh4 ke55 x1 x3 w = some r) (Hkh4 : ∀ (z0 : Int32) (z1 : Int32) (z2 : Int32) (w : wS), kh4 z0 z1 z2 w = some r → AG G M_X9_slowest 4 [some (.ref (bx + 0)), some (.int (z0)), some (.int (z1)), some (.int (z2))] [] (Hf w) (.inl (some (.int r.1)), Hf r.2)) (Hke55 : ∀ (z0 : Int32) (w : wS), ke55 z0 w = some r → AG G M_X9_slowest 55 [none, none, some (.int (z0)), none] [] (Hf w) (.inl (some (.int r.1)), Hf r.2)) : AG G M_X9_slowest 47 [some (.ref (bx + 0)), some (.int (x1)), none, some (.int (x3))] [] (Hf w) (.inl (some (.int r.1)), Hf r.2) := by
  unfold J_X9_slowest_47 at hL
  refine g_iload_n dX9_slowest_47 rfl rfl ?_
  refine g_istore_n (i := 2) dX9_slowest_48 rfl (by decide) rfl ?_
  exact J_X9_slowest_49_ok hG E hL Hkh4 Hke55
def B_X9_slowest_4 (o : wO) (kh4 : Int32 → Int32 → Int32 → wS → Option (Int32 × wS)) (ke55 : Int32 → wS → Option (Int32 × wS)) (x1 : Int32) (x2 : Int32) (x3 : Int32) (w : wS) : Option (Int32 × wS) :=
  xIf (xRef w 9 (oT o + 0)) (xB (xGet w 100006) fun v1 => if v1 ≤ x3 then ke55 (x2) w else xIf (xRef w 9 (oT o + 0)) (xB (xAld w 1001 8 (x3)) fun v2 => if v2 = 0 then if x2 = (-1) then J_X9_slowest_47 o kh4 ke55 (x1) (x3) w else xB2 (L_X9_wayNow o (x3) (x1) w) fun v3 w4 => xB2 (L_X9_wayNow o (x2) (x1) w4) fun v5 w6 => if v3 ≤ v5 then J_X9_slowest_49 o kh4 ke55 (x1) (x2) (x3) w6 else J_X9_slowest_47 o kh4 ke55 (x1) (x3) w6 else J_X9_slowest_49 o kh4 ke55 (x1) (x2) (x3) w))
set_option maxRecDepth 20000 in
theorem B_X9_slowest_4_ok {G : aG} {Hf : wS → aH} {bx : Nat} {o : wO} {kh4 : Int32 → Int32 → Int32 → wS → Option (Int32 × wS)} {ke55 : Int32 → wS → Option (Int32 × wS)} {x1 : Int32} {x2 : Int32} {x3 : Int32} {w : wS} {r : Int32 × wS} (hG : aGood G) (E : EX Hf bx o) (hL : B_X9_slowest_4 o kh4 ke55 x1 x2 x3 w = some r) (Hkh4 : ∀ (z0 : Int32) (z1 : Int32) (z2 : Int32) (w : wS), kh4 z0 z1 z2 w = some r → AG G M_X9_slowest 4 [some (.ref (bx + 0)), some (.int (z0)), some (.int (z1)), some (.int (z2))] [] (Hf w) (.inl (some (.int r.1)), Hf r.2)) (Hke55 : ∀ (z0 : Int32) (w : wS), ke55 z0 w = some r → AG G M_X9_slowest 55 [none, none, some (.int (z0)), none] [] (Hf w) (.inl (some (.int r.1)), Hf r.2)) : AG G M_X9_slowest 4 [some (.ref (bx + 0)), some (.int (x1)), some (.int (x2)), some (.int (x3))] [] (Hf w) (.inl (some (.int r.1)), Hf r.2) := by
  unfold B_X9_slowest_4 at hL
  refine g_iload_n dX9_slowest_4 rfl rfl ?_
  refine g_aload_n dX9_slowest_5 rfl rfl ?_
  refine s_getT (k := 0) (j := 9) E.1 hL rfl rfl f_X9_55 dX9_slowest_6 ?_
  intro hL
  refine s_getI (k := 0) (j := 6) E.2.1 hL rfl rfl f_X9_99 dX9_slowest_9 ?_
  intro v1 hL
  refine g_icmp_ge (tgt := 55) dX9_slowest_12 (by decide) (fun q10 => ?_) (fun q10 => ?_)
  · rw [if_pos q10] at hL
    refine g_none 0 ?_
    refine g_none 1 ?_
    refine g_none 3 ?_
    exact Hke55 _ _ hL
  · rw [if_neg q10] at hL
    refine g_aload_n dX9_slowest_15 rfl rfl ?_
    refine s_getT (k := 0) (j := 9) E.1 hL rfl rfl f_X9_55 dX9_slowest_16 ?_
    intro hL
    refine s_getR (k := 0) (j := 0) E.2.1 rfl rfl f_X9_166 dX9_slowest_19 ?_
    refine g_iload_n dX9_slowest_22 rfl rfl ?_
    refine s_iald (k := 1) E.2.1 hL rfl dX9_slowest_23 ?_
    intro v2 hL
    refine g_if_ne (tgt := 49) dX9_slowest_24 (by decide) (fun q9 => ?_) (fun q9 => ?_)
    · rw [if_neg q9] at hL
      exact J_X9_slowest_49_ok hG E hL Hkh4 Hke55
    · rw [if_pos q9] at hL
      refine g_iload_n dX9_slowest_27 rfl rfl ?_
      refine g_iconst (v := (-1)) dX9_slowest_28 (by decide) ?_
      refine g_icmp_eq (tgt := 47) dX9_slowest_29 (by decide) (fun q8 => ?_) (fun q8 => ?_)
      · rw [if_pos q8] at hL
        refine g_none 2 ?_
        exact J_X9_slowest_47_ok hG E hL Hkh4 Hke55
      · rw [if_neg q8] at hL
        refine g_aload_n dX9_slowest_32 rfl rfl ?_
        refine g_iload_n dX9_slowest_33 rfl rfl ?_
        refine g_iload_n dX9_slowest_34 rfl rfl ?_
        obtain ⟨v3, w4, hc, hL⟩ := xB2_some hL
        refine g_callV (M' := M_X9_wayNow) (as := [.int (x3), .int (x1)]) (v := some (.int (v3))) l_X9_346 kV_X9_wayNow (by decide) (C_X9_wayNow hG E hc) rfl (by have := E.1.1; omega) (E.1.2.1 _ 0 _ rfl) ⟨_, _, rfl⟩ (Nat.le_of_ble_eq_true rfl) dX9_slowest_35 ?_
        refine g_aload_n dX9_slowest_38 rfl rfl ?_
        refine g_iload_n dX9_slowest_39 rfl rfl ?_
        refine g_iload_n dX9_slowest_40 rfl rfl ?_
        obtain ⟨v5, w6, hc, hL⟩ := xB2_some hL
        refine g_callV (M' := M_X9_wayNow) (as := [.int (x2), .int (x1)]) (v := some (.int (v5))) l_X9_346 kV_X9_wayNow (by decide) (C_X9_wayNow hG E hc) rfl (by have := E.1.1; omega) (E.1.2.1 _ 0 _ rfl) ⟨_, _, rfl⟩ (Nat.le_of_ble_eq_true rfl) dX9_slowest_41 ?_
        refine g_icmp_le (tgt := 49) dX9_slowest_44 (by decide) (fun q7 => ?_) (fun q7 => ?_)
        · rw [if_pos q7] at hL
          exact J_X9_slowest_49_ok hG E hL Hkh4 Hke55
        · rw [if_neg q7] at hL
          refine g_none 2 ?_
          exact J_X9_slowest_47_ok hG E hL Hkh4 Hke55
def P_X9_slowest_4 (o : wO) (ke55 : Int32 → wS → Option (Int32 × wS)) (n : Nat) (x1 : Int32) (x2 : Int32) (x3 : Int32) (w : wS) : Option (Int32 × wS) :=
  xLoop (fun (kk : Int32 × Int32 × Int32 × wS → Option (Int32 × wS)) σ => B_X9_slowest_4 o (fun x1 x2 x3 w => kk (x1, x2, x3, w)) ke55 (σ.1) (σ.2.1) (σ.2.2.1) (σ.2.2.2)) n (x1, x2, x3, w)
theorem P_X9_slowest_4_ok {G : aG} {Hf : wS → aH} {bx : Nat} {o : wO} {ke55 : Int32 → wS → Option (Int32 × wS)} {n : Nat} {x1 : Int32} {x2 : Int32} {x3 : Int32} {w : wS} {r : Int32 × wS} (hG : aGood G) (E : EX Hf bx o) (hL : P_X9_slowest_4 o ke55 n x1 x2 x3 w = some r) (Hke55 : ∀ (z0 : Int32) (w : wS), ke55 z0 w = some r → AG G M_X9_slowest 55 [none, none, some (.int (z0)), none] [] (Hf w) (.inl (some (.int r.1)), Hf r.2)) : AG G M_X9_slowest 4 [some (.ref (bx + 0)), some (.int (x1)), some (.int (x2)), some (.int (x3))] [] (Hf w) (.inl (some (.int r.1)), Hf r.2) :=
  xLoop_ok (Q := fun (σ : Int32 × Int32 × Int32 × wS) => AG G M_X9_slowest 4 [some (.ref (bx + 0)), some (.int (σ.1)), some (.int (σ.2.1)), some (.int (σ.2.2.1))] [] (Hf σ.2.2.2) (.inl (some (.int r.1)), Hf r.2)) (fun kk hk σ hσ => B_X9_slowest_4_ok hG E hσ (fun x1 x2 x3 w h9 => hk (x1, x2, x3, w) h9) Hke55) n (x1, x2, x3, w) hL
def L_X9_slowest (o : wO) (a1 : Int32) (w : wS) : Option (Int32 × wS) :=
  P_X9_slowest_4 o (fun z11 w12 => some (z11, w12)) 5000 (a1) ((-1)) (0) w
set_option maxRecDepth 20000 in
theorem C_X9_slowest {G : aG} {Hf : wS → aH} {bx : Nat} {o : wO} {a1 : Int32} {w : wS} {r : Int32 × wS} (hG : aGood G) (E : EX Hf bx o) (hL : L_X9_slowest o a1 w = some r) : AC G M_X9_slowest [.ref (bx + 0), .int a1] (Hf w) (.inl (some (.int r.1)), Hf r.2) := by
  unfold L_X9_slowest at hL
  refine AC.of (by decide) rfl (Nat.le_of_ble_eq_true rfl) ?_
  show AG G M_X9_slowest 0 [some (.ref (bx + 0)), some (.int (a1)), none, none] [] _ _
  refine g_iconst (v := (-1)) dX9_slowest_0 (by decide) ?_
  refine g_istore_n (i := 2) dX9_slowest_1 rfl (by decide) rfl ?_
  refine g_iconst (v := 0) dX9_slowest_2 (by decide) ?_
  refine g_istore_n (i := 3) dX9_slowest_3 rfl (by decide) rfl ?_
  refine P_X9_slowest_4_ok hG E hL ?_
  · intro z11 w12 hL
    refine g_iload_n dX9_slowest_55 rfl rfl ?_
    refine g_none 2 ?_
    obtain rfl := Option.some.inj hL
    exact g_iret rfl dX9_slowest_56
def L_X9_duty (o : wO) (a1 : Int32) (a2 : Int32) (w : wS) : Option ((Int32 ⊕ String) × wS) :=
  xBT (L_X9_needDuty o (a1) w) (fun E9 => some (.inr E9, w)) (if a2 = 0 then xB2 (L_X5_dueOf_x13 o (a1) w) fun v2 w3 => some (.inl (v2), w3) else if a2 = 1 then xIf (xRef w 9 (oT o + 0)) (xB (xAld w 1006 6 (a1)) fun v5 => some (.inl (v5), w)) else if a2 = 2 then xB2 (L_X9_slowest o (a1) w) fun v7 w8 => some (.inl (v7), w8) else some (.inr cNo, w))
set_option maxRecDepth 20000 in
theorem C_X9_duty {G : aG} {Hf : wS → aH} {bx : Nat} {o : wO} {a1 : Int32} {a2 : Int32} {w : wS} {r : (Int32 ⊕ String) × wS} (hG : aGood G) (E : EX Hf bx o) (hL : L_X9_duty o a1 a2 w = some r) : AC G M_X9_duty [.ref (bx + 0), .int a1, .int a2] (Hf w) (xRv Hf r) := by
  unfold L_X9_duty at hL
  refine AC.of (by decide) rfl (Nat.le_of_ble_eq_true rfl) ?_
  show AG G M_X9_duty 0 [some (.ref (bx + 0)), some (.int (a1)), some (.int (a2))] [] _ _
  refine g_aload_n dX9_duty_0 rfl rfl ?_
  refine g_iload_n dX9_duty_1 rfl rfl ?_
  rcases xBT_some hL with ⟨hc, hL⟩ | ⟨E9, hc, hL⟩
  · refine g_callV (M' := M_X9_needDuty) (as := [.int (a1)]) (v := none) l_X9_175 kV_X9_needDuty (by decide) (C_X9_needDuty hG E hc) rfl (by have := E.1.1; omega) (E.1.2.1 _ 0 _ rfl) ⟨_, _, rfl⟩ (Nat.le_of_ble_eq_true rfl) dX9_duty_2 ?_
    refine g_iload_n dX9_duty_5 rfl rfl ?_
    refine g_none 2 ?_
    by_cases q1 : a2 = 0
    · rw [if_pos q1] at hL
      refine g_tableIn (off := 26) (tgt := 32) dX9_duty_6 (by rw [q1]; decide) (by rw [q1]; decide) (by rw [q1]; decide +kernel) (by decide) ?_
      refine g_aload_n dX9_duty_32 rfl rfl ?_
      refine g_none 0 ?_
      refine s_getR (k := 0) (j := 1) E.1 rfl rfl f_X9_19 dX9_duty_33 ?_
      refine s_getR (k := 12) (j := 0) E.1 rfl rfl f_X9_108 dX9_duty_36 ?_
      refine g_iload_n dX9_duty_39 rfl rfl ?_
      refine g_none 1 ?_
      obtain ⟨v2, w3, hc, hL⟩ := xB2_some hL
      refine g_callV (M' := M_X5_dueOf) (as := [.int (a1)]) (v := some (.int (v2))) l_X9_178 kV_X5_dueOf (by decide) (C_X5_dueOf_x13 hG E hc) rfl (by have := E.1.1; omega) (E.1.2.1 _ 13 _ rfl) ⟨_, _, rfl⟩ (Nat.le_of_ble_eq_true rfl) dX9_duty_40 ?_
      obtain rfl := Option.some.inj hL
      exact g_iret rfl dX9_duty_43
    rw [if_neg q1] at hL
    by_cases q4 : a2 = 1
    · rw [if_pos q4] at hL
      refine g_tableIn (off := 38) (tgt := 44) dX9_duty_6 (by rw [q4]; decide) (by rw [q4]; decide) (by rw [q4]; decide +kernel) (by decide) ?_
      refine g_aload_n dX9_duty_44 rfl rfl ?_
      refine g_none 0 ?_
      refine s_getT (k := 0) (j := 9) E.1 hL rfl rfl f_X9_55 dX9_duty_45 ?_
      intro hL
      refine s_getR (k := 0) (j := 5) E.2.1 rfl rfl f_X9_181 dX9_duty_48 ?_
      refine g_iload_n dX9_duty_51 rfl rfl ?_
      refine g_none 1 ?_
      refine s_iald (k := 6) E.2.1 hL rfl dX9_duty_52 ?_
      intro v5 hL
      obtain rfl := Option.some.inj hL
      exact g_iret rfl dX9_duty_53
    rw [if_neg q4] at hL
    by_cases q6 : a2 = 2
    · rw [if_pos q6] at hL
      refine g_tableIn (off := 48) (tgt := 54) dX9_duty_6 (by rw [q6]; decide) (by rw [q6]; decide) (by rw [q6]; decide +kernel) (by decide) ?_
      refine g_aload_n dX9_duty_54 rfl rfl ?_
      refine g_none 0 ?_
      refine g_iload_n dX9_duty_55 rfl rfl ?_
      refine g_none 1 ?_
      obtain ⟨v7, w8, hc, hL⟩ := xB2_some hL
      refine g_callV (M' := M_X9_slowest) (as := [.int (a1)]) (v := some (.int (v7))) l_X9_184 kV_X9_slowest (by decide) (C_X9_slowest hG E hc) rfl (by have := E.1.1; omega) (E.1.2.1 _ 0 _ rfl) ⟨_, _, rfl⟩ (Nat.le_of_ble_eq_true rfl) dX9_duty_56 ?_
      obtain rfl := Option.some.inj hL
      exact g_iret rfl dX9_duty_59
    rw [if_neg q6] at hL
    refine g_tableOut (tgt := 60) dX9_duty_6 (i32_out (x := a2) (0) (2) (fun z hz1 hz2 => ?_)) (by decide) ?_
    · rcases (show z = 0 ∨ z = 1 ∨ z = 2 by omega) with rfl | rfl | rfl
      · exact q1
      · exact q4
      · exact q6
    · refine g_none 0 ?_
      refine g_none 1 ?_
      obtain rfl := Option.some.inj hL
      exact g_throwS (k := 21) hG thr_No rfl rfl (by decide) (Nat.le_of_ble_eq_true rfl) dX9_duty_60 dX9_duty_63 dX9_duty_64 dX9_duty_66 dX9_duty_69
  · obtain rfl := Option.some.inj hL
    exact g_callVX (M' := M_X9_needDuty) (as := [.int (a1)]) (E := E9) (aIn1 972 (by decide +kernel) rfl) kV_X9_needDuty (by decide) rfl (C_X9_needDuty hG E hc) rfl (by have := E.1.1; omega) (E.1.2.1 _ 0 _ rfl) ⟨_, _, rfl⟩ (Nat.le_of_ble_eq_true rfl) dX9_duty_2
def L_X5_copyFrom_x31_x13 (o : wO) (w : wS) : Option (wS) :=
  xB (xCpy w 14 32 33 33 (0) (0) (33)) fun w1 => some w1
set_option maxRecDepth 20000 in
theorem C_X5_copyFrom_x31_x13 {G : aG} {Hf : wS → aH} {bx : Nat} {o : wO} {w : wS} {r : wS} (hG : aGood G) (E : EX Hf bx o) (hL : L_X5_copyFrom_x31_x13 o  w = some r) : AC G M_X5_copyFrom [.ref (bx + 31), .ref (bx + 13)] (Hf w) (.inl none, Hf r) := by
  unfold L_X5_copyFrom_x31_x13 at hL
  refine AC.of (by decide) rfl (Nat.le_of_ble_eq_true rfl) ?_
  show AG G M_X5_copyFrom 0 [some (.ref (bx + 31)), some (.ref (bx + 13))] [] _ _
  refine g_aload_n dX5_copyFrom_0 rfl rfl ?_
  refine g_none 1 ?_
  refine s_getR (k := 13) (j := 0) E.1 rfl rfl f_X5_11 dX5_copyFrom_1 ?_
  refine g_iconst (v := 0) dX5_copyFrom_4 (by decide) ?_
  refine g_aload_n dX5_copyFrom_5 rfl rfl ?_
  refine g_none 0 ?_
  refine s_getR (k := 31) (j := 0) E.1 rfl rfl f_X5_11 dX5_copyFrom_6 ?_
  refine g_iconst (v := 0) dX5_copyFrom_9 (by decide) ?_
  refine g_bipush (v := 33) dX5_copyFrom_10 (by decide) ?_
  refine s_copy (k0 := 14) (k1 := 32) E.1 E.1 hL rfl rfl (aIn1 450 (by decide +kernel) rfl) ac_nat ac_sta ac_ini (by decide) (Nat.le_of_ble_eq_true rfl) dX5_copyFrom_12 ?_
  intro w1 hL
  obtain rfl := Option.some.inj hL
  exact g_vret rfl dX5_copyFrom_15
def B_J7_fill_53178_x34_5 (o : wO) (kh5 : Int32 → Int32 → Int32 → wS → Option (wS)) (ke20 : wS → Option (wS)) (x1 : Int32) (x2 : Int32) (x3 : Int32) (w : wS) : Option (wS) :=
  if x3 ≤ x2 then ke20  w else xB (xAst w 34 8 (x2) (x1)) fun w1 => kh5 (x1) ((x2 + 1)) (x3) w1
set_option maxRecDepth 20000 in
theorem B_J7_fill_53178_x34_5_ok {G : aG} {Hf : wS → aH} {bx : Nat} {o : wO} {kh5 : Int32 → Int32 → Int32 → wS → Option (wS)} {ke20 : wS → Option (wS)} {x1 : Int32} {x2 : Int32} {x3 : Int32} {w : wS} {r : wS} (hG : aGood G) (E : EX Hf bx o) (hL : B_J7_fill_53178_x34_5 o kh5 ke20 x1 x2 x3 w = some r) (Hkh5 : ∀ (z0 : Int32) (z1 : Int32) (z2 : Int32) (w : wS), kh5 z0 z1 z2 w = some r → AG G M_J7_fill_53178 5 [some (.ref (bx + 34)), some (.int (z0)), some (.int (z1)), some (.int (z2))] [] (Hf w) (.inl none, Hf r)) (Hke20 : ∀ (w : wS), ke20  w = some r → AG G M_J7_fill_53178 20 [none, none, none, none] [] (Hf w) (.inl none, Hf r)) : AG G M_J7_fill_53178 5 [some (.ref (bx + 34)), some (.int (x1)), some (.int (x2)), some (.int (x3))] [] (Hf w) (.inl none, Hf r) := by
  unfold B_J7_fill_53178_x34_5 at hL
  refine g_iload_n dJ7_fill_53178_5 rfl rfl ?_
  refine g_iload_n dJ7_fill_53178_6 rfl rfl ?_
  refine g_icmp_ge (tgt := 20) dJ7_fill_53178_7 (by decide) (fun q2 => ?_) (fun q2 => ?_)
  · rw [if_pos q2] at hL
    refine g_none 0 ?_
    refine g_none 1 ?_
    refine g_none 2 ?_
    refine g_none 3 ?_
    exact Hke20  _ hL
  · rw [if_neg q2] at hL
    refine g_aload_n dJ7_fill_53178_10 rfl rfl ?_
    refine g_iload_n dJ7_fill_53178_11 rfl rfl ?_
    refine g_iload_n dJ7_fill_53178_12 rfl rfl ?_
    refine s_iast (k := 34) E.1 hL rfl dJ7_fill_53178_13 ?_
    intro w1 hL
    refine g_iincV (v := (x2 + 1)) dJ7_fill_53178_14 rfl rfl (by decide) rfl ?_
    refine g_goto (tgt := 5) dJ7_fill_53178_17 (by decide) ?_
    exact Hkh5 _ _ _ _ hL
def P_J7_fill_53178_x34_5 (o : wO) (ke20 : wS → Option (wS)) (n : Nat) (x1 : Int32) (x2 : Int32) (x3 : Int32) (w : wS) : Option (wS) :=
  xLoop (fun (kk : Int32 × Int32 × Int32 × wS → Option (wS)) σ => B_J7_fill_53178_x34_5 o (fun x1 x2 x3 w => kk (x1, x2, x3, w)) ke20 (σ.1) (σ.2.1) (σ.2.2.1) (σ.2.2.2)) n (x1, x2, x3, w)
theorem P_J7_fill_53178_x34_5_ok {G : aG} {Hf : wS → aH} {bx : Nat} {o : wO} {ke20 : wS → Option (wS)} {n : Nat} {x1 : Int32} {x2 : Int32} {x3 : Int32} {w : wS} {r : wS} (hG : aGood G) (E : EX Hf bx o) (hL : P_J7_fill_53178_x34_5 o ke20 n x1 x2 x3 w = some r) (Hke20 : ∀ (w : wS), ke20  w = some r → AG G M_J7_fill_53178 20 [none, none, none, none] [] (Hf w) (.inl none, Hf r)) : AG G M_J7_fill_53178 5 [some (.ref (bx + 34)), some (.int (x1)), some (.int (x2)), some (.int (x3))] [] (Hf w) (.inl none, Hf r) :=
  xLoop_ok (Q := fun (σ : Int32 × Int32 × Int32 × wS) => AG G M_J7_fill_53178 5 [some (.ref (bx + 34)), some (.int (σ.1)), some (.int (σ.2.1)), some (.int (σ.2.2.1))] [] (Hf σ.2.2.2) (.inl none, Hf r)) (fun kk hk σ hσ => B_J7_fill_53178_x34_5_ok hG E hσ (fun x1 x2 x3 w h9 => hk (x1, x2, x3, w) h9) Hke20) n (x1, x2, x3, w) hL
def L_J7_fill_53178_x34 (o : wO) (a2 : Int32) (w : wS) : Option (wS) :=
  P_J7_fill_53178_x34_5 o (fun w3 => some w3) 5000 (a2) (0) (8) w
set_option maxRecDepth 20000 in
theorem C_J7_fill_53178_x34 {G : aG} {Hf : wS → aH} {bx : Nat} {o : wO} {a2 : Int32} {w : wS} {r : wS} (hG : aGood G) (E : EX Hf bx o) (hL : L_J7_fill_53178_x34 o a2 w = some r) : AC G M_J7_fill_53178 [.ref (bx + 34), .int a2] (Hf w) (.inl none, Hf r) := by
  unfold L_J7_fill_53178_x34 at hL
  refine AC.of (by decide) rfl (Nat.le_of_ble_eq_true rfl) ?_
  show AG G M_J7_fill_53178 0 [some (.ref (bx + 34)), some (.int (a2)), none, none] [] _ _
  refine g_iconst (v := 0) dJ7_fill_53178_0 (by decide) ?_
  refine g_istore_n (i := 2) dJ7_fill_53178_1 rfl (by decide) rfl ?_
  refine g_aload_n dJ7_fill_53178_2 rfl rfl ?_
  refine g_alen (v := 8) dJ7_fill_53178_3 (by have := E.1.1; omega) (show 0 < 4 by decide) (E.1.2.1 _ 34 _ rfl) rfl ?_
  refine g_istore_n (i := 3) dJ7_fill_53178_4 rfl (by decide) rfl ?_
  refine P_J7_fill_53178_x34_5_ok hG E hL ?_
  · intro w3 hL
    obtain rfl := Option.some.inj hL
    exact g_vret rfl dJ7_fill_53178_20
def L_X1_begin_t0_x13 (o : wO) (w : wS) : Option (wS) :=
  xB (xPutR w 3010 (.ref (oT o + 0))) fun w1 => xB (L_X5_copyFrom_x31_x13 o  w1) fun w2 => xB (xCpy w2 1002 33 8 8 (0) (0) (8)) fun w3 => xB (L_J7_fill_53178_x34 o (0) w3) fun w4 => xB (xPut w4 3011 (0)) fun w5 => xB (xPut w5 3008 (0)) fun w6 => some w6
set_option maxRecDepth 20000 in
theorem C_X1_begin_t0_x13 {G : aG} {Hf : wS → aH} {bx : Nat} {o : wO} {w : wS} {r : wS} (hG : aGood G) (E : EX Hf bx o) (hL : L_X1_begin_t0_x13 o  w = some r) : AC G M_X1_begin [.ref (bx + 30), .ref (oT o + 0), .ref (bx + 13)] (Hf w) (.inl none, Hf r) := by
  unfold L_X1_begin_t0_x13 at hL
  refine AC.of (by decide) rfl (Nat.le_of_ble_eq_true rfl) ?_
  show AG G M_X1_begin 0 [some (.ref (bx + 30)), some (.ref (oT o + 0)), some (.ref (bx + 13))] [] _ _
  refine g_aload_n dX1_begin_0 rfl rfl ?_
  refine g_aload_n dX1_begin_1 rfl rfl ?_
  refine s_putR (k := 30) (j := 10) E.1 hL rfl rfl (by decide) fw_X1_52 rfl rfl dX1_begin_2 ?_
  intro w1 hL
  refine g_aload_n dX1_begin_5 rfl rfl ?_
  refine s_getR (k := 30) (j := 0) E.1 rfl rfl f_X1_12 dX1_begin_6 ?_
  refine g_aload_n dX1_begin_9 rfl rfl ?_
  refine g_none 2 ?_
  obtain ⟨w2, hc, hL⟩ := xB_some hL
  refine g_callV (M' := M_X5_copyFrom) (as := [.ref (bx + 13)]) (v := none) l_X1_59 kV_X5_copyFrom (by decide) (C_X5_copyFrom_x31_x13 hG E hc) rfl (by have := E.1.1; omega) (E.1.2.1 _ 31 _ rfl) ⟨_, _, rfl⟩ (Nat.le_of_ble_eq_true rfl) dX1_begin_10 ?_
  refine g_aload_n dX1_begin_13 rfl rfl ?_
  refine g_none 1 ?_
  refine s_getR (k := 0) (j := 1) E.2.1 rfl rfl f_X1_63 dX1_begin_14 ?_
  refine g_iconst (v := 0) dX1_begin_17 (by decide) ?_
  refine g_aload_n dX1_begin_18 rfl rfl ?_
  refine s_getR (k := 30) (j := 1) E.1 rfl rfl f_X1_18 dX1_begin_19 ?_
  refine g_iconst (v := 0) dX1_begin_22 (by decide) ?_
  refine g_bipush (v := 8) dX1_begin_23 (by decide) ?_
  refine s_copy (k0 := 2) (k1 := 33) E.2.1 E.1 hL rfl rfl (aIn1 465 (by decide +kernel) rfl) ac_nat ac_sta ac_ini (by decide) (Nat.le_of_ble_eq_true rfl) dX1_begin_25 ?_
  intro w3 hL
  refine g_aload_n dX1_begin_28 rfl rfl ?_
  refine s_getR (k := 30) (j := 2) E.1 rfl rfl f_X1_22 dX1_begin_29 ?_
  refine g_iconst (v := 0) dX1_begin_32 (by decide) ?_
  obtain ⟨w4, hc, hL⟩ := xB_some hL
  refine g_callS (M' := M_J7_fill_53178) (as := [.ref (bx + 34), .int (0)]) (v := none) l_X1_70 kS_J7_fill_53178 (by decide) (C_J7_fill_53178_x34 hG E hc) rfl (Nat.le_of_ble_eq_true rfl) dX1_begin_33 ?_
  refine g_aload_n dX1_begin_36 rfl rfl ?_
  refine g_iconst (v := 0) dX1_begin_37 (by decide) ?_
  refine s_putI (k := 30) (j := 11) E.1 hL rfl rfl (by decide) fw_X1_56 rfl rfl dX1_begin_38 ?_
  intro w5 hL
  refine g_aload_n dX1_begin_41 rfl rfl ?_
  refine g_none 0 ?_
  refine g_iconst (v := 0) dX1_begin_42 (by decide) ?_
  refine s_putI (k := 30) (j := 8) E.1 hL rfl rfl (by decide) fw_X1_40 rfl rfl dX1_begin_43 ?_
  intro w6 hL
  obtain rfl := Option.some.inj hL
  exact g_vret rfl dX1_begin_46
def L_X9_fromNow (o : wO) (w : wS) : Option (wS) :=
  xIf (xRef w 9 (oT o + 0)) (xB (L_X1_begin_t0_x13 o  w) fun w1 => some w1)
set_option maxRecDepth 20000 in
theorem C_X9_fromNow {G : aG} {Hf : wS → aH} {bx : Nat} {o : wO} {w : wS} {r : wS} (hG : aGood G) (E : EX Hf bx o) (hL : L_X9_fromNow o  w = some r) : AC G M_X9_fromNow [.ref (bx + 0)] (Hf w) (.inl (some (.ref (bx + 30))), Hf r) := by
  unfold L_X9_fromNow at hL
  refine AC.of (by decide) rfl (Nat.le_of_ble_eq_true rfl) ?_
  show AG G M_X9_fromNow 0 [some (.ref (bx + 0))] [] _ _
  refine g_aload_n dX9_fromNow_0 rfl rfl ?_
  refine s_getR (k := 0) (j := 3) E.1 rfl rfl f_X9_29 dX9_fromNow_1 ?_
  refine g_aload_n dX9_fromNow_4 rfl rfl ?_
  refine s_getT (k := 0) (j := 9) E.1 hL rfl rfl f_X9_55 dX9_fromNow_5 ?_
  intro hL
  refine g_aload_n dX9_fromNow_8 rfl rfl ?_
  refine s_getR (k := 0) (j := 1) E.1 rfl rfl f_X9_19 dX9_fromNow_9 ?_
  refine s_getR (k := 12) (j := 0) E.1 rfl rfl f_X9_108 dX9_fromNow_12 ?_
  obtain ⟨w1, hc, hL⟩ := xB_some hL
  refine g_callV (M' := M_X1_begin) (as := [.ref (oT o + 0), .ref (bx + 13)]) (v := none) l_X9_369 kV_X1_begin (by decide) (C_X1_begin_t0_x13 hG E hc) rfl (by have := E.1.1; omega) (E.1.2.1 _ 30 _ rfl) ⟨_, _, rfl⟩ (Nat.le_of_ble_eq_true rfl) dX9_fromNow_15 ?_
  refine g_aload_n dX9_fromNow_18 rfl rfl ?_
  refine g_none 0 ?_
  refine s_getR (k := 0) (j := 3) E.1 rfl rfl f_X9_29 dX9_fromNow_19 ?_
  obtain rfl := Option.some.inj hL
  exact g_aret rfl (Or.inl ⟨_, rfl⟩) (Or.inr ⟨_, rfl⟩) dX9_fromNow_22
def L_X5_copyTo_x13_x16 (o : wO) (a2 : Int32) (w : wS) : Option (wS) :=
  xB (xCpy w 14 16 33 1320 (0) ((a2 * (33 : Int32))) (33)) fun w1 => some w1
set_option maxRecDepth 20000 in
theorem C_X5_copyTo_x13_x16 {G : aG} {Hf : wS → aH} {bx : Nat} {o : wO} {a2 : Int32} {w : wS} {r : wS} (hG : aGood G) (E : EX Hf bx o) (hL : L_X5_copyTo_x13_x16 o a2 w = some r) : AC G M_X5_copyTo [.ref (bx + 13), .ref (bx + 16), .int a2] (Hf w) (.inl none, Hf r) := by
  unfold L_X5_copyTo_x13_x16 at hL
  refine AC.of (by decide) rfl (Nat.le_of_ble_eq_true rfl) ?_
  show AG G M_X5_copyTo 0 [some (.ref (bx + 13)), some (.ref (bx + 16)), some (.int (a2))] [] _ _
  refine g_aload_n dX5_copyTo_0 rfl rfl ?_
  refine g_none 0 ?_
  refine s_getR (k := 13) (j := 0) E.1 rfl rfl f_X5_11 dX5_copyTo_1 ?_
  refine g_iconst (v := 0) dX5_copyTo_4 (by decide) ?_
  refine g_aload_n dX5_copyTo_5 rfl rfl ?_
  refine g_none 1 ?_
  refine g_iload_n dX5_copyTo_6 rfl rfl ?_
  refine g_none 2 ?_
  refine g_bipush (v := 33) dX5_copyTo_7 (by decide) ?_
  refine g_imul dX5_copyTo_9 ?_
  refine g_bipush (v := 33) dX5_copyTo_10 (by decide) ?_
  refine s_copy (k0 := 14) (k1 := 16) E.1 E.1 hL rfl rfl (aIn1 450 (by decide +kernel) rfl) ac_nat ac_sta ac_ini (by decide) (Nat.le_of_ble_eq_true rfl) dX5_copyTo_12 ?_
  intro w1 hL
  obtain rfl := Option.some.inj hL
  exact g_vret rfl dX5_copyTo_15
def J_X0_keep_x15_x13_32 (o : wO) (w : wS) : Option (wS) :=
  xB (xGet w 1501) fun v1 => xB (xGet w 1502) fun v2 => xB (xRem ((v1 + v2)) (40)) fun v3 => xB (L_X5_copyTo_x13_x16 o (v3) w) fun w4 => xB (xGet w4 1502) fun v5 => xB (xPut w4 1502 ((v5 + (1 : Int32)))) fun w6 => some w6
set_option maxRecDepth 20000 in
theorem J_X0_keep_x15_x13_32_ok {G : aG} {Hf : wS → aH} {bx : Nat} {o : wO} {w : wS} {r : wS} (hG : aGood G) (E : EX Hf bx o) (hL : J_X0_keep_x15_x13_32 o   w = some r) : AG G M_X0_keep 32 [some (.ref (bx + 15)), some (.ref (bx + 13))] [] (Hf w) (.inl none, Hf r) := by
  unfold J_X0_keep_x15_x13_32 at hL
  refine g_aload_n dX0_keep_32 rfl rfl ?_
  refine g_none 1 ?_
  refine g_aload_n dX0_keep_33 rfl rfl ?_
  refine s_getR (k := 15) (j := 0) E.1 rfl rfl f_X0_11 dX0_keep_34 ?_
  refine g_aload_n dX0_keep_37 rfl rfl ?_
  refine s_getI (k := 15) (j := 1) E.1 hL rfl rfl f_X0_17 dX0_keep_38 ?_
  intro v1 hL
  refine g_aload_n dX0_keep_41 rfl rfl ?_
  refine s_getI (k := 15) (j := 2) E.1 hL rfl rfl f_X0_21 dX0_keep_42 ?_
  intro v2 hL
  refine g_iadd dX0_keep_45 ?_
  refine g_bipush (v := 40) dX0_keep_46 (by decide) ?_
  refine s_irem hL dX0_keep_48 ?_
  intro v3 hL
  obtain ⟨w4, hc, hL⟩ := xB_some hL
  refine g_callV (M' := M_X5_copyTo) (as := [.ref (bx + 16), .int (v3)]) (v := none) l_X0_24 kV_X5_copyTo (by decide) (C_X5_copyTo_x13_x16 hG E hc) rfl (by have := E.1.1; omega) (E.1.2.1 _ 13 _ rfl) ⟨_, _, rfl⟩ (Nat.le_of_ble_eq_true rfl) dX0_keep_49 ?_
  refine g_aload_n dX0_keep_52 rfl rfl ?_
  refine g_none 0 ?_
  refine g_dup dX0_keep_53 rfl ?_
  refine s_getI (k := 15) (j := 2) E.1 hL rfl rfl f_X0_21 dX0_keep_54 ?_
  intro v5 hL
  refine g_iconst (v := 1) dX0_keep_57 (by decide) ?_
  refine g_iadd dX0_keep_58 ?_
  refine s_putI (k := 15) (j := 2) E.1 hL rfl rfl (by decide) fw_X0_21 rfl rfl dX0_keep_59 ?_
  intro w6 hL
  obtain rfl := Option.some.inj hL
  exact g_vret rfl dX0_keep_62
def L_X0_keep_x15_x13 (o : wO) (w : wS) : Option (wS) :=
  xB (xGet w 1502) fun v7 => if v7 = 40 then xB (xGet w 1501) fun v8 => xB (xRem ((v8 + (1 : Int32))) (40)) fun v9 => xB (xPut w 1501 (v9)) fun w10 => xB (xGet w10 1502) fun v11 => xB (xPut w10 1502 ((v11 - (1 : Int32)))) fun w12 => J_X0_keep_x15_x13_32 o   w12 else J_X0_keep_x15_x13_32 o   w
set_option maxRecDepth 20000 in
theorem C_X0_keep_x15_x13 {G : aG} {Hf : wS → aH} {bx : Nat} {o : wO} {w : wS} {r : wS} (hG : aGood G) (E : EX Hf bx o) (hL : L_X0_keep_x15_x13 o  w = some r) : AC G M_X0_keep [.ref (bx + 15), .ref (bx + 13)] (Hf w) (.inl none, Hf r) := by
  unfold L_X0_keep_x15_x13 at hL
  refine AC.of (by decide) rfl (Nat.le_of_ble_eq_true rfl) ?_
  show AG G M_X0_keep 0 [some (.ref (bx + 15)), some (.ref (bx + 13))] [] _ _
  refine g_aload_n dX0_keep_0 rfl rfl ?_
  refine s_getI (k := 15) (j := 2) E.1 hL rfl rfl f_X0_21 dX0_keep_1 ?_
  intro v7 hL
  refine g_bipush (v := 40) dX0_keep_4 (by decide) ?_
  refine g_icmp_ne (tgt := 32) dX0_keep_6 (by decide) (fun q13 => ?_) (fun q13 => ?_)
  · rw [if_neg q13] at hL
    exact J_X0_keep_x15_x13_32_ok hG E hL 
  · rw [if_pos q13] at hL
    refine g_aload_n dX0_keep_9 rfl rfl ?_
    refine g_aload_n dX0_keep_10 rfl rfl ?_
    refine s_getI (k := 15) (j := 1) E.1 hL rfl rfl f_X0_17 dX0_keep_11 ?_
    intro v8 hL
    refine g_iconst (v := 1) dX0_keep_14 (by decide) ?_
    refine g_iadd dX0_keep_15 ?_
    refine g_bipush (v := 40) dX0_keep_16 (by decide) ?_
    refine s_irem hL dX0_keep_18 ?_
    intro v9 hL
    refine s_putI (k := 15) (j := 1) E.1 hL rfl rfl (by decide) fw_X0_17 rfl rfl dX0_keep_19 ?_
    intro w10 hL
    refine g_aload_n dX0_keep_22 rfl rfl ?_
    refine g_dup dX0_keep_23 rfl ?_
    refine s_getI (k := 15) (j := 2) E.1 hL rfl rfl f_X0_21 dX0_keep_24 ?_
    intro v11 hL
    refine g_iconst (v := 1) dX0_keep_27 (by decide) ?_
    refine g_isub dX0_keep_28 ?_
    refine s_putI (k := 15) (j := 2) E.1 hL rfl rfl (by decide) fw_X0_21 rfl rfl dX0_keep_29 ?_
    intro w12 hL
    exact J_X0_keep_x15_x13_32_ok hG E hL 
def J_X1_rangToday_17 (o : wO) (y0 : Int32) (w : wS) : Option (Int32 × wS) :=
  xB (xBool (y0)) fun v1 => some (v1, w)
set_option maxRecDepth 20000 in
theorem J_X1_rangToday_17_ok {G : aG} {Hf : wS → aH} {bx : Nat} {o : wO} {y0 : Int32} {w : wS} {r : Int32 × wS} (hG : aGood G) (E : EX Hf bx o) (hL : J_X1_rangToday_17 o  y0 w = some r) : AG G M_X1_rangToday 17 [none, none] [.int (y0)] (Hf w) (.inl (some (.int r.1)), Hf r.2) := by
  unfold J_X1_rangToday_17 at hL
  obtain ⟨v1, hb, hR⟩ := xB_some hL
  obtain ⟨hz, hb2⟩ := xBool_some hb
  clear hL
  subst hz
  obtain rfl := Option.some.inj hR
  exact g_zret rfl (narrow_bool hb2) dX1_rangToday_17
def L_X1_rangToday (o : wO) (a1 : Int32) (w : wS) : Option (Int32 × wS) :=
  xB (xGet w 3011) fun v2 => if ((v2 >>> (a1 &&& 31)) &&& (1 : Int32)) = 1 then J_X1_rangToday_17 o  (1) w else J_X1_rangToday_17 o  (0) w
set_option maxRecDepth 20000 in
theorem C_X1_rangToday {G : aG} {Hf : wS → aH} {bx : Nat} {o : wO} {a1 : Int32} {w : wS} {r : Int32 × wS} (hG : aGood G) (E : EX Hf bx o) (hL : L_X1_rangToday o a1 w = some r) : AC G M_X1_rangToday [.ref (bx + 30), .int a1] (Hf w) (.inl (some (.int r.1)), Hf r.2) := by
  unfold L_X1_rangToday at hL
  refine AC.of (by decide) rfl (Nat.le_of_ble_eq_true rfl) ?_
  show AG G M_X1_rangToday 0 [some (.ref (bx + 30)), some (.int (a1))] [] _ _
  refine g_aload_n dX1_rangToday_0 rfl rfl ?_
  refine g_none 0 ?_
  refine s_getI (k := 30) (j := 11) E.1 hL rfl rfl f_X1_56 dX1_rangToday_1 ?_
  intro v2 hL
  refine g_iload_n dX1_rangToday_4 rfl rfl ?_
  refine g_none 1 ?_
  refine g_ishr dX1_rangToday_5 ?_
  refine g_iconst (v := 1) dX1_rangToday_6 (by decide) ?_
  refine g_iand dX1_rangToday_7 ?_
  refine g_iconst (v := 1) dX1_rangToday_8 (by decide) ?_
  refine g_icmp_ne (tgt := 16) dX1_rangToday_9 (by decide) (fun q3 => ?_) (fun q3 => ?_)
  · rw [if_neg q3] at hL
    refine g_iconst (v := 0) dX1_rangToday_16 (by decide) ?_
    exact J_X1_rangToday_17_ok hG E hL 
  · rw [if_pos q3] at hL
    refine g_iconst (v := 1) dX1_rangToday_12 (by decide) ?_
    refine g_goto (tgt := 17) dX1_rangToday_13 (by decide) ?_
    exact J_X1_rangToday_17_ok hG E hL 
def L_X5_hasteOf_x31 (o : wO) (a1 : Int32) (w : wS) : Option (Int32 × wS) :=
  xB (xAld w 32 33 (((1 : Int32) + a1))) fun v1 => some (v1, w)
set_option maxRecDepth 20000 in
theorem C_X5_hasteOf_x31 {G : aG} {Hf : wS → aH} {bx : Nat} {o : wO} {a1 : Int32} {w : wS} {r : Int32 × wS} (hG : aGood G) (E : EX Hf bx o) (hL : L_X5_hasteOf_x31 o a1 w = some r) : AC G M_X5_hasteOf [.ref (bx + 31), .int a1] (Hf w) (.inl (some (.int r.1)), Hf r.2) := by
  unfold L_X5_hasteOf_x31 at hL
  refine AC.of (by decide) rfl (Nat.le_of_ble_eq_true rfl) ?_
  show AG G M_X5_hasteOf 0 [some (.ref (bx + 31)), some (.int (a1))] [] _ _
  refine g_aload_n dX5_hasteOf_0 rfl rfl ?_
  refine g_none 0 ?_
  refine s_getR (k := 31) (j := 0) E.1 rfl rfl f_X5_11 dX5_hasteOf_1 ?_
  refine g_iconst (v := 1) dX5_hasteOf_4 (by decide) ?_
  refine g_iload_n dX5_hasteOf_5 rfl rfl ?_
  refine g_none 1 ?_
  refine g_iadd dX5_hasteOf_6 ?_
  refine s_iald (k := 32) E.1 hL rfl dX5_hasteOf_7 ?_
  intro v1 hL
  obtain rfl := Option.some.inj hL
  exact g_iret rfl dX5_hasteOf_8
def L_X5_setHaste_x31 (o : wO) (a1 : Int32) (a2 : Int32) (w : wS) : Option (wS) :=
  xB (xAst w 32 33 (((1 : Int32) + a1)) (a2)) fun w1 => some w1
set_option maxRecDepth 20000 in
theorem C_X5_setHaste_x31 {G : aG} {Hf : wS → aH} {bx : Nat} {o : wO} {a1 : Int32} {a2 : Int32} {w : wS} {r : wS} (hG : aGood G) (E : EX Hf bx o) (hL : L_X5_setHaste_x31 o a1 a2 w = some r) : AC G M_X5_setHaste [.ref (bx + 31), .int a1, .int a2] (Hf w) (.inl none, Hf r) := by
  unfold L_X5_setHaste_x31 at hL
  refine AC.of (by decide) rfl (Nat.le_of_ble_eq_true rfl) ?_
  show AG G M_X5_setHaste 0 [some (.ref (bx + 31)), some (.int (a1)), some (.int (a2))] [] _ _
  refine g_aload_n dX5_setHaste_0 rfl rfl ?_
  refine g_none 0 ?_
  refine s_getR (k := 31) (j := 0) E.1 rfl rfl f_X5_11 dX5_setHaste_1 ?_
  refine g_iconst (v := 1) dX5_setHaste_4 (by decide) ?_
  refine g_iload_n dX5_setHaste_5 rfl rfl ?_
  refine g_none 1 ?_
  refine g_iadd dX5_setHaste_6 ?_
  refine g_iload_n dX5_setHaste_7 rfl rfl ?_
  refine g_none 2 ?_
  refine s_iast (k := 32) E.1 hL rfl dX5_setHaste_8 ?_
  intro w1 hL
  obtain rfl := Option.some.inj hL
  exact g_vret rfl dX5_setHaste_9
def L_X5_dueOf_x31 (o : wO) (a1 : Int32) (w : wS) : Option (Int32 × wS) :=
  xB (xAld w 32 33 (((25 : Int32) + a1))) fun v1 => some (v1, w)
set_option maxRecDepth 20000 in
theorem C_X5_dueOf_x31 {G : aG} {Hf : wS → aH} {bx : Nat} {o : wO} {a1 : Int32} {w : wS} {r : Int32 × wS} (hG : aGood G) (E : EX Hf bx o) (hL : L_X5_dueOf_x31 o a1 w = some r) : AC G M_X5_dueOf [.ref (bx + 31), .int a1] (Hf w) (.inl (some (.int r.1)), Hf r.2) := by
  unfold L_X5_dueOf_x31 at hL
  refine AC.of (by decide) rfl (Nat.le_of_ble_eq_true rfl) ?_
  show AG G M_X5_dueOf 0 [some (.ref (bx + 31)), some (.int (a1))] [] _ _
  refine g_aload_n dX5_dueOf_0 rfl rfl ?_
  refine g_none 0 ?_
  refine s_getR (k := 31) (j := 0) E.1 rfl rfl f_X5_11 dX5_dueOf_1 ?_
  refine g_bipush (v := 25) dX5_dueOf_4 (by decide) ?_
  refine g_iload_n dX5_dueOf_6 rfl rfl ?_
  refine g_none 1 ?_
  refine g_iadd dX5_dueOf_7 ?_
  refine s_iald (k := 32) E.1 hL rfl dX5_dueOf_8 ?_
  intro v1 hL
  obtain rfl := Option.some.inj hL
  exact g_iret rfl dX5_dueOf_9
def L_X5_setLate_x31 (o : wO) (a1 : Int32) (a2 : Int32) (w : wS) : Option (wS) :=
  xB (xAst w 32 33 (((9 : Int32) + a1)) (a2)) fun w1 => some w1
set_option maxRecDepth 20000 in
theorem C_X5_setLate_x31 {G : aG} {Hf : wS → aH} {bx : Nat} {o : wO} {a1 : Int32} {a2 : Int32} {w : wS} {r : wS} (hG : aGood G) (E : EX Hf bx o) (hL : L_X5_setLate_x31 o a1 a2 w = some r) : AC G M_X5_setLate [.ref (bx + 31), .int a1, .int a2] (Hf w) (.inl none, Hf r) := by
  unfold L_X5_setLate_x31 at hL
  refine AC.of (by decide) rfl (Nat.le_of_ble_eq_true rfl) ?_
  show AG G M_X5_setLate 0 [some (.ref (bx + 31)), some (.int (a1)), some (.int (a2))] [] _ _
  refine g_aload_n dX5_setLate_0 rfl rfl ?_
  refine g_none 0 ?_
  refine s_getR (k := 31) (j := 0) E.1 rfl rfl f_X5_11 dX5_setLate_1 ?_
  refine g_bipush (v := 9) dX5_setLate_4 (by decide) ?_
  refine g_iload_n dX5_setLate_6 rfl rfl ?_
  refine g_none 1 ?_
  refine g_iadd dX5_setLate_7 ?_
  refine g_iload_n dX5_setLate_8 rfl rfl ?_
  refine g_none 2 ?_
  refine s_iast (k := 32) E.1 hL rfl dX5_setLate_9 ?_
  intro w1 hL
  obtain rfl := Option.some.inj hL
  exact g_vret rfl dX5_setLate_10
def J_X5_isIll_x31_20 (o : wO) (y0 : Int32) (w : wS) : Option (Int32 × wS) :=
  xB (xBool (y0)) fun v1 => some (v1, w)
set_option maxRecDepth 20000 in
theorem J_X5_isIll_x31_20_ok {G : aG} {Hf : wS → aH} {bx : Nat} {o : wO} {y0 : Int32} {w : wS} {r : Int32 × wS} (hG : aGood G) (E : EX Hf bx o) (hL : J_X5_isIll_x31_20 o  y0 w = some r) : AG G M_X5_isIll 20 [none, none] [.int (y0)] (Hf w) (.inl (some (.int r.1)), Hf r.2) := by
  unfold J_X5_isIll_x31_20 at hL
  obtain ⟨v1, hb, hR⟩ := xB_some hL
  obtain ⟨hz, hb2⟩ := xBool_some hb
  clear hL
  subst hz
  obtain rfl := Option.some.inj hR
  exact g_zret rfl (narrow_bool hb2) dX5_isIll_20
def L_X5_isIll_x31 (o : wO) (a1 : Int32) (w : wS) : Option (Int32 × wS) :=
  xB (xAld w 32 33 (32)) fun v2 => if ((v2 >>> (a1 &&& 31)) &&& (1 : Int32)) = 1 then J_X5_isIll_x31_20 o  (1) w else J_X5_isIll_x31_20 o  (0) w
set_option maxRecDepth 20000 in
theorem C_X5_isIll_x31 {G : aG} {Hf : wS → aH} {bx : Nat} {o : wO} {a1 : Int32} {w : wS} {r : Int32 × wS} (hG : aGood G) (E : EX Hf bx o) (hL : L_X5_isIll_x31 o a1 w = some r) : AC G M_X5_isIll [.ref (bx + 31), .int a1] (Hf w) (.inl (some (.int r.1)), Hf r.2) := by
  unfold L_X5_isIll_x31 at hL
  refine AC.of (by decide) rfl (Nat.le_of_ble_eq_true rfl) ?_
  show AG G M_X5_isIll 0 [some (.ref (bx + 31)), some (.int (a1))] [] _ _
  refine g_aload_n dX5_isIll_0 rfl rfl ?_
  refine g_none 0 ?_
  refine s_getR (k := 31) (j := 0) E.1 rfl rfl f_X5_11 dX5_isIll_1 ?_
  refine g_bipush (v := 32) dX5_isIll_4 (by decide) ?_
  refine s_iald (k := 32) E.1 hL rfl dX5_isIll_6 ?_
  intro v2 hL
  refine g_iload_n dX5_isIll_7 rfl rfl ?_
  refine g_none 1 ?_
  refine g_ishr dX5_isIll_8 ?_
  refine g_iconst (v := 1) dX5_isIll_9 (by decide) ?_
  refine g_iand dX5_isIll_10 ?_
  refine g_iconst (v := 1) dX5_isIll_11 (by decide) ?_
  refine g_icmp_ne (tgt := 19) dX5_isIll_12 (by decide) (fun q3 => ?_) (fun q3 => ?_)
  · rw [if_neg q3] at hL
    refine g_iconst (v := 0) dX5_isIll_19 (by decide) ?_
    exact J_X5_isIll_x31_20_ok hG E hL 
  · rw [if_pos q3] at hL
    refine g_iconst (v := 1) dX5_isIll_15 (by decide) ?_
    refine g_goto (tgt := 20) dX5_isIll_16 (by decide) ?_
    exact J_X5_isIll_x31_20_ok hG E hL 
