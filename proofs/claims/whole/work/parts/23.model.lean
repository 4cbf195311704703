def L_X10_farOf (a1 : Int32) (a2 : Int32) (w : wS) : Option (Int32 × wS) :=
  xB (xAld w 3 8 (a1)) fun v1 => xB (xAld w 4 6 (a2)) fun v2 => xB (L_X10_off (v1) (v2)) fun v3 => some (v3, w)
set_option maxRecDepth 20000 in
theorem C_X10_farOf {G : aG} {Hf : wS → aH} {b : Nat} {a1 : Int32} {a2 : Int32} {w : wS} {r : Int32 × wS} (E : Emb Hf b 0 tbM) (hL : L_X10_farOf a1 a2 w = some r) : AC G M_X10_farOf [.ref (b + 0), .int a1, .int a2] (Hf w) (.inl (some (.int r.1)), Hf r.2) := by
  unfold L_X10_farOf at hL
  refine AC.of (by decide) rfl (Nat.le_of_ble_eq_true rfl) ?_
  show AG G M_X10_farOf 0 [some (.ref (b + 0)), some (.int (a1)), some (.int (a2))] [] _ _
  refine g_aload_n dX10_farOf_0 rfl rfl ?_
  refine s_getR (j := 8) E rfl rfl f_X10_26 dX10_farOf_1 ?_
  refine g_iload_n dX10_farOf_4 rfl rfl ?_
  refine g_none 1 ?_
  refine s_iald (k := 3) E hL rfl dX10_farOf_5 ?_
  intro v1 hL
  refine g_aload_n dX10_farOf_6 rfl rfl ?_
  refine g_none 0 ?_
  refine s_getR (j := 9) E rfl rfl f_X10_29 dX10_farOf_7 ?_
  refine g_iload_n dX10_farOf_10 rfl rfl ?_
  refine g_none 2 ?_
  refine s_iald (k := 4) E hL rfl dX10_farOf_11 ?_
  intro v2 hL
  obtain ⟨v3, hc, hL⟩ := xB_some hL
  refine g_callS (M' := M_X10_off) (as := [.int (v1), .int (v2)]) (v := some (.int (v3))) l_X10_302 kS_X10_off (by decide) (C_X10_off hc) rfl (Nat.le_of_ble_eq_true rfl) dX10_farOf_12 ?_
  obtain rfl := Option.some.inj hL
  exact g_iret rfl dX10_farOf_15
def L_X10_asks (a1 : Int32) (a2 : Int32) (a3 : Int32) (a4 : Int32) (w : wS) : Option (Int32 × wS) :=
  xB (xAld w 16 66 (((a2 + 11) + a3))) fun v1 => xB (xAst w 18 7 (0) (v1)) fun w2 => xB (xAld w2 2 8 (a3)) fun v3 => xB (xAst w2 18 7 (1) (v3)) fun w4 => xB (xAld w4 16 66 (((a2 + 3) + a3))) fun v5 => xB (xAst w4 18 7 (2) (v5)) fun w6 => xB (xAld w6 16 66 (((a2 + 19) + a3))) fun v7 => xB (xAst w6 18 7 (3) (v7)) fun w8 => xB (xAst w8 18 7 (4) (a4)) fun w9 => xB (xAld w9 16 66 ((a2 + 0))) fun v10 => xB (xAst w9 18 7 (5) (v10)) fun w11 => xB2 (L_X10_farOf (a3) (a4) w11) fun v12 w13 => xB (xAst w13 18 7 (6) (v12)) fun w14 => xB2 (L_X10_reckons (a1) w14) fun v15 w16 => some (v15, w16)
set_option maxRecDepth 20000 in
theorem C_X10_asks {G : aG} {Hf : wS → aH} {b : Nat} {a1 : Int32} {a2 : Int32} {a3 : Int32} {a4 : Int32} {w : wS} {r : Int32 × wS} (E : Emb Hf b 0 tbM) (hL : L_X10_asks a1 a2 a3 a4 w = some r) : AC G M_X10_asks [.ref (b + 0), .int a1, .int a2, .int a3, .int a4] (Hf w) (.inl (some (.int r.1)), Hf r.2) := by
  unfold L_X10_asks at hL
  refine AC.of (by decide) rfl (Nat.le_of_ble_eq_true rfl) ?_
  show AG G M_X10_asks 0 [some (.ref (b + 0)), some (.int (a1)), some (.int (a2)), some (.int (a3)), some (.int (a4))] [] _ _
  refine g_aload_n dX10_asks_0 rfl rfl ?_
  refine s_getR (j := 44) E rfl rfl f_X10_75 dX10_asks_1 ?_
  refine g_iconst (v := 0) dX10_asks_4 (by decide) ?_
  refine g_aload_n dX10_asks_5 rfl rfl ?_
  refine s_getR (j := 41) E rfl rfl f_X10_69 dX10_asks_6 ?_
  refine g_iload_n dX10_asks_9 rfl rfl ?_
  refine g_bipush (v := 11) dX10_asks_10 (by decide) ?_
  refine g_iadd dX10_asks_12 ?_
  refine g_iload_n dX10_asks_13 rfl rfl ?_
  refine g_iadd dX10_asks_14 ?_
  refine s_iald (k := 16) E hL rfl dX10_asks_15 ?_
  intro v1 hL
  refine s_iast (k := 18) E hL rfl dX10_asks_16 ?_
  intro w2 hL
  refine g_aload_n dX10_asks_17 rfl rfl ?_
  refine s_getR (j := 44) E rfl rfl f_X10_75 dX10_asks_18 ?_
  refine g_iconst (v := 1) dX10_asks_21 (by decide) ?_
  refine g_aload_n dX10_asks_22 rfl rfl ?_
  refine s_getR (j := 7) E rfl rfl f_X10_23 dX10_asks_23 ?_
  refine g_iload_n dX10_asks_26 rfl rfl ?_
  refine s_iald (k := 2) E hL rfl dX10_asks_27 ?_
  intro v3 hL
  refine s_iast (k := 18) E hL rfl dX10_asks_28 ?_
  intro w4 hL
  refine g_aload_n dX10_asks_29 rfl rfl ?_
  refine s_getR (j := 44) E rfl rfl f_X10_75 dX10_asks_30 ?_
  refine g_iconst (v := 2) dX10_asks_33 (by decide) ?_
  refine g_aload_n dX10_asks_34 rfl rfl ?_
  refine s_getR (j := 41) E rfl rfl f_X10_69 dX10_asks_35 ?_
  refine g_iload_n dX10_asks_38 rfl rfl ?_
  refine g_iconst (v := 3) dX10_asks_39 (by decide) ?_
  refine g_iadd dX10_asks_40 ?_
  refine g_iload_n dX10_asks_41 rfl rfl ?_
  refine g_iadd dX10_asks_42 ?_
  refine s_iald (k := 16) E hL rfl dX10_asks_43 ?_
  intro v5 hL
  refine s_iast (k := 18) E hL rfl dX10_asks_44 ?_
  intro w6 hL
  refine g_aload_n dX10_asks_45 rfl rfl ?_
  refine s_getR (j := 44) E rfl rfl f_X10_75 dX10_asks_46 ?_
  refine g_iconst (v := 3) dX10_asks_49 (by decide) ?_
  refine g_aload_n dX10_asks_50 rfl rfl ?_
  refine s_getR (j := 41) E rfl rfl f_X10_69 dX10_asks_51 ?_
  refine g_iload_n dX10_asks_54 rfl rfl ?_
  refine g_bipush (v := 19) dX10_asks_55 (by decide) ?_
  refine g_iadd dX10_asks_57 ?_
  refine g_iload_n dX10_asks_58 rfl rfl ?_
  refine g_iadd dX10_asks_59 ?_
  refine s_iald (k := 16) E hL rfl dX10_asks_60 ?_
  intro v7 hL
  refine s_iast (k := 18) E hL rfl dX10_asks_61 ?_
  intro w8 hL
  refine g_aload_n dX10_asks_62 rfl rfl ?_
  refine s_getR (j := 44) E rfl rfl f_X10_75 dX10_asks_63 ?_
  refine g_iconst (v := 4) dX10_asks_66 (by decide) ?_
  refine g_iload dX10_asks_67 rfl ?_
  refine s_iast (k := 18) E hL rfl dX10_asks_69 ?_
  intro w9 hL
  refine g_aload_n dX10_asks_70 rfl rfl ?_
  refine s_getR (j := 44) E rfl rfl f_X10_75 dX10_asks_71 ?_
  refine g_iconst (v := 5) dX10_asks_74 (by decide) ?_
  refine g_aload_n dX10_asks_75 rfl rfl ?_
  refine s_getR (j := 41) E rfl rfl f_X10_69 dX10_asks_76 ?_
  refine g_iload_n dX10_asks_79 rfl rfl ?_
  refine g_none 2 ?_
  refine g_iconst (v := 0) dX10_asks_80 (by decide) ?_
  refine g_iadd dX10_asks_81 ?_
  refine s_iald (k := 16) E hL rfl dX10_asks_82 ?_
  intro v10 hL
  refine s_iast (k := 18) E hL rfl dX10_asks_83 ?_
  intro w11 hL
  refine g_aload_n dX10_asks_84 rfl rfl ?_
  refine s_getR (j := 44) E rfl rfl f_X10_75 dX10_asks_85 ?_
  refine g_bipush (v := 6) dX10_asks_88 (by decide) ?_
  refine g_aload_n dX10_asks_90 rfl rfl ?_
  refine g_iload_n dX10_asks_91 rfl rfl ?_
  refine g_none 3 ?_
  refine g_iload dX10_asks_92 rfl ?_
  refine g_none 4 ?_
  obtain ⟨v12, w13, hc, hL⟩ := xB2_some hL
  refine g_callV (M' := M_X10_farOf) (as := [.int (a3), .int (a4)]) (v := some (.int (v12))) l_X10_305 kV_X10_farOf (by decide) (C_X10_farOf E hc) rfl (by have := E.1; omega) (E.2.1 _ 0 _ rfl) ⟨_, _, rfl⟩ (Nat.le_of_ble_eq_true rfl) dX10_asks_94 ?_
  refine s_iast (k := 18) E hL rfl dX10_asks_97 ?_
  intro w14 hL
  refine g_aload_n dX10_asks_98 rfl rfl ?_
  refine g_none 0 ?_
  refine g_iload_n dX10_asks_99 rfl rfl ?_
  refine g_none 1 ?_
  obtain ⟨v15, w16, hc, hL⟩ := xB2_some hL
  refine g_callV (M' := M_X10_reckons) (as := [.int (a1)]) (v := some (.int (v15))) l_X10_308 kV_X10_reckons (by decide) (C_X10_reckons E hc) rfl (by have := E.1; omega) (E.2.1 _ 0 _ rfl) ⟨_, _, rfl⟩ (Nat.le_of_ble_eq_true rfl) dX10_asks_100 ?_
  obtain rfl := Option.some.inj hL
  exact g_iret rfl dX10_asks_103
def L_X10_wayOf (a1 : Int32) (a2 : Int32) (a3 : Int32) (w : wS) : Option (Int32 × wS) :=
  xB (xGet w 3) fun v1 => xB2 (L_X10_farOf (a2) (a3) w) fun v2 w3 => xB (xAld w3 2 8 (a2)) fun v4 => xB (xAld w3 16 66 (((a1 + 3) + a2))) fun v5 => xB (L_X10_bounded ((((v1 * v2) + v4) - v5)) (0) (99999)) fun v6 => some (v6, w3)
set_option maxRecDepth 20000 in
theorem C_X10_wayOf {G : aG} {Hf : wS → aH} {b : Nat} {a1 : Int32} {a2 : Int32} {a3 : Int32} {w : wS} {r : Int32 × wS} (E : Emb Hf b 0 tbM) (hL : L_X10_wayOf a1 a2 a3 w = some r) : AC G M_X10_wayOf [.ref (b + 0), .int a1, .int a2, .int a3] (Hf w) (.inl (some (.int r.1)), Hf r.2) := by
  unfold L_X10_wayOf at hL
  refine AC.of (by decide) rfl (Nat.le_of_ble_eq_true rfl) ?_
  show AG G M_X10_wayOf 0 [some (.ref (b + 0)), some (.int (a1)), some (.int (a2)), some (.int (a3))] [] _ _
  refine g_aload_n dX10_wayOf_0 rfl rfl ?_
  refine s_getI (k := 0) (j := 3) E hL rfl rfl f_X10_7 dX10_wayOf_1 ?_
  intro v1 hL
  refine g_aload_n dX10_wayOf_4 rfl rfl ?_
  refine g_iload_n dX10_wayOf_5 rfl rfl ?_
  refine g_iload_n dX10_wayOf_6 rfl rfl ?_
  refine g_none 3 ?_
  obtain ⟨v2, w3, hc, hL⟩ := xB2_some hL
  refine g_callV (M' := M_X10_farOf) (as := [.int (a2), .int (a3)]) (v := some (.int (v2))) l_X10_305 kV_X10_farOf (by decide) (C_X10_farOf E hc) rfl (by have := E.1; omega) (E.2.1 _ 0 _ rfl) ⟨_, _, rfl⟩ (Nat.le_of_ble_eq_true rfl) dX10_wayOf_7 ?_
  refine g_imul dX10_wayOf_10 ?_
  refine g_aload_n dX10_wayOf_11 rfl rfl ?_
  refine s_getR (j := 7) E rfl rfl f_X10_23 dX10_wayOf_12 ?_
  refine g_iload_n dX10_wayOf_15 rfl rfl ?_
  refine s_iald (k := 2) E hL rfl dX10_wayOf_16 ?_
  intro v4 hL
  refine g_iadd dX10_wayOf_17 ?_
  refine g_aload_n dX10_wayOf_18 rfl rfl ?_
  refine g_none 0 ?_
  refine s_getR (j := 41) E rfl rfl f_X10_69 dX10_wayOf_19 ?_
  refine g_iload_n dX10_wayOf_22 rfl rfl ?_
  refine g_none 1 ?_
  refine g_iconst (v := 3) dX10_wayOf_23 (by decide) ?_
  refine g_iadd dX10_wayOf_24 ?_
  refine g_iload_n dX10_wayOf_25 rfl rfl ?_
  refine g_none 2 ?_
  refine g_iadd dX10_wayOf_26 ?_
  refine s_iald (k := 16) E hL rfl dX10_wayOf_27 ?_
  intro v5 hL
  refine g_isub dX10_wayOf_28 ?_
  refine g_iconst (v := 0) dX10_wayOf_29 (by decide) ?_
  refine g_ldcw (v := 99999) dX10_wayOf_30 n_X10_311 ?_
  obtain ⟨v6, hc, hL⟩ := xB_some hL
  refine g_callS (M' := M_X10_bounded) (as := [.int ((((v1 * v2) + v4) - v5)), .int (0), .int (99999)]) (v := some (.int (v6))) l_X10_312 kS_X10_bounded (by decide) (C_X10_bounded hc) rfl (Nat.le_of_ble_eq_true rfl) dX10_wayOf_33 ?_
  obtain rfl := Option.some.inj hL
  exact g_iret rfl dX10_wayOf_36
def J_X10_doesCome_30 (y0 : Int32) (w : wS) : Option (Int32 × wS) :=
  xB (xBool (y0)) fun v1 => some (v1, w)
set_option maxRecDepth 20000 in
theorem J_X10_doesCome_30_ok {G : aG} {Hf : wS → aH} {b : Nat} {y0 : Int32} {w : wS} {r : Int32 × wS} (E : Emb Hf b 0 tbM) (hL : J_X10_doesCome_30  y0 w = some r) : AG G M_X10_doesCome 30 [none, none, none] [.int (y0)] (Hf w) (.inl (some (.int r.1)), Hf r.2) := by
  unfold J_X10_doesCome_30 at hL
  obtain ⟨v1, hb, hR⟩ := xB_some hL
  obtain ⟨hz, hb2⟩ := xBool_some hb
  clear hL
  subst hz
  obtain rfl := Option.some.inj hR
  exact g_zret rfl (narrow_bool hb2) dX10_doesCome_30
def J_X10_doesCome_29 (w : wS) : Option (Int32 × wS) :=
  J_X10_doesCome_30  (0) w
set_option maxRecDepth 20000 in
theorem J_X10_doesCome_29_ok {G : aG} {Hf : wS → aH} {b : Nat} {w : wS} {r : Int32 × wS} (E : Emb Hf b 0 tbM) (hL : J_X10_doesCome_29   w = some r) : AG G M_X10_doesCome 29 [none, none, none] [] (Hf w) (.inl (some (.int r.1)), Hf r.2) := by
  unfold J_X10_doesCome_29 at hL
  refine g_iconst (v := 0) dX10_doesCome_29 (by decide) ?_
  exact J_X10_doesCome_30_ok E hL 
def L_X10_doesCome (a1 : Int32) (a2 : Int32) (w : wS) : Option (Int32 × wS) :=
  xB (xAld w 1 8 (a2)) fun v2 => if v2 = 2 then J_X10_doesCome_29   w else xB (xAld w 16 66 ((a1 + 2))) fun v3 => if ((v3 >>> (a2 &&& 31)) &&& 1) = 0 then J_X10_doesCome_30  (1) w else J_X10_doesCome_29   w
set_option maxRecDepth 20000 in
theorem C_X10_doesCome {G : aG} {Hf : wS → aH} {b : Nat} {a1 : Int32} {a2 : Int32} {w : wS} {r : Int32 × wS} (E : Emb Hf b 0 tbM) (hL : L_X10_doesCome a1 a2 w = some r) : AC G M_X10_doesCome [.ref (b + 0), .int a1, .int a2] (Hf w) (.inl (some (.int r.1)), Hf r.2) := by
  unfold L_X10_doesCome at hL
  refine AC.of (by decide) rfl (Nat.le_of_ble_eq_true rfl) ?_
  show AG G M_X10_doesCome 0 [some (.ref (b + 0)), some (.int (a1)), some (.int (a2))] [] _ _
  refine g_aload_n dX10_doesCome_0 rfl rfl ?_
  refine s_getR (j := 6) E rfl rfl f_X10_19 dX10_doesCome_1 ?_
  refine g_iload_n dX10_doesCome_4 rfl rfl ?_
  refine s_iald (k := 1) E hL rfl dX10_doesCome_5 ?_
  intro v2 hL
  refine g_iconst (v := 2) dX10_doesCome_6 (by decide) ?_
  refine g_icmp_eq (tgt := 29) dX10_doesCome_7 (by decide) (fun q5 => ?_) (fun q5 => ?_)
  · rw [if_pos q5] at hL
    refine g_none 0 ?_
    refine g_none 1 ?_
    refine g_none 2 ?_
    exact J_X10_doesCome_29_ok E hL 
  · rw [if_neg q5] at hL
    refine g_aload_n dX10_doesCome_10 rfl rfl ?_
    refine g_none 0 ?_
    refine s_getR (j := 41) E rfl rfl f_X10_69 dX10_doesCome_11 ?_
    refine g_iload_n dX10_doesCome_14 rfl rfl ?_
    refine g_none 1 ?_
    refine g_iconst (v := 2) dX10_doesCome_15 (by decide) ?_
    refine g_iadd dX10_doesCome_16 ?_
    refine s_iald (k := 16) E hL rfl dX10_doesCome_17 ?_
    intro v3 hL
    refine g_iload_n dX10_doesCome_18 rfl rfl ?_
    refine g_none 2 ?_
    refine g_ishr dX10_doesCome_19 ?_
    refine g_iconst (v := 1) dX10_doesCome_20 (by decide) ?_
    refine g_iand dX10_doesCome_21 ?_
    refine g_if_ne (tgt := 29) dX10_doesCome_22 (by decide) (fun q4 => ?_) (fun q4 => ?_)
    · rw [if_neg q4] at hL
      exact J_X10_doesCome_29_ok E hL 
    · rw [if_pos q4] at hL
      refine g_iconst (v := 1) dX10_doesCome_25 (by decide) ?_
      refine g_goto (tgt := 30) dX10_doesCome_26 (by decide) ?_
      exact J_X10_doesCome_30_ok E hL 
def J_X10_comesAt_78 (y0 : Int32) (y1 : Int32) (w : wS) : Option (Int32 × wS) :=
  some ((y0 + y1), w)
set_option maxRecDepth 20000 in
theorem J_X10_comesAt_78_ok {G : aG} {Hf : wS → aH} {b : Nat} {y0 : Int32} {y1 : Int32} {w : wS} {r : Int32 × wS} (E : Emb Hf b 0 tbM) (hL : J_X10_comesAt_78  y0 y1 w = some r) : AG G M_X10_comesAt 78 [none, none, none, none, none, none] [.int (y1), .int (y0)] (Hf w) (.inl (some (.int r.1)), Hf r.2) := by
  unfold J_X10_comesAt_78 at hL
  refine g_iadd dX10_comesAt_78 ?_
  obtain rfl := Option.some.inj hL
  exact g_iret rfl dX10_comesAt_79
def J_X10_comesAt_77 (y0 : Int32) (w : wS) : Option (Int32 × wS) :=
  J_X10_comesAt_78  (y0) (0) w
set_option maxRecDepth 20000 in
theorem J_X10_comesAt_77_ok {G : aG} {Hf : wS → aH} {b : Nat} {y0 : Int32} {w : wS} {r : Int32 × wS} (E : Emb Hf b 0 tbM) (hL : J_X10_comesAt_77  y0 w = some r) : AG G M_X10_comesAt 77 [none, none, none, none, none, none] [.int (y0)] (Hf w) (.inl (some (.int r.1)), Hf r.2) := by
  unfold J_X10_comesAt_77 at hL
  refine g_iconst (v := 0) dX10_comesAt_77 (by decide) ?_
  exact J_X10_comesAt_78_ok E hL 
def J_X10_comesAt_45 (x2 : Int32) (x3 : Int32) (y0 : Int32) (w : wS) : Option (Int32 × wS) :=
  xB (xGet w 52) fun v1 => xB (xGet w 53) fun v2 => if x2 = v2 then xB (xGet w 54) fun v3 => if x3 = v3 then xB (xGet w 55) fun v4 => J_X10_comesAt_78  ((y0 + v1)) (v4) w else J_X10_comesAt_77  ((y0 + v1)) w else J_X10_comesAt_77  ((y0 + v1)) w
set_option maxRecDepth 20000 in
theorem J_X10_comesAt_45_ok {G : aG} {Hf : wS → aH} {b : Nat} {x2 : Int32} {x3 : Int32} {y0 : Int32} {w : wS} {r : Int32 × wS} (E : Emb Hf b 0 tbM) (hL : J_X10_comesAt_45  x2 x3 y0 w = some r) : AG G M_X10_comesAt 45 [some (.ref (b + 0)), none, some (.int (x2)), some (.int (x3)), none, none] [.int (y0)] (Hf w) (.inl (some (.int r.1)), Hf r.2) := by
  unfold J_X10_comesAt_45 at hL
  refine g_istore (i := 5) dX10_comesAt_45 (by decide) rfl ?_
  refine g_iload dX10_comesAt_47 rfl ?_
  refine g_none 5 ?_
  refine g_aload_n dX10_comesAt_49 rfl rfl ?_
  refine s_getI (k := 0) (j := 52) E hL rfl rfl f_X10_318 dX10_comesAt_50 ?_
  intro v1 hL
  refine g_iadd dX10_comesAt_53 ?_
  refine g_iload_n dX10_comesAt_54 rfl rfl ?_
  refine g_none 2 ?_
  refine g_aload_n dX10_comesAt_55 rfl rfl ?_
  refine s_getI (k := 0) (j := 53) E hL rfl rfl f_X10_90 dX10_comesAt_56 ?_
  intro v2 hL
  refine g_icmp_ne (tgt := 77) dX10_comesAt_59 (by decide) (fun q6 => ?_) (fun q6 => ?_)
  · rw [if_neg q6] at hL
    refine g_none 0 ?_
    refine g_none 3 ?_
    exact J_X10_comesAt_77_ok E hL 
  · rw [if_pos q6] at hL
    refine g_iload_n dX10_comesAt_62 rfl rfl ?_
    refine g_none 3 ?_
    refine g_aload_n dX10_comesAt_63 rfl rfl ?_
    refine s_getI (k := 0) (j := 54) E hL rfl rfl f_X10_321 dX10_comesAt_64 ?_
    intro v3 hL
    refine g_icmp_ne (tgt := 77) dX10_comesAt_67 (by decide) (fun q5 => ?_) (fun q5 => ?_)
    · rw [if_neg q5] at hL
      refine g_none 0 ?_
      exact J_X10_comesAt_77_ok E hL 
    · rw [if_pos q5] at hL
      refine g_aload_n dX10_comesAt_70 rfl rfl ?_
      refine g_none 0 ?_
      refine s_getI (k := 0) (j := 55) E hL rfl rfl f_X10_324 dX10_comesAt_71 ?_
      intro v4 hL
      refine g_goto (tgt := 78) dX10_comesAt_74 (by decide) ?_
      exact J_X10_comesAt_78_ok E hL 
def L_X10_comesAt (a1 : Int32) (a2 : Int32) (a3 : Int32) (w : wS) : Option (Int32 × wS) :=
  xB (xAld w 16 66 (((a1 + 27) + a3))) fun v7 => xB (xAld w 1 8 (a2)) fun v8 => if v8 = 1 then J_X10_comesAt_45  (a2) (a3) (v7) w else xB (xAld w 20 6 (a3)) fun v9 => xB2 (L_X10_wayOf (a1) (a2) (a3) w) fun v10 w11 => J_X10_comesAt_45  (a2) (a3) (((v7 + v9) + v10)) w11
set_option maxRecDepth 20000 in
theorem C_X10_comesAt {G : aG} {Hf : wS → aH} {b : Nat} {a1 : Int32} {a2 : Int32} {a3 : Int32} {w : wS} {r : Int32 × wS} (E : Emb Hf b 0 tbM) (hL : L_X10_comesAt a1 a2 a3 w = some r) : AC G M_X10_comesAt [.ref (b + 0), .int a1, .int a2, .int a3] (Hf w) (.inl (some (.int r.1)), Hf r.2) := by
  unfold L_X10_comesAt at hL
  refine AC.of (by decide) rfl (Nat.le_of_ble_eq_true rfl) ?_
  show AG G M_X10_comesAt 0 [some (.ref (b + 0)), some (.int (a1)), some (.int (a2)), some (.int (a3)), none, none] [] _ _
  refine g_aload_n dX10_comesAt_0 rfl rfl ?_
  refine s_getR (j := 41) E rfl rfl f_X10_69 dX10_comesAt_1 ?_
  refine g_iload_n dX10_comesAt_4 rfl rfl ?_
  refine g_bipush (v := 27) dX10_comesAt_5 (by decide) ?_
  refine g_iadd dX10_comesAt_7 ?_
  refine g_iload_n dX10_comesAt_8 rfl rfl ?_
  refine g_iadd dX10_comesAt_9 ?_
  refine s_iald (k := 16) E hL rfl dX10_comesAt_10 ?_
  intro v7 hL
  refine g_istore (i := 4) dX10_comesAt_11 (by decide) rfl ?_
  refine g_aload_n dX10_comesAt_13 rfl rfl ?_
  refine s_getR (j := 6) E rfl rfl f_X10_19 dX10_comesAt_14 ?_
  refine g_iload_n dX10_comesAt_17 rfl rfl ?_
  refine s_iald (k := 1) E hL rfl dX10_comesAt_18 ?_
  intro v8 hL
  refine g_iconst (v := 1) dX10_comesAt_19 (by decide) ?_
  refine g_icmp_ne (tgt := 28) dX10_comesAt_20 (by decide) (fun q12 => ?_) (fun q12 => ?_)
  · rw [if_neg q12] at hL
    refine g_iload dX10_comesAt_28 rfl ?_
    refine g_none 4 ?_
    refine g_aload_n dX10_comesAt_30 rfl rfl ?_
    refine s_getR (j := 46) E rfl rfl f_X10_81 dX10_comesAt_31 ?_
    refine g_iload_n dX10_comesAt_34 rfl rfl ?_
    refine s_iald (k := 20) E hL rfl dX10_comesAt_35 ?_
    intro v9 hL
    refine g_iadd dX10_comesAt_36 ?_
    refine g_aload_n dX10_comesAt_37 rfl rfl ?_
    refine g_iload_n dX10_comesAt_38 rfl rfl ?_
    refine g_none 1 ?_
    refine g_iload_n dX10_comesAt_39 rfl rfl ?_
    refine g_iload_n dX10_comesAt_40 rfl rfl ?_
    obtain ⟨v10, w11, hc, hL⟩ := xB2_some hL
    refine g_callV (M' := M_X10_wayOf) (as := [.int (a1), .int (a2), .int (a3)]) (v := some (.int (v10))) l_X10_315 kV_X10_wayOf (by decide) (C_X10_wayOf E hc) rfl (by have := E.1; omega) (E.2.1 _ 0 _ rfl) ⟨_, _, rfl⟩ (Nat.le_of_ble_eq_true rfl) dX10_comesAt_41 ?_
    refine g_iadd dX10_comesAt_44 ?_
    exact J_X10_comesAt_45_ok E hL 
  · rw [if_pos q12] at hL
    refine g_none 1 ?_
    refine g_iload dX10_comesAt_23 rfl ?_
    refine g_none 4 ?_
    refine g_goto (tgt := 45) dX10_comesAt_25 (by decide) ?_
    exact J_X10_comesAt_45_ok E hL 
def J_X10_isLater_86 (y0 : Int32) (w : wS) : Option (Int32 × wS) :=
  xB (xBool (y0)) fun v1 => some (v1, w)
set_option maxRecDepth 20000 in
theorem J_X10_isLater_86_ok {G : aG} {Hf : wS → aH} {b : Nat} {y0 : Int32} {w : wS} {r : Int32 × wS} (E : Emb Hf b 0 tbM) (hL : J_X10_isLater_86  y0 w = some r) : AG G M_X10_isLater 86 [none, none, none, none, none, none] [.int (y0)] (Hf w) (.inl (some (.int r.1)), Hf r.2) := by
  unfold J_X10_isLater_86 at hL
  obtain ⟨v1, hb, hR⟩ := xB_some hL
  obtain ⟨hz, hb2⟩ := xBool_some hb
  clear hL
  subst hz
  obtain rfl := Option.some.inj hR
  exact g_zret rfl (narrow_bool hb2) dX10_isLater_86
def J_X10_isLater_85 (w : wS) : Option (Int32 × wS) :=
  J_X10_isLater_86  (0) w
set_option maxRecDepth 20000 in
theorem J_X10_isLater_85_ok {G : aG} {Hf : wS → aH} {b : Nat} {w : wS} {r : Int32 × wS} (E : Emb Hf b 0 tbM) (hL : J_X10_isLater_85   w = some r) : AG G M_X10_isLater 85 [none, none, none, none, none, none] [] (Hf w) (.inl (some (.int r.1)), Hf r.2) := by
  unfold J_X10_isLater_85 at hL
  refine g_iconst (v := 0) dX10_isLater_85 (by decide) ?_
  exact J_X10_isLater_86_ok E hL 
def J_X10_isLater_81 (w : wS) : Option (Int32 × wS) :=
  J_X10_isLater_86  (1) w
set_option maxRecDepth 20000 in
theorem J_X10_isLater_81_ok {G : aG} {Hf : wS → aH} {b : Nat} {w : wS} {r : Int32 × wS} (E : Emb Hf b 0 tbM) (hL : J_X10_isLater_81   w = some r) : AG G M_X10_isLater 81 [none, none, none, none, none, none] [] (Hf w) (.inl (some (.int r.1)), Hf r.2) := by
  unfold J_X10_isLater_81 at hL
  refine g_iconst (v := 1) dX10_isLater_81 (by decide) ?_
  refine g_goto (tgt := 86) dX10_isLater_82 (by decide) ?_
  exact J_X10_isLater_86_ok E hL 
def J_X10_isLater_45 (y0 : Int32) (w : wS) : Option (Int32 × wS) :=
  xB (xBool (y0)) fun v2 => some (v2, w)
set_option maxRecDepth 20000 in
theorem J_X10_isLater_45_ok {G : aG} {Hf : wS → aH} {b : Nat} {y0 : Int32} {w : wS} {r : Int32 × wS} (E : Emb Hf b 0 tbM) (hL : J_X10_isLater_45  y0 w = some r) : AG G M_X10_isLater 45 [none, none, none, none, none, none] [.int (y0)] (Hf w) (.inl (some (.int r.1)), Hf r.2) := by
  unfold J_X10_isLater_45 at hL
  obtain ⟨v2, hb, hR⟩ := xB_some hL
  obtain ⟨hz, hb2⟩ := xBool_some hb
  clear hL
  subst hz
  obtain rfl := Option.some.inj hR
  exact g_zret rfl (narrow_bool hb2) dX10_isLater_45
def L_X10_isLater (a1 : Int32) (a2 : Int32) (a3 : Int32) (w : wS) : Option (Int32 × wS) :=
  xB (xAld w 22 48 (((8 * a1) + a2))) fun v3 => xB (xAld w 22 48 (((8 * a1) + a3))) fun v4 => if v3 = v4 then xB2 (L_X10_farOf (a2) (a1) w) fun v5 w6 => xB2 (L_X10_farOf (a3) (a1) w6) fun v7 w8 => if v5 < v7 then J_X10_isLater_81   w8 else xB2 (L_X10_farOf (a2) (a1) w8) fun v9 w10 => xB2 (L_X10_farOf (a3) (a1) w10) fun v11 w12 => if v9 = v11 then if a3 ≤ a2 then J_X10_isLater_85   w12 else J_X10_isLater_81   w12 else J_X10_isLater_85   w12 else if v3 ≤ v4 then J_X10_isLater_45  (0) w else J_X10_isLater_45  (1) w
set_option maxRecDepth 20000 in
theorem C_X10_isLater {G : aG} {Hf : wS → aH} {b : Nat} {a1 : Int32} {a2 : Int32} {a3 : Int32} {w : wS} {r : Int32 × wS} (E : Emb Hf b 0 tbM) (hL : L_X10_isLater a1 a2 a3 w = some r) : AC G M_X10_isLater [.ref (b + 0), .int a1, .int a2, .int a3] (Hf w) (.inl (some (.int r.1)), Hf r.2) := by
  unfold L_X10_isLater at hL
  refine AC.of (by decide) rfl (Nat.le_of_ble_eq_true rfl) ?_
  show AG G M_X10_isLater 0 [some (.ref (b + 0)), some (.int (a1)), some (.int (a2)), some (.int (a3)), none, none] [] _ _
  refine g_aload_n dX10_isLater_0 rfl rfl ?_
  refine s_getR (j := 48) E rfl rfl f_X10_87 dX10_isLater_1 ?_
  refine g_bipush (v := 8) dX10_isLater_4 (by decide) ?_
  refine g_iload_n dX10_isLater_6 rfl rfl ?_
  refine g_imul dX10_isLater_7 ?_
  refine g_iload_n dX10_isLater_8 rfl rfl ?_
  refine g_iadd dX10_isLater_9 ?_
  refine s_iald (k := 22) E hL rfl dX10_isLater_10 ?_
  intro v3 hL
  refine g_istore (i := 4) dX10_isLater_11 (by decide) rfl ?_
  refine g_aload_n dX10_isLater_13 rfl rfl ?_
  refine s_getR (j := 48) E rfl rfl f_X10_87 dX10_isLater_14 ?_
  refine g_bipush (v := 8) dX10_isLater_17 (by decide) ?_
  refine g_iload_n dX10_isLater_19 rfl rfl ?_
  refine g_imul dX10_isLater_20 ?_
  refine g_iload_n dX10_isLater_21 rfl rfl ?_
  refine g_iadd dX10_isLater_22 ?_
  refine s_iald (k := 22) E hL rfl dX10_isLater_23 ?_
  intro v4 hL
  refine g_istore (i := 5) dX10_isLater_24 (by decide) rfl ?_
  refine g_iload dX10_isLater_26 rfl ?_
  refine g_iload dX10_isLater_28 rfl ?_
  refine g_icmp_eq (tgt := 46) dX10_isLater_30 (by decide) (fun q17 => ?_) (fun q17 => ?_)
  · rw [if_pos q17] at hL
    refine g_none 4 ?_
    refine g_none 5 ?_
    refine g_aload_n dX10_isLater_46 rfl rfl ?_
    refine g_iload_n dX10_isLater_47 rfl rfl ?_
    refine g_iload_n dX10_isLater_48 rfl rfl ?_
    obtain ⟨v5, w6, hc, hL⟩ := xB2_some hL
    refine g_callV (M' := M_X10_farOf) (as := [.int (a2), .int (a1)]) (v := some (.int (v5))) l_X10_305 kV_X10_farOf (by decide) (C_X10_farOf E hc) rfl (by have := E.1; omega) (E.2.1 _ 0 _ rfl) ⟨_, _, rfl⟩ (Nat.le_of_ble_eq_true rfl) dX10_isLater_49 ?_
    refine g_aload_n dX10_isLater_52 rfl rfl ?_
    refine g_iload_n dX10_isLater_53 rfl rfl ?_
    refine g_iload_n dX10_isLater_54 rfl rfl ?_
    obtain ⟨v7, w8, hc, hL⟩ := xB2_some hL
    refine g_callV (M' := M_X10_farOf) (as := [.int (a3), .int (a1)]) (v := some (.int (v7))) l_X10_305 kV_X10_farOf (by decide) (C_X10_farOf E hc) rfl (by have := E.1; omega) (E.2.1 _ 0 _ rfl) ⟨_, _, rfl⟩ (Nat.le_of_ble_eq_true rfl) dX10_isLater_55 ?_
    refine g_icmp_lt (tgt := 81) dX10_isLater_58 (by decide) (fun q15 => ?_) (fun q15 => ?_)
    · rw [if_pos q15] at hL
      refine g_none 0 ?_
      refine g_none 1 ?_
      refine g_none 2 ?_
      refine g_none 3 ?_
      exact J_X10_isLater_81_ok E hL 
    · rw [if_neg q15] at hL
      refine g_aload_n dX10_isLater_61 rfl rfl ?_
      refine g_iload_n dX10_isLater_62 rfl rfl ?_
      refine g_iload_n dX10_isLater_63 rfl rfl ?_
      obtain ⟨v9, w10, hc, hL⟩ := xB2_some hL
      refine g_callV (M' := M_X10_farOf) (as := [.int (a2), .int (a1)]) (v := some (.int (v9))) l_X10_305 kV_X10_farOf (by decide) (C_X10_farOf E hc) rfl (by have := E.1; omega) (E.2.1 _ 0 _ rfl) ⟨_, _, rfl⟩ (Nat.le_of_ble_eq_true rfl) dX10_isLater_64 ?_
      refine g_aload_n dX10_isLater_67 rfl rfl ?_
      refine g_none 0 ?_
      refine g_iload_n dX10_isLater_68 rfl rfl ?_
      refine g_iload_n dX10_isLater_69 rfl rfl ?_
      refine g_none 1 ?_
      obtain ⟨v11, w12, hc, hL⟩ := xB2_some hL
      refine g_callV (M' := M_X10_farOf) (as := [.int (a3), .int (a1)]) (v := some (.int (v11))) l_X10_305 kV_X10_farOf (by decide) (C_X10_farOf E hc) rfl (by have := E.1; omega) (E.2.1 _ 0 _ rfl) ⟨_, _, rfl⟩ (Nat.le_of_ble_eq_true rfl) dX10_isLater_70 ?_
      refine g_icmp_ne (tgt := 85) dX10_isLater_73 (by decide) (fun q14 => ?_) (fun q14 => ?_)
      · rw [if_neg q14] at hL
        refine g_none 2 ?_
        refine g_none 3 ?_
        exact J_X10_isLater_85_ok E hL 
      · rw [if_pos q14] at hL
        refine g_iload_n dX10_isLater_76 rfl rfl ?_
        refine g_none 2 ?_
        refine g_iload_n dX10_isLater_77 rfl rfl ?_
        refine g_none 3 ?_
        refine g_icmp_ge (tgt := 85) dX10_isLater_78 (by decide) (fun q13 => ?_) (fun q13 => ?_)
        · rw [if_pos q13] at hL
          exact J_X10_isLater_85_ok E hL 
        · rw [if_neg q13] at hL
          exact J_X10_isLater_81_ok E hL 
  · rw [if_neg q17] at hL
    refine g_none 0 ?_
    refine g_none 1 ?_
    refine g_none 2 ?_
    refine g_none 3 ?_
    refine g_iload dX10_isLater_33 rfl ?_
    refine g_none 4 ?_
    refine g_iload dX10_isLater_35 rfl ?_
    refine g_none 5 ?_
    refine g_icmp_le (tgt := 44) dX10_isLater_37 (by decide) (fun q16 => ?_) (fun q16 => ?_)
    · rw [if_pos q16] at hL
      refine g_iconst (v := 0) dX10_isLater_44 (by decide) ?_
      exact J_X10_isLater_45_ok E hL 
    · rw [if_neg q16] at hL
      refine g_iconst (v := 1) dX10_isLater_40 (by decide) ?_
      refine g_goto (tgt := 45) dX10_isLater_41 (by decide) ?_
      exact J_X10_isLater_45_ok E hL 
def J_X10_turnOf_343 (x1 : Int32) (x4 : Int32) (y0 : Int32) (w : wS) : Option (wS) :=
  xB (xAld w 16 66 (((x1 + 3) + x4))) fun v1 => xB (L_X10_lesser (60) ((v1 + y0))) fun v2 => xB (xAst w 16 66 (((x1 + 3) + x4)) (v2)) fun w3 => some w3
set_option maxRecDepth 20000 in
theorem J_X10_turnOf_343_ok {G : aG} {Hf : wS → aH} {b : Nat} {x1 : Int32} {x4 : Int32} {y0 : Int32} {w : wS} {r : wS} (E : Emb Hf b 0 tbM) (hL : J_X10_turnOf_343  x1 x4 y0 w = some r) : AG G M_X10_turnOf 343 [some (.ref (b + 0)), some (.int (x1)), none, none, some (.int (x4)), none] [.int (y0)] (Hf w) (.inl none, Hf r) := by
  unfold J_X10_turnOf_343 at hL
  refine g_istore (i := 5) dX10_turnOf_343 (by decide) rfl ?_
  refine g_aload_n dX10_turnOf_345 rfl rfl ?_
  refine s_getR (j := 41) E rfl rfl f_X10_69 dX10_turnOf_346 ?_
  refine g_iload_n dX10_turnOf_349 rfl rfl ?_
  refine g_iconst (v := 3) dX10_turnOf_350 (by decide) ?_
  refine g_iadd dX10_turnOf_351 ?_
  refine g_iload dX10_turnOf_352 rfl ?_
  refine g_iadd dX10_turnOf_354 ?_
  refine g_bipush (v := 60) dX10_turnOf_355 (by decide) ?_
  refine g_aload_n dX10_turnOf_357 rfl rfl ?_
  refine g_none 0 ?_
  refine s_getR (j := 41) E rfl rfl f_X10_69 dX10_turnOf_358 ?_
  refine g_iload_n dX10_turnOf_361 rfl rfl ?_
  refine g_none 1 ?_
  refine g_iconst (v := 3) dX10_turnOf_362 (by decide) ?_
  refine g_iadd dX10_turnOf_363 ?_
  refine g_iload dX10_turnOf_364 rfl ?_
  refine g_none 4 ?_
  refine g_iadd dX10_turnOf_366 ?_
  refine s_iald (k := 16) E hL rfl dX10_turnOf_367 ?_
  intro v1 hL
  refine g_iload dX10_turnOf_368 rfl ?_
  refine g_none 5 ?_
  refine g_iadd dX10_turnOf_370 ?_
  obtain ⟨v2, hc, hL⟩ := xB_some hL
  refine g_callS (M' := M_X10_lesser) (as := [.int (60), .int ((v1 + y0))]) (v := some (.int (v2))) l_X10_331 kS_X10_lesser (by decide) (C_X10_lesser hc) rfl (Nat.le_of_ble_eq_true rfl) dX10_turnOf_371 ?_
  refine s_iast (k := 16) E hL rfl dX10_turnOf_374 ?_
  intro w3 hL
  obtain rfl := Option.some.inj hL
  exact g_vret rfl dX10_turnOf_375
def J_X10_turnOf_292 (x1 : Int32) (x2 : Int32) (x4 : Int32) (y1 : Int32) (y2 : Int32) (w : wS) : Option (wS) :=
  xB (xPut w 50 ((y1 + y2))) fun w4 => xB (xAst w4 16 66 ((x1 + 1)) (x4)) fun w5 => if x4 = (-1) then some w5 else xB (xGet w5 5) fun v6 => if v6 = (-1) then J_X10_turnOf_343  (x1) (x4) (1) w5 else xB (xGet w5 5) fun v7 => xB2 (L_X10_asks (v7) (x1) (x4) (x2) w5) fun v8 w9 => xB (L_X10_bounded (v8) (0) (9)) fun v10 => J_X10_turnOf_343  (x1) (x4) (v10) w9
set_option maxRecDepth 20000 in
theorem J_X10_turnOf_292_ok {G : aG} {Hf : wS → aH} {b : Nat} {x1 : Int32} {x2 : Int32} {x4 : Int32} {y1 : Int32} {y2 : Int32} {w : wS} {r : wS} (E : Emb Hf b 0 tbM) (hL : J_X10_turnOf_292  x1 x2 x4 y1 y2 w = some r) : AG G M_X10_turnOf 292 [some (.ref (b + 0)), some (.int (x1)), some (.int (x2)), none, some (.int (x4)), none] [.int (y2), .int (y1), .ref (b + 0)] (Hf w) (.inl none, Hf r) := by
  unfold J_X10_turnOf_292 at hL
  refine g_iadd dX10_turnOf_292 ?_
  refine s_putI (k := 0) (j := 50) E hL rfl rfl (by decide) fw_X10_351 rfl rfl dX10_turnOf_293 ?_
  intro w4 hL
  refine g_aload_n dX10_turnOf_296 rfl rfl ?_
  refine s_getR (j := 41) E rfl rfl f_X10_69 dX10_turnOf_297 ?_
  refine g_iload_n dX10_turnOf_300 rfl rfl ?_
  refine g_iconst (v := 1) dX10_turnOf_301 (by decide) ?_
  refine g_iadd dX10_turnOf_302 ?_
  refine g_iload dX10_turnOf_303 rfl ?_
  refine s_iast (k := 16) E hL rfl dX10_turnOf_305 ?_
  intro w5 hL
  refine g_iload dX10_turnOf_306 rfl ?_
  refine g_iconst (v := (-1)) dX10_turnOf_308 (by decide) ?_
  refine g_icmp_ne (tgt := 313) dX10_turnOf_309 (by decide) (fun q12 => ?_) (fun q12 => ?_)
  · rw [if_neg q12] at hL
    refine g_aload_n dX10_turnOf_313 rfl rfl ?_
    refine s_getI (k := 0) (j := 5) E hL rfl rfl f_X10_16 dX10_turnOf_314 ?_
    intro v6 hL
    refine g_iconst (v := (-1)) dX10_turnOf_317 (by decide) ?_
    refine g_icmp_ne (tgt := 325) dX10_turnOf_318 (by decide) (fun q11 => ?_) (fun q11 => ?_)
    · rw [if_neg q11] at hL
      refine g_aload_n dX10_turnOf_325 rfl rfl ?_
      refine g_aload_n dX10_turnOf_326 rfl rfl ?_
      refine s_getI (k := 0) (j := 5) E hL rfl rfl f_X10_16 dX10_turnOf_327 ?_
      intro v7 hL
      refine g_iload_n dX10_turnOf_330 rfl rfl ?_
      refine g_iload dX10_turnOf_331 rfl ?_
      refine g_iload_n dX10_turnOf_333 rfl rfl ?_
      refine g_none 2 ?_
      obtain ⟨v8, w9, hc, hL⟩ := xB2_some hL
      refine g_callV (M' := M_X10_asks) (as := [.int (v7), .int (x1), .int (x4), .int (x2)]) (v := some (.int (v8))) l_X10_327 kV_X10_asks (by decide) (C_X10_asks E hc) rfl (by have := E.1; omega) (E.2.1 _ 0 _ rfl) ⟨_, _, rfl⟩ (Nat.le_of_ble_eq_true rfl) dX10_turnOf_334 ?_
      refine g_iconst (v := 0) dX10_turnOf_337 (by decide) ?_
      refine g_bipush (v := 9) dX10_turnOf_338 (by decide) ?_
      obtain ⟨v10, hc, hL⟩ := xB_some hL
      refine g_callS (M' := M_X10_bounded) (as := [.int (v8), .int (0), .int (9)]) (v := some (.int (v10))) l_X10_312 kS_X10_bounded (by decide) (C_X10_bounded hc) rfl (Nat.le_of_ble_eq_true rfl) dX10_turnOf_340 ?_
      exact J_X10_turnOf_343_ok E hL 
    · rw [if_pos q11] at hL
      refine g_none 2 ?_
      refine g_iconst (v := 1) dX10_turnOf_321 (by decide) ?_
      refine g_goto (tgt := 343) dX10_turnOf_322 (by decide) ?_
      exact J_X10_turnOf_343_ok E hL 
  · rw [if_pos q12] at hL
    refine g_none 0 ?_
    refine g_none 1 ?_
    refine g_none 2 ?_
    refine g_none 4 ?_
    obtain rfl := Option.some.inj hL
    exact g_vret rfl dX10_turnOf_312
def J_X10_turnOf_262 (kh131 : Int32 → Int32 → Int32 → Int32 → Int32 → wS → Option (wS)) (ke268 : Int32 → Int32 → Int32 → Int32 → wS → Option (wS)) (x1 : Int32) (x2 : Int32) (x3 : Int32) (x4 : Int32) (x5 : Int32) (w : wS) : Option (wS) :=
  kh131 (x1) (x2) (x3) (x4) ((x5 + 1)) w
set_option maxRecDepth 20000 in
theorem J_X10_turnOf_262_ok {G : aG} {Hf : wS → aH} {b : Nat} {kh131 : Int32 → Int32 → Int32 → Int32 → Int32 → wS → Option (wS)} {ke268 : Int32 → Int32 → Int32 → Int32 → wS → Option (wS)} {x1 : Int32} {x2 : Int32} {x3 : Int32} {x4 : Int32} {x5 : Int32} {w : wS} {r : wS} (E : Emb Hf b 0 tbM) (hL : J_X10_turnOf_262 kh131 ke268 x1 x2 x3 x4 x5 w = some r) (Hkh131 : ∀ (z0 : Int32) (z1 : Int32) (z2 : Int32) (z3 : Int32) (z4 : Int32) (w : wS), kh131 z0 z1 z2 z3 z4 w = some r → AG G M_X10_turnOf 131 [some (.ref (b + 0)), some (.int (z0)), some (.int (z1)), some (.int (z2)), some (.int (z3)), some (.int (z4))] [] (Hf w) (.inl none, Hf r)) (Hke268 : ∀ (z0 : Int32) (z1 : Int32) (z2 : Int32) (z3 : Int32) (w : wS), ke268 z0 z1 z2 z3 w = some r → AG G M_X10_turnOf 268 [some (.ref (b + 0)), some (.int (z0)), some (.int (z1)), some (.int (z2)), some (.int (z3)), none] [] (Hf w) (.inl none, Hf r)) : AG G M_X10_turnOf 262 [some (.ref (b + 0)), some (.int (x1)), some (.int (x2)), some (.int (x3)), some (.int (x4)), some (.int (x5))] [] (Hf w) (.inl none, Hf r) := by
  unfold J_X10_turnOf_262 at hL
  refine g_iincV (v := (x5 + 1)) dX10_turnOf_262 rfl rfl (by decide) rfl ?_
  refine g_goto (tgt := 131) dX10_turnOf_265 (by decide) ?_
  exact Hkh131 _ _ _ _ _ _ hL
def J_X10_turnOf_258 (kh131 : Int32 → Int32 → Int32 → Int32 → Int32 → wS → Option (wS)) (ke268 : Int32 → Int32 → Int32 → Int32 → wS → Option (wS)) (x1 : Int32) (x2 : Int32) (x3 : Int32) (x5 : Int32) (w : wS) : Option (wS) :=
  J_X10_turnOf_262 kh131 ke268 (x1) (x2) (x3) (x5) (x5) w
set_option maxRecDepth 20000 in
theorem J_X10_turnOf_258_ok {G : aG} {Hf : wS → aH} {b : Nat} {kh131 : Int32 → Int32 → Int32 → Int32 → Int32 → wS → Option (wS)} {ke268 : Int32 → Int32 → Int32 → Int32 → wS → Option (wS)} {x1 : Int32} {x2 : Int32} {x3 : Int32} {x5 : Int32} {w : wS} {r : wS} (E : Emb Hf b 0 tbM) (hL : J_X10_turnOf_258 kh131 ke268 x1 x2 x3 x5 w = some r) (Hkh131 : ∀ (z0 : Int32) (z1 : Int32) (z2 : Int32) (z3 : Int32) (z4 : Int32) (w : wS), kh131 z0 z1 z2 z3 z4 w = some r → AG G M_X10_turnOf 131 [some (.ref (b + 0)), some (.int (z0)), some (.int (z1)), some (.int (z2)), some (.int (z3)), some (.int (z4))] [] (Hf w) (.inl none, Hf r)) (Hke268 : ∀ (z0 : Int32) (z1 : Int32) (z2 : Int32) (z3 : Int32) (w : wS), ke268 z0 z1 z2 z3 w = some r → AG G M_X10_turnOf 268 [some (.ref (b + 0)), some (.int (z0)), some (.int (z1)), some (.int (z2)), some (.int (z3)), none] [] (Hf w) (.inl none, Hf r)) : AG G M_X10_turnOf 258 [some (.ref (b + 0)), some (.int (x1)), some (.int (x2)), some (.int (x3)), none, some (.int (x5))] [] (Hf w) (.inl none, Hf r) := by
  unfold J_X10_turnOf_258 at hL
  refine g_iload dX10_turnOf_258 rfl ?_
  refine g_istore (i := 4) dX10_turnOf_260 (by decide) rfl ?_
  exact J_X10_turnOf_262_ok E hL Hkh131 Hke268
def B_X10_turnOf_131 (kh131 : Int32 → Int32 → Int32 → Int32 → Int32 → wS → Option (wS)) (ke268 : Int32 → Int32 → Int32 → Int32 → wS → Option (wS)) (x1 : Int32) (x2 : Int32) (x3 : Int32) (x4 : Int32) (x5 : Int32) (w : wS) : Option (wS) :=
  xB (xGet w 1) fun v13 => if v13 ≤ x5 then ke268 (x1) (x2) (x3) (x4) w else xB (xAst w 22 48 (((8 * x2) + x5)) ((-1))) fun w14 => xB2 (L_X10_doesCome (x1) (x5) w14) fun v15 w16 => if v15 = 0 then J_X10_turnOf_262 kh131 ke268 (x1) (x2) (x3) (x4) (x5) w16 else xB2 (L_X10_comesAt (x1) (x5) (x2) w16) fun v17 w18 => xB (xAst w18 22 48 (((8 * x2) + x5)) (v17)) fun w19 => xB (xAld w19 22 48 (((8 * x2) + x5))) fun v20 => xB (xAld w19 16 66 (((x1 + 27) + x2))) fun v21 => xB (L_X10_bounded ((v20 - v21)) (0) (999)) fun v22 => xB (xAst w19 16 66 (((x1 + 11) + x5)) (v22)) fun w23 => xB (xAld w23 1 8 (x5)) fun v24 => if v24 = 1 then J_X10_turnOf_262 kh131 ke268 (x1) (x2) (x3) (x4) (x5) w23 else if x4 = (-1) then J_X10_turnOf_258 kh131 ke268 (x1) (x2) (x3) (x5) w23 else xB2 (L_X10_isLater (x2) (x5) (x4) w23) fun v25 w26 => if v25 = 0 then J_X10_turnOf_262 kh131 ke268 (x1) (x2) (x3) (x4) (x5) w26 else J_X10_turnOf_258 kh131 ke268 (x1) (x2) (x3) (x5) w26
set_option maxRecDepth 20000 in
theorem B_X10_turnOf_131_ok {G : aG} {Hf : wS → aH} {b : Nat} {kh131 : Int32 → Int32 → Int32 → Int32 → Int32 → wS → Option (wS)} {ke268 : Int32 → Int32 → Int32 → Int32 → wS → Option (wS)} {x1 : Int32} {x2 : Int32} {x3 : Int32} {x4 : Int32} {x5 : Int32} {w : wS} {r : wS} (E : Emb Hf b 0 tbM) (hL : B_X10_turnOf_131 kh131 ke268 x1 x2 x3 x4 x5 w = some r) (Hkh131 : ∀ (z0 : Int32) (z1 : Int32) (z2 : Int32) (z3 : Int32) (z4 : Int32) (w : wS), kh131 z0 z1 z2 z3 z4 w = some r → AG G M_X10_turnOf 131 [some (.ref (b + 0)), some (.int (z0)), some (.int (z1)), some (.int (z2)), some (.int (z3)), some (.int (z4))] [] (Hf w) (.inl none, Hf r)) (Hke268 : ∀ (z0 : Int32) (z1 : Int32) (z2 : Int32) (z3 : Int32) (w : wS), ke268 z0 z1 z2 z3 w = some r → AG G M_X10_turnOf 268 [some (.ref (b + 0)), some (.int (z0)), some (.int (z1)), some (.int (z2)), some (.int (z3)), none] [] (Hf w) (.inl none, Hf r)) : AG G M_X10_turnOf 131 [some (.ref (b + 0)), some (.int (x1)), some (.int (x2)), some (.int (x3)), some (.int (x4)), some (.int (x5))] [] (Hf w) (.inl none, Hf r) := by
  unfold B_X10_turnOf_131 at hL
  refine g_iload dX10_turnOf_131 rfl ?_
  refine g_aload_n dX10_turnOf_133 rfl rfl ?_
  refine s_getI (k := 0) (j := 1) E hL rfl rfl f_X10_278 dX10_turnOf_134 ?_
  intro v13 hL
  refine g_icmp_ge (tgt := 268) dX10_turnOf_137 (by decide) (fun q31 => ?_) (fun q31 => ?_)
  · rw [if_pos q31] at hL
    refine g_none 5 ?_
    exact Hke268 _ _ _ _ _ hL
  · rw [if_neg q31] at hL
    refine g_aload_n dX10_turnOf_140 rfl rfl ?_
    refine s_getR (j := 48) E rfl rfl f_X10_87 dX10_turnOf_141 ?_
    refine g_bipush (v := 8) dX10_turnOf_144 (by decide) ?_
    refine g_iload_n dX10_turnOf_146 rfl rfl ?_
    refine g_imul dX10_turnOf_147 ?_
    refine g_iload dX10_turnOf_148 rfl ?_
    refine g_iadd dX10_turnOf_150 ?_
    refine g_iconst (v := (-1)) dX10_turnOf_151 (by decide) ?_
    refine s_iast (k := 22) E hL rfl dX10_turnOf_152 ?_
    intro w14 hL
    refine g_aload_n dX10_turnOf_153 rfl rfl ?_
    refine g_iload_n dX10_turnOf_154 rfl rfl ?_
    refine g_iload dX10_turnOf_155 rfl ?_
    obtain ⟨v15, w16, hc, hL⟩ := xB2_some hL
    refine g_callV (M' := M_X10_doesCome) (as := [.int (x1), .int (x5)]) (v := some (.int (v15))) l_X10_340 kV_X10_doesCome (by decide) (C_X10_doesCome E hc) rfl (by have := E.1; omega) (E.2.1 _ 0 _ rfl) ⟨_, _, rfl⟩ (Nat.le_of_ble_eq_true rfl) dX10_turnOf_157 ?_
    refine g_if_ne (tgt := 166) dX10_turnOf_160 (by decide) (fun q30 => ?_) (fun q30 => ?_)
    · rw [if_neg q30] at hL
      refine g_aload_n dX10_turnOf_166 rfl rfl ?_
      refine s_getR (j := 48) E rfl rfl f_X10_87 dX10_turnOf_167 ?_
      refine g_bipush (v := 8) dX10_turnOf_170 (by decide) ?_
      refine g_iload_n dX10_turnOf_172 rfl rfl ?_
      refine g_imul dX10_turnOf_173 ?_
      refine g_iload dX10_turnOf_174 rfl ?_
      refine g_iadd dX10_turnOf_176 ?_
      refine g_aload_n dX10_turnOf_177 rfl rfl ?_
      refine g_iload_n dX10_turnOf_178 rfl rfl ?_
      refine g_iload dX10_turnOf_179 rfl ?_
      refine g_iload_n dX10_turnOf_181 rfl rfl ?_
      obtain ⟨v17, w18, hc, hL⟩ := xB2_some hL
      refine g_callV (M' := M_X10_comesAt) (as := [.int (x1), .int (x5), .int (x2)]) (v := some (.int (v17))) l_X10_344 kV_X10_comesAt (by decide) (C_X10_comesAt E hc) rfl (by have := E.1; omega) (E.2.1 _ 0 _ rfl) ⟨_, _, rfl⟩ (Nat.le_of_ble_eq_true rfl) dX10_turnOf_182 ?_
      refine s_iast (k := 22) E hL rfl dX10_turnOf_185 ?_
      intro w19 hL
      refine g_aload_n dX10_turnOf_186 rfl rfl ?_
      refine s_getR (j := 41) E rfl rfl f_X10_69 dX10_turnOf_187 ?_
      refine g_iload_n dX10_turnOf_190 rfl rfl ?_
      refine g_bipush (v := 11) dX10_turnOf_191 (by decide) ?_
      refine g_iadd dX10_turnOf_193 ?_
      refine g_iload dX10_turnOf_194 rfl ?_
      refine g_iadd dX10_turnOf_196 ?_
      refine g_aload_n dX10_turnOf_197 rfl rfl ?_
      refine s_getR (j := 48) E rfl rfl f_X10_87 dX10_turnOf_198 ?_
      refine g_bipush (v := 8) dX10_turnOf_201 (by decide) ?_
      refine g_iload_n dX10_turnOf_203 rfl rfl ?_
      refine g_imul dX10_turnOf_204 ?_
      refine g_iload dX10_turnOf_205 rfl ?_
      refine g_iadd dX10_turnOf_207 ?_
      refine s_iald (k := 22) E hL rfl dX10_turnOf_208 ?_
      intro v20 hL
      refine g_aload_n dX10_turnOf_209 rfl rfl ?_
      refine s_getR (j := 41) E rfl rfl f_X10_69 dX10_turnOf_210 ?_
      refine g_iload_n dX10_turnOf_213 rfl rfl ?_
      refine g_bipush (v := 27) dX10_turnOf_214 (by decide) ?_
      refine g_iadd dX10_turnOf_216 ?_
      refine g_iload_n dX10_turnOf_217 rfl rfl ?_
      refine g_iadd dX10_turnOf_218 ?_
      refine s_iald (k := 16) E hL rfl dX10_turnOf_219 ?_
      intro v21 hL
      refine g_isub dX10_turnOf_220 ?_
      refine g_iconst (v := 0) dX10_turnOf_221 (by decide) ?_
      refine g_sipush (v := 999) dX10_turnOf_222 (by decide) ?_
      obtain ⟨v22, hc, hL⟩ := xB_some hL
      refine g_callS (M' := M_X10_bounded) (as := [.int ((v20 - v21)), .int (0), .int (999)]) (v := some (.int (v22))) l_X10_312 kS_X10_bounded (by decide) (C_X10_bounded hc) rfl (Nat.le_of_ble_eq_true rfl) dX10_turnOf_225 ?_
      refine s_iast (k := 16) E hL rfl dX10_turnOf_228 ?_
      intro w23 hL
      refine g_aload_n dX10_turnOf_229 rfl rfl ?_
      refine s_getR (j := 6) E rfl rfl f_X10_19 dX10_turnOf_230 ?_
      refine g_iload dX10_turnOf_233 rfl ?_
      refine s_iald (k := 1) E hL rfl dX10_turnOf_235 ?_
      intro v24 hL
      refine g_iconst (v := 1) dX10_turnOf_236 (by decide) ?_
      refine g_icmp_eq (tgt := 262) dX10_turnOf_237 (by decide) (fun q29 => ?_) (fun q29 => ?_)
      · rw [if_pos q29] at hL
        exact J_X10_turnOf_262_ok E hL Hkh131 Hke268
      · rw [if_neg q29] at hL
        refine g_iload dX10_turnOf_240 rfl ?_
        refine g_iconst (v := (-1)) dX10_turnOf_242 (by decide) ?_
        refine g_icmp_eq (tgt := 258) dX10_turnOf_243 (by decide) (fun q28 => ?_) (fun q28 => ?_)
        · rw [if_pos q28] at hL
          refine g_none 4 ?_
          exact J_X10_turnOf_258_ok E hL Hkh131 Hke268
        · rw [if_neg q28] at hL
          refine g_aload_n dX10_turnOf_246 rfl rfl ?_
          refine g_iload_n dX10_turnOf_247 rfl rfl ?_
          refine g_iload dX10_turnOf_248 rfl ?_
          refine g_iload dX10_turnOf_250 rfl ?_
          obtain ⟨v25, w26, hc, hL⟩ := xB2_some hL
          refine g_callV (M' := M_X10_isLater) (as := [.int (x2), .int (x5), .int (x4)]) (v := some (.int (v25))) l_X10_347 kV_X10_isLater (by decide) (C_X10_isLater E hc) rfl (by have := E.1; omega) (E.2.1 _ 0 _ rfl) ⟨_, _, rfl⟩ (Nat.le_of_ble_eq_true rfl) dX10_turnOf_252 ?_
          refine g_if_eq (tgt := 262) dX10_turnOf_255 (by decide) (fun q27 => ?_) (fun q27 => ?_)
          · rw [if_pos q27] at hL
            exact J_X10_turnOf_262_ok E hL Hkh131 Hke268
          · rw [if_neg q27] at hL
            refine g_none 4 ?_
            exact J_X10_turnOf_258_ok E hL Hkh131 Hke268
    · rw [if_pos q30] at hL
      refine g_goto (tgt := 262) dX10_turnOf_163 (by decide) ?_
      exact J_X10_turnOf_262_ok E hL Hkh131 Hke268
def P_X10_turnOf_131 (ke268 : Int32 → Int32 → Int32 → Int32 → wS → Option (wS)) (n : Nat) (x1 : Int32) (x2 : Int32) (x3 : Int32) (x4 : Int32) (x5 : Int32) (w : wS) : Option (wS) :=
  xLoop (fun (kk : Int32 × Int32 × Int32 × Int32 × Int32 × wS → Option (wS)) σ => B_X10_turnOf_131 (fun x1 x2 x3 x4 x5 w => kk (x1, x2, x3, x4, x5, w)) ke268 (σ.1) (σ.2.1) (σ.2.2.1) (σ.2.2.2.1) (σ.2.2.2.2.1) (σ.2.2.2.2.2)) n (x1, x2, x3, x4, x5, w)
theorem P_X10_turnOf_131_ok {G : aG} {Hf : wS → aH} {b : Nat} {ke268 : Int32 → Int32 → Int32 → Int32 → wS → Option (wS)} {n : Nat} {x1 : Int32} {x2 : Int32} {x3 : Int32} {x4 : Int32} {x5 : Int32} {w : wS} {r : wS} (E : Emb Hf b 0 tbM) (hL : P_X10_turnOf_131 ke268 n x1 x2 x3 x4 x5 w = some r) (Hke268 : ∀ (z0 : Int32) (z1 : Int32) (z2 : Int32) (z3 : Int32) (w : wS), ke268 z0 z1 z2 z3 w = some r → AG G M_X10_turnOf 268 [some (.ref (b + 0)), some (.int (z0)), some (.int (z1)), some (.int (z2)), some (.int (z3)), none] [] (Hf w) (.inl none, Hf r)) : AG G M_X10_turnOf 131 [some (.ref (b + 0)), some (.int (x1)), some (.int (x2)), some (.int (x3)), some (.int (x4)), some (.int (x5))] [] (Hf w) (.inl none, Hf r) :=
  xLoop_ok (Q := fun (σ : Int32 × Int32 × Int32 × Int32 × Int32 × wS) => AG G M_X10_turnOf 131 [some (.ref (b + 0)), some (.int (σ.1)), some (.int (σ.2.1)), some (.int (σ.2.2.1)), some (.int (σ.2.2.2.1)), some (.int (σ.2.2.2.2.1))] [] (Hf σ.2.2.2.2.2) (.inl none, Hf r)) (fun kk hk σ hσ => B_X10_turnOf_131_ok E hσ (fun x1 x2 x3 x4 x5 w h9 => hk (x1, x2, x3, x4, x5, w) h9) Hke268) n (x1, x2, x3, x4, x5, w) hL
def J_X10_turnOf_110 (x1 : Int32) (x2 : Int32) (x3 : Int32) (w : wS) : Option (wS) :=
  xB (xGet w 51) fun v32 => xB (xAld w 20 6 (x2)) fun v33 => xB (xPut w 51 ((v32 + v33))) fun w34 => P_X10_turnOf_131 (fun z35 z36 z37 z38 w39 => xB (xAst w39 21 6 (z36) (z38)) fun w40 => xB (xGet w40 50) fun v41 => if z38 = z37 then J_X10_turnOf_292  (z35) (z36) (z38) (v41) (0) w40 else J_X10_turnOf_292  (z35) (z36) (z38) (v41) (1) w40) 5000 (x1) (x2) (x3) ((-1)) (0) w34
set_option maxRecDepth 20000 in
theorem J_X10_turnOf_110_ok {G : aG} {Hf : wS → aH} {b : Nat} {x1 : Int32} {x2 : Int32} {x3 : Int32} {w : wS} {r : wS} (E : Emb Hf b 0 tbM) (hL : J_X10_turnOf_110  x1 x2 x3 w = some r) : AG G M_X10_turnOf 110 [some (.ref (b + 0)), some (.int (x1)), some (.int (x2)), some (.int (x3)), none, none] [] (Hf w) (.inl none, Hf r) := by
  unfold J_X10_turnOf_110 at hL
  refine g_aload_n dX10_turnOf_110 rfl rfl ?_
  refine g_dup dX10_turnOf_111 rfl ?_
  refine s_getI (k := 0) (j := 51) E hL rfl rfl f_X10_337 dX10_turnOf_112 ?_
  intro v32 hL
  refine g_aload_n dX10_turnOf_115 rfl rfl ?_
  refine s_getR (j := 46) E rfl rfl f_X10_81 dX10_turnOf_116 ?_
  refine g_iload_n dX10_turnOf_119 rfl rfl ?_
  refine s_iald (k := 20) E hL rfl dX10_turnOf_120 ?_
  intro v33 hL
  refine g_iadd dX10_turnOf_121 ?_
  refine s_putI (k := 0) (j := 51) E hL rfl rfl (by decide) fw_X10_337 rfl rfl dX10_turnOf_122 ?_
  intro w34 hL
  refine g_iconst (v := (-1)) dX10_turnOf_125 (by decide) ?_
  refine g_istore (i := 4) dX10_turnOf_126 (by decide) rfl ?_
  refine g_iconst (v := 0) dX10_turnOf_128 (by decide) ?_
  refine g_istore (i := 5) dX10_turnOf_129 (by decide) rfl ?_
  refine P_X10_turnOf_131_ok E hL ?_
  · intro z35 z36 z37 z38 w39 hL
    refine g_aload_n dX10_turnOf_268 rfl rfl ?_
    refine s_getR (j := 47) E rfl rfl f_X10_84 dX10_turnOf_269 ?_
    refine g_iload_n dX10_turnOf_272 rfl rfl ?_
    refine g_iload dX10_turnOf_273 rfl ?_
    refine s_iast (k := 21) E hL rfl dX10_turnOf_275 ?_
    intro w40 hL
    refine g_aload_n dX10_turnOf_276 rfl rfl ?_
    refine g_dup dX10_turnOf_277 rfl ?_
    refine s_getI (k := 0) (j := 50) E hL rfl rfl f_X10_351 dX10_turnOf_278 ?_
    intro v41 hL
    refine g_iload dX10_turnOf_281 rfl ?_
    refine g_iload_n dX10_turnOf_283 rfl rfl ?_
    refine g_none 3 ?_
    refine g_icmp_eq (tgt := 291) dX10_turnOf_284 (by decide) (fun q42 => ?_) (fun q42 => ?_)
    · rw [if_pos q42] at hL
      refine g_iconst (v := 0) dX10_turnOf_291 (by decide) ?_
      exact J_X10_turnOf_292_ok E hL 
    · rw [if_neg q42] at hL
      refine g_iconst (v := 1) dX10_turnOf_287 (by decide) ?_
      refine g_goto (tgt := 292) dX10_turnOf_288 (by decide) ?_
      exact J_X10_turnOf_292_ok E hL 
def J_X10_turnOf_61 (x1 : Int32) (x2 : Int32) (x3 : Int32) (y1 : Int32) (y2 : Int32) (w : wS) : Option (wS) :=
  xB (L_X10_bounded (y2) (0) (120)) fun v43 => xB (xAst w 20 6 (y1) (v43)) fun w44 => xB (xAld w44 16 66 (((x1 + 19) + x3))) fun v45 => xB (L_X10_lesser (999) ((v45 + 1))) fun v46 => xB (xAst w44 16 66 (((x1 + 19) + x3)) (v46)) fun w47 => xB (xGet w47 49) fun v48 => xB (xPut w47 49 ((v48 ||| (1 <<< (x3 &&& 31))))) fun w49 => J_X10_turnOf_110  (x1) (x2) (x3) w49
set_option maxRecDepth 20000 in
theorem J_X10_turnOf_61_ok {G : aG} {Hf : wS → aH} {b : Nat} {x1 : Int32} {x2 : Int32} {x3 : Int32} {y1 : Int32} {y2 : Int32} {w : wS} {r : wS} (E : Emb Hf b 0 tbM) (hL : J_X10_turnOf_61  x1 x2 x3 y1 y2 w = some r) : AG G M_X10_turnOf 61 [some (.ref (b + 0)), some (.int (x1)), some (.int (x2)), some (.int (x3)), none, none] [.int (y2), .int (y1), .ref (b + 20)] (Hf w) (.inl none, Hf r) := by
  unfold J_X10_turnOf_61 at hL
  refine g_iconst (v := 0) dX10_turnOf_61 (by decide) ?_
  refine g_bipush (v := 120) dX10_turnOf_62 (by decide) ?_
  obtain ⟨v43, hc, hL⟩ := xB_some hL
  refine g_callS (M' := M_X10_bounded) (as := [.int (y2), .int (0), .int (120)]) (v := some (.int (v43))) l_X10_312 kS_X10_bounded (by decide) (C_X10_bounded hc) rfl (Nat.le_of_ble_eq_true rfl) dX10_turnOf_64 ?_
  refine s_iast (k := 20) E hL rfl dX10_turnOf_67 ?_
  intro w44 hL
  refine g_aload_n dX10_turnOf_68 rfl rfl ?_
  refine s_getR (j := 41) E rfl rfl f_X10_69 dX10_turnOf_69 ?_
  refine g_iload_n dX10_turnOf_72 rfl rfl ?_
  refine g_bipush (v := 19) dX10_turnOf_73 (by decide) ?_
  refine g_iadd dX10_turnOf_75 ?_
  refine g_iload_n dX10_turnOf_76 rfl rfl ?_
  refine g_iadd dX10_turnOf_77 ?_
  refine g_sipush (v := 999) dX10_turnOf_78 (by decide) ?_
  refine g_aload_n dX10_turnOf_81 rfl rfl ?_
  refine s_getR (j := 41) E rfl rfl f_X10_69 dX10_turnOf_82 ?_
  refine g_iload_n dX10_turnOf_85 rfl rfl ?_
  refine g_bipush (v := 19) dX10_turnOf_86 (by decide) ?_
  refine g_iadd dX10_turnOf_88 ?_
  refine g_iload_n dX10_turnOf_89 rfl rfl ?_
  refine g_iadd dX10_turnOf_90 ?_
  refine s_iald (k := 16) E hL rfl dX10_turnOf_91 ?_
  intro v45 hL
  refine g_iconst (v := 1) dX10_turnOf_92 (by decide) ?_
  refine g_iadd dX10_turnOf_93 ?_
  obtain ⟨v46, hc, hL⟩ := xB_some hL
  refine g_callS (M' := M_X10_lesser) (as := [.int (999), .int ((v45 + 1))]) (v := some (.int (v46))) l_X10_331 kS_X10_lesser (by decide) (C_X10_lesser hc) rfl (Nat.le_of_ble_eq_true rfl) dX10_turnOf_94 ?_
  refine s_iast (k := 16) E hL rfl dX10_turnOf_97 ?_
  intro w47 hL
  refine g_aload_n dX10_turnOf_98 rfl rfl ?_
  refine g_dup dX10_turnOf_99 rfl ?_
  refine s_getI (k := 0) (j := 49) E hL rfl rfl f_X10_334 dX10_turnOf_100 ?_
  intro v48 hL
  refine g_iconst (v := 1) dX10_turnOf_103 (by decide) ?_
  refine g_iload_n dX10_turnOf_104 rfl rfl ?_
  refine g_ishl dX10_turnOf_105 ?_
  refine g_ior dX10_turnOf_106 ?_
  refine s_putI (k := 0) (j := 49) E hL rfl rfl (by decide) fw_X10_334 rfl rfl dX10_turnOf_107 ?_
  intro w49 hL
  exact J_X10_turnOf_110_ok E hL 
def L_X10_turnOf (a1 : Int32) (a2 : Int32) (w : wS) : Option (wS) :=
  xB (xAld w 16 66 ((a1 + 1))) fun v50 => xB (xAst w 20 6 (a2) (0)) fun w51 => if v50 = (-1) then J_X10_turnOf_110  (a1) (a2) (v50) w51 else xB (xGet w51 4) fun v52 => if v52 = (-1) then xB (xAld w51 16 66 (((a1 + 11) + v50))) fun v56 => xB (xDiv (v56) (2)) fun v57 => J_X10_turnOf_61  (a1) (a2) (v50) (a2) (v57) w51 else xB (xGet w51 4) fun v53 => xB2 (L_X10_asks (v53) (a1) (v50) (a2) w51) fun v54 w55 => J_X10_turnOf_61  (a1) (a2) (v50) (a2) (v54) w55
set_option maxRecDepth 20000 in
theorem C_X10_turnOf {G : aG} {Hf : wS → aH} {b : Nat} {a1 : Int32} {a2 : Int32} {w : wS} {r : wS} (E : Emb Hf b 0 tbM) (hL : L_X10_turnOf a1 a2 w = some r) : AC G M_X10_turnOf [.ref (b + 0), .int a1, .int a2] (Hf w) (.inl none, Hf r) := by
  unfold L_X10_turnOf at hL
  refine AC.of (by decide) rfl (Nat.le_of_ble_eq_true rfl) ?_
  show AG G M_X10_turnOf 0 [some (.ref (b + 0)), some (.int (a1)), some (.int (a2)), none, none, none] [] _ _
  refine g_aload_n dX10_turnOf_0 rfl rfl ?_
  refine s_getR (j := 41) E rfl rfl f_X10_69 dX10_turnOf_1 ?_
  refine g_iload_n dX10_turnOf_4 rfl rfl ?_
  refine g_iconst (v := 1) dX10_turnOf_5 (by decide) ?_
  refine g_iadd dX10_turnOf_6 ?_
  refine s_iald (k := 16) E hL rfl dX10_turnOf_7 ?_
  intro v50 hL
  refine g_istore_n (i := 3) dX10_turnOf_8 rfl (by decide) rfl ?_
  refine g_aload_n dX10_turnOf_9 rfl rfl ?_
  refine s_getR (j := 46) E rfl rfl f_X10_81 dX10_turnOf_10 ?_
  refine g_iload_n dX10_turnOf_13 rfl rfl ?_
  refine g_iconst (v := 0) dX10_turnOf_14 (by decide) ?_
  refine s_iast (k := 20) E hL rfl dX10_turnOf_15 ?_
  intro w51 hL
  refine g_iload_n dX10_turnOf_16 rfl rfl ?_
  refine g_iconst (v := (-1)) dX10_turnOf_17 (by decide) ?_
  refine g_icmp_eq (tgt := 110) dX10_turnOf_18 (by decide) (fun q59 => ?_) (fun q59 => ?_)
  · rw [if_pos q59] at hL
    exact J_X10_turnOf_110_ok E hL 
  · rw [if_neg q59] at hL
    refine g_aload_n dX10_turnOf_21 rfl rfl ?_
    refine s_getR (j := 46) E rfl rfl f_X10_81 dX10_turnOf_22 ?_
    refine g_iload_n dX10_turnOf_25 rfl rfl ?_
    refine g_aload_n dX10_turnOf_26 rfl rfl ?_
    refine s_getI (k := 0) (j := 4) E hL rfl rfl f_X10_13 dX10_turnOf_27 ?_
    intro v52 hL
    refine g_iconst (v := (-1)) dX10_turnOf_30 (by decide) ?_
    refine g_icmp_ne (tgt := 50) dX10_turnOf_31 (by decide) (fun q58 => ?_) (fun q58 => ?_)
    · rw [if_neg q58] at hL
      refine g_aload_n dX10_turnOf_50 rfl rfl ?_
      refine g_aload_n dX10_turnOf_51 rfl rfl ?_
      refine s_getI (k := 0) (j := 4) E hL rfl rfl f_X10_13 dX10_turnOf_52 ?_
      intro v53 hL
      refine g_iload_n dX10_turnOf_55 rfl rfl ?_
      refine g_iload_n dX10_turnOf_56 rfl rfl ?_
      refine g_iload_n dX10_turnOf_57 rfl rfl ?_
      obtain ⟨v54, w55, hc, hL⟩ := xB2_some hL
      refine g_callV (M' := M_X10_asks) (as := [.int (v53), .int (a1), .int (v50), .int (a2)]) (v := some (.int (v54))) l_X10_327 kV_X10_asks (by decide) (C_X10_asks E hc) rfl (by have := E.1; omega) (E.2.1 _ 0 _ rfl) ⟨_, _, rfl⟩ (Nat.le_of_ble_eq_true rfl) dX10_turnOf_58 ?_
      exact J_X10_turnOf_61_ok E hL 
    · rw [if_pos q58] at hL
      refine g_aload_n dX10_turnOf_34 rfl rfl ?_
      refine s_getR (j := 41) E rfl rfl f_X10_69 dX10_turnOf_35 ?_
      refine g_iload_n dX10_turnOf_38 rfl rfl ?_
      refine g_bipush (v := 11) dX10_turnOf_39 (by decide) ?_
      refine g_iadd dX10_turnOf_41 ?_
      refine g_iload_n dX10_turnOf_42 rfl rfl ?_
      refine g_iadd dX10_turnOf_43 ?_
      refine s_iald (k := 16) E hL rfl dX10_turnOf_44 ?_
      intro v56 hL
      refine g_iconst (v := 2) dX10_turnOf_45 (by decide) ?_
      refine s_idiv hL dX10_turnOf_46 ?_
      intro v57 hL
      refine g_goto (tgt := 61) dX10_turnOf_47 (by decide) ?_
      exact J_X10_turnOf_61_ok E hL 
def J_X10_dayGoes_87 (kh39 : Int32 → Int32 → wS → Option (wS)) (ke95 : Int32 → wS → Option (wS)) (x1 : Int32) (x2 : Int32) (y1 : Int32) (y2 : Int32) (y3 : Int32) (w : wS) : Option (wS) :=
  xB (xAst w 16 66 (y1) ((y2 - y3))) fun w1 => kh39 (x1) ((x2 + 1)) w1
set_option maxRecDepth 20000 in
theorem J_X10_dayGoes_87_ok {G : aG} {Hf : wS → aH} {b : Nat} {kh39 : Int32 → Int32 → wS → Option (wS)} {ke95 : Int32 → wS → Option (wS)} {x1 : Int32} {x2 : Int32} {y1 : Int32} {y2 : Int32} {y3 : Int32} {w : wS} {r : wS} (E : Emb Hf b 0 tbM) (hL : J_X10_dayGoes_87 kh39 ke95 x1 x2 y1 y2 y3 w = some r) (Hkh39 : ∀ (z0 : Int32) (z1 : Int32) (w : wS), kh39 z0 z1 w = some r → AG G M_X10_dayGoes 39 [some (.ref (b + 0)), some (.int (z0)), some (.int (z1))] [] (Hf w) (.inl none, Hf r)) (Hke95 : ∀ (z0 : Int32) (w : wS), ke95 z0 w = some r → AG G M_X10_dayGoes 95 [some (.ref (b + 0)), some (.int (z0)), none] [] (Hf w) (.inl none, Hf r)) : AG G M_X10_dayGoes 87 [some (.ref (b + 0)), some (.int (x1)), some (.int (x2))] [.int (y3), .int (y2), .int (y1), .ref (b + 16)] (Hf w) (.inl none, Hf r) := by
  unfold J_X10_dayGoes_87 at hL
  refine g_isub dX10_dayGoes_87 ?_
  refine s_iast (k := 16) E hL rfl dX10_dayGoes_88 ?_
  intro w1 hL
  refine g_iincV (v := (x2 + 1)) dX10_dayGoes_89 rfl rfl (by decide) rfl ?_
  refine g_goto (tgt := 39) dX10_dayGoes_92 (by decide) ?_
  exact Hkh39 _ _ _ hL
def J_X10_dayGoes_86 (kh39 : Int32 → Int32 → wS → Option (wS)) (ke95 : Int32 → wS → Option (wS)) (x1 : Int32) (x2 : Int32) (y1 : Int32) (y2 : Int32) (w : wS) : Option (wS) :=
  J_X10_dayGoes_87 kh39 ke95 (x1) (x2) (y1) (y2) (0) w
set_option maxRecDepth 20000 in
theorem J_X10_dayGoes_86_ok {G : aG} {Hf : wS → aH} {b : Nat} {kh39 : Int32 → Int32 → wS → Option (wS)} {ke95 : Int32 → wS → Option (wS)} {x1 : Int32} {x2 : Int32} {y1 : Int32} {y2 : Int32} {w : wS} {r : wS} (E : Emb Hf b 0 tbM) (hL : J_X10_dayGoes_86 kh39 ke95 x1 x2 y1 y2 w = some r) (Hkh39 : ∀ (z0 : Int32) (z1 : Int32) (w : wS), kh39 z0 z1 w = some r → AG G M_X10_dayGoes 39 [some (.ref (b + 0)), some (.int (z0)), some (.int (z1))] [] (Hf w) (.inl none, Hf r)) (Hke95 : ∀ (z0 : Int32) (w : wS), ke95 z0 w = some r → AG G M_X10_dayGoes 95 [some (.ref (b + 0)), some (.int (z0)), none] [] (Hf w) (.inl none, Hf r)) : AG G M_X10_dayGoes 86 [some (.ref (b + 0)), some (.int (x1)), some (.int (x2))] [.int (y2), .int (y1), .ref (b + 16)] (Hf w) (.inl none, Hf r) := by
  unfold J_X10_dayGoes_86 at hL
  refine g_iconst (v := 0) dX10_dayGoes_86 (by decide) ?_
  exact J_X10_dayGoes_87_ok E hL Hkh39 Hke95
def B_X10_dayGoes_39 (kh39 : Int32 → Int32 → wS → Option (wS)) (ke95 : Int32 → wS → Option (wS)) (x1 : Int32) (x2 : Int32) (w : wS) : Option (wS) :=
  xB (xGet w 1) fun v2 => if v2 ≤ x2 then ke95 (x1) w else xB (xAld w 16 66 (((x1 + 3) + x2))) fun v3 => xB (xGet w 49) fun v4 => if ((v4 >>> (x2 &&& 31)) &&& 1) = 0 then xB (xAld w 16 66 (((x1 + 3) + x2))) fun v5 => if v5 ≤ 0 then J_X10_dayGoes_86 kh39 ke95 (x1) (x2) (((x1 + 3) + x2)) (v3) w else J_X10_dayGoes_87 kh39 ke95 (x1) (x2) (((x1 + 3) + x2)) (v3) (1) w else J_X10_dayGoes_86 kh39 ke95 (x1) (x2) (((x1 + 3) + x2)) (v3) w
set_option maxRecDepth 20000 in
theorem B_X10_dayGoes_39_ok {G : aG} {Hf : wS → aH} {b : Nat} {kh39 : Int32 → Int32 → wS → Option (wS)} {ke95 : Int32 → wS → Option (wS)} {x1 : Int32} {x2 : Int32} {w : wS} {r : wS} (E : Emb Hf b 0 tbM) (hL : B_X10_dayGoes_39 kh39 ke95 x1 x2 w = some r) (Hkh39 : ∀ (z0 : Int32) (z1 : Int32) (w : wS), kh39 z0 z1 w = some r → AG G M_X10_dayGoes 39 [some (.ref (b + 0)), some (.int (z0)), some (.int (z1))] [] (Hf w) (.inl none, Hf r)) (Hke95 : ∀ (z0 : Int32) (w : wS), ke95 z0 w = some r → AG G M_X10_dayGoes 95 [some (.ref (b + 0)), some (.int (z0)), none] [] (Hf w) (.inl none, Hf r)) : AG G M_X10_dayGoes 39 [some (.ref (b + 0)), some (.int (x1)), some (.int (x2))] [] (Hf w) (.inl none, Hf r) := by
  unfold B_X10_dayGoes_39 at hL
  refine g_iload_n dX10_dayGoes_39 rfl rfl ?_
  refine g_aload_n dX10_dayGoes_40 rfl rfl ?_
  refine s_getI (k := 0) (j := 1) E hL rfl rfl f_X10_278 dX10_dayGoes_41 ?_
  intro v2 hL
  refine g_icmp_ge (tgt := 95) dX10_dayGoes_44 (by decide) (fun q8 => ?_) (fun q8 => ?_)
  · rw [if_pos q8] at hL
    refine g_none 2 ?_
    exact Hke95 _ _ hL
  · rw [if_neg q8] at hL
    refine g_aload_n dX10_dayGoes_47 rfl rfl ?_
    refine s_getR (j := 41) E rfl rfl f_X10_69 dX10_dayGoes_48 ?_
    refine g_iload_n dX10_dayGoes_51 rfl rfl ?_
    refine g_iconst (v := 3) dX10_dayGoes_52 (by decide) ?_
    refine g_iadd dX10_dayGoes_53 ?_
    refine g_iload_n dX10_dayGoes_54 rfl rfl ?_
    refine g_iadd dX10_dayGoes_55 ?_
    refine g_dup2 dX10_dayGoes_56 rfl rfl ?_
    refine s_iald (k := 16) E hL rfl dX10_dayGoes_57 ?_
    intro v3 hL
    refine g_aload_n dX10_dayGoes_58 rfl rfl ?_
    refine s_getI (k := 0) (j := 49) E hL rfl rfl f_X10_334 dX10_dayGoes_59 ?_
    intro v4 hL
    refine g_iload_n dX10_dayGoes_62 rfl rfl ?_
    refine g_ishr dX10_dayGoes_63 ?_
    refine g_iconst (v := 1) dX10_dayGoes_64 (by decide) ?_
    refine g_iand dX10_dayGoes_65 ?_
    refine g_if_ne (tgt := 86) dX10_dayGoes_66 (by decide) (fun q7 => ?_) (fun q7 => ?_)
    · rw [if_neg q7] at hL
      exact J_X10_dayGoes_86_ok E hL Hkh39 Hke95
    · rw [if_pos q7] at hL
      refine g_aload_n dX10_dayGoes_69 rfl rfl ?_
      refine s_getR (j := 41) E rfl rfl f_X10_69 dX10_dayGoes_70 ?_
      refine g_iload_n dX10_dayGoes_73 rfl rfl ?_
      refine g_iconst (v := 3) dX10_dayGoes_74 (by decide) ?_
      refine g_iadd dX10_dayGoes_75 ?_
      refine g_iload_n dX10_dayGoes_76 rfl rfl ?_
      refine g_iadd dX10_dayGoes_77 ?_
      refine s_iald (k := 16) E hL rfl dX10_dayGoes_78 ?_
      intro v5 hL
      refine g_if_le (tgt := 86) dX10_dayGoes_79 (by decide) (fun q6 => ?_) (fun q6 => ?_)
      · rw [if_pos q6] at hL
        exact J_X10_dayGoes_86_ok E hL Hkh39 Hke95
      · rw [if_neg q6] at hL
        refine g_iconst (v := 1) dX10_dayGoes_82 (by decide) ?_
        refine g_goto (tgt := 87) dX10_dayGoes_83 (by decide) ?_
        exact J_X10_dayGoes_87_ok E hL Hkh39 Hke95
def P_X10_dayGoes_39 (ke95 : Int32 → wS → Option (wS)) (n : Nat) (x1 : Int32) (x2 : Int32) (w : wS) : Option (wS) :=
  xLoop (fun (kk : Int32 × Int32 × wS → Option (wS)) σ => B_X10_dayGoes_39 (fun x1 x2 w => kk (x1, x2, w)) ke95 (σ.1) (σ.2.1) (σ.2.2)) n (x1, x2, w)
theorem P_X10_dayGoes_39_ok {G : aG} {Hf : wS → aH} {b : Nat} {ke95 : Int32 → wS → Option (wS)} {n : Nat} {x1 : Int32} {x2 : Int32} {w : wS} {r : wS} (E : Emb Hf b 0 tbM) (hL : P_X10_dayGoes_39 ke95 n x1 x2 w = some r) (Hke95 : ∀ (z0 : Int32) (w : wS), ke95 z0 w = some r → AG G M_X10_dayGoes 95 [some (.ref (b + 0)), some (.int (z0)), none] [] (Hf w) (.inl none, Hf r)) : AG G M_X10_dayGoes 39 [some (.ref (b + 0)), some (.int (x1)), some (.int (x2))] [] (Hf w) (.inl none, Hf r) :=
  xLoop_ok (Q := fun (σ : Int32 × Int32 × wS) => AG G M_X10_dayGoes 39 [some (.ref (b + 0)), some (.int (σ.1)), some (.int (σ.2.1))] [] (Hf σ.2.2) (.inl none, Hf r)) (fun kk hk σ hσ => B_X10_dayGoes_39_ok E hσ (fun x1 x2 w h9 => hk (x1, x2, w) h9) Hke95) n (x1, x2, w) hL
def B_X10_dayGoes_17 (kh17 : Int32 → Int32 → wS → Option (wS)) (ke37 : Int32 → wS → Option (wS)) (x1 : Int32) (x2 : Int32) (w : wS) : Option (wS) :=
  xB (xGet w 2) fun v9 => if v9 ≤ x2 then ke37 (x1) w else xB (L_X10_turnOf (x1) (x2) w) fun w10 => kh17 (x1) ((x2 + 1)) w10
set_option maxRecDepth 20000 in
theorem B_X10_dayGoes_17_ok {G : aG} {Hf : wS → aH} {b : Nat} {kh17 : Int32 → Int32 → wS → Option (wS)} {ke37 : Int32 → wS → Option (wS)} {x1 : Int32} {x2 : Int32} {w : wS} {r : wS} (E : Emb Hf b 0 tbM) (hL : B_X10_dayGoes_17 kh17 ke37 x1 x2 w = some r) (Hkh17 : ∀ (z0 : Int32) (z1 : Int32) (w : wS), kh17 z0 z1 w = some r → AG G M_X10_dayGoes 17 [some (.ref (b + 0)), some (.int (z0)), some (.int (z1))] [] (Hf w) (.inl none, Hf r)) (Hke37 : ∀ (z0 : Int32) (w : wS), ke37 z0 w = some r → AG G M_X10_dayGoes 37 [some (.ref (b + 0)), some (.int (z0)), none] [] (Hf w) (.inl none, Hf r)) : AG G M_X10_dayGoes 17 [some (.ref (b + 0)), some (.int (x1)), some (.int (x2))] [] (Hf w) (.inl none, Hf r) := by
  unfold B_X10_dayGoes_17 at hL
  refine g_iload_n dX10_dayGoes_17 rfl rfl ?_
  refine g_aload_n dX10_dayGoes_18 rfl rfl ?_
  refine s_getI (k := 0) (j := 2) E hL rfl rfl f_X10_281 dX10_dayGoes_19 ?_
  intro v9 hL
  refine g_icmp_ge (tgt := 37) dX10_dayGoes_22 (by decide) (fun q11 => ?_) (fun q11 => ?_)
  · rw [if_pos q11] at hL
    refine g_none 2 ?_
    exact Hke37 _ _ hL
  · rw [if_neg q11] at hL
    refine g_aload_n dX10_dayGoes_25 rfl rfl ?_
    refine g_iload_n dX10_dayGoes_26 rfl rfl ?_
    refine g_iload_n dX10_dayGoes_27 rfl rfl ?_
    obtain ⟨w10, hc, hL⟩ := xB_some hL
    refine g_callV (M' := M_X10_turnOf) (as := [.int (x1), .int (x2)]) (v := none) l_X10_354 kV_X10_turnOf (by decide) (C_X10_turnOf E hc) rfl (by have := E.1; omega) (E.2.1 _ 0 _ rfl) ⟨_, _, rfl⟩ (Nat.le_of_ble_eq_true rfl) dX10_dayGoes_28 ?_
    refine g_iincV (v := (x2 + 1)) dX10_dayGoes_31 rfl rfl (by decide) rfl ?_
    refine g_goto (tgt := 17) dX10_dayGoes_34 (by decide) ?_
    exact Hkh17 _ _ _ hL
def P_X10_dayGoes_17 (ke37 : Int32 → wS → Option (wS)) (n : Nat) (x1 : Int32) (x2 : Int32) (w : wS) : Option (wS) :=
  xLoop (fun (kk : Int32 × Int32 × wS → Option (wS)) σ => B_X10_dayGoes_17 (fun x1 x2 w => kk (x1, x2, w)) ke37 (σ.1) (σ.2.1) (σ.2.2)) n (x1, x2, w)
theorem P_X10_dayGoes_17_ok {G : aG} {Hf : wS → aH} {b : Nat} {ke37 : Int32 → wS → Option (wS)} {n : Nat} {x1 : Int32} {x2 : Int32} {w : wS} {r : wS} (E : Emb Hf b 0 tbM) (hL : P_X10_dayGoes_17 ke37 n x1 x2 w = some r) (Hke37 : ∀ (z0 : Int32) (w : wS), ke37 z0 w = some r → AG G M_X10_dayGoes 37 [some (.ref (b + 0)), some (.int (z0)), none] [] (Hf w) (.inl none, Hf r)) : AG G M_X10_dayGoes 17 [some (.ref (b + 0)), some (.int (x1)), some (.int (x2))] [] (Hf w) (.inl none, Hf r) :=
  xLoop_ok (Q := fun (σ : Int32 × Int32 × wS) => AG G M_X10_dayGoes 17 [some (.ref (b + 0)), some (.int (σ.1)), some (.int (σ.2.1))] [] (Hf σ.2.2) (.inl none, Hf r)) (fun kk hk σ hσ => B_X10_dayGoes_17_ok E hσ (fun x1 x2 w h9 => hk (x1, x2, w) h9) Hke37) n (x1, x2, w) hL
def L_X10_dayGoes (a1 : Int32) (w : wS) : Option (wS) :=
  xB (xPut w 49 (0)) fun w12 => xB (xPut w12 50 (0)) fun w13 => xB (xPut w13 51 (0)) fun w14 => P_X10_dayGoes_17 (fun z15 w16 => P_X10_dayGoes_39 (fun z17 w18 => xB (xAld w18 16 66 ((z17 + 0))) fun v19 => xB (xAst w18 16 66 ((z17 + 0)) ((v19 + 1))) fun w20 => some w20) 5000 (z15) (0) w16) 5000 (a1) (0) w14
set_option maxRecDepth 20000 in
theorem C_X10_dayGoes {G : aG} {Hf : wS → aH} {b : Nat} {a1 : Int32} {w : wS} {r : wS} (E : Emb Hf b 0 tbM) (hL : L_X10_dayGoes a1 w = some r) : AC G M_X10_dayGoes [.ref (b + 0), .int a1] (Hf w) (.inl none, Hf r) := by
  unfold L_X10_dayGoes at hL
  refine AC.of (by decide) rfl (Nat.le_of_ble_eq_true rfl) ?_
  show AG G M_X10_dayGoes 0 [some (.ref (b + 0)), some (.int (a1)), none] [] _ _
  refine g_aload_n dX10_dayGoes_0 rfl rfl ?_
  refine g_iconst (v := 0) dX10_dayGoes_1 (by decide) ?_
  refine s_putI (k := 0) (j := 49) E hL rfl rfl (by decide) fw_X10_334 rfl rfl dX10_dayGoes_2 ?_
  intro w12 hL
  refine g_aload_n dX10_dayGoes_5 rfl rfl ?_
  refine g_iconst (v := 0) dX10_dayGoes_6 (by decide) ?_
  refine s_putI (k := 0) (j := 50) E hL rfl rfl (by decide) fw_X10_351 rfl rfl dX10_dayGoes_7 ?_
  intro w13 hL
  refine g_aload_n dX10_dayGoes_10 rfl rfl ?_
  refine g_iconst (v := 0) dX10_dayGoes_11 (by decide) ?_
  refine s_putI (k := 0) (j := 51) E hL rfl rfl (by decide) fw_X10_337 rfl rfl dX10_dayGoes_12 ?_
  intro w14 hL
  refine g_iconst (v := 0) dX10_dayGoes_15 (by decide) ?_
  refine g_istore_n (i := 2) dX10_dayGoes_16 rfl (by decide) rfl ?_
  refine P_X10_dayGoes_17_ok E hL ?_
  · intro z15 w16 hL
    refine g_iconst (v := 0) dX10_dayGoes_37 (by decide) ?_
    refine g_istore_n (i := 2) dX10_dayGoes_38 rfl (by decide) rfl ?_
    refine P_X10_dayGoes_39_ok E hL ?_
    · intro z17 w18 hL
      refine g_aload_n dX10_dayGoes_95 rfl rfl ?_
      refine g_none 0 ?_
      refine s_getR (j := 41) E rfl rfl f_X10_69 dX10_dayGoes_96 ?_
      refine g_iload_n dX10_dayGoes_99 rfl rfl ?_
      refine g_none 1 ?_
      refine g_iconst (v := 0) dX10_dayGoes_100 (by decide) ?_
      refine g_iadd dX10_dayGoes_101 ?_
      refine g_dup2 dX10_dayGoes_102 rfl rfl ?_
      refine s_iald (k := 16) E hL rfl dX10_dayGoes_103 ?_
      intro v19 hL
      refine g_iconst (v := 1) dX10_dayGoes_104 (by decide) ?_
      refine g_iadd dX10_dayGoes_105 ?_
      refine s_iast (k := 16) E hL rfl dX10_dayGoes_106 ?_
      intro w20 hL
      obtain rfl := Option.some.inj hL
      exact g_vret rfl dX10_dayGoes_107
def B_X10_daysGo_2 (kh2 : Int32 → Int32 → wS → Option (wS)) (ke19 : wS → Option (wS)) (x1 : Int32) (x2 : Int32) (w : wS) : Option (wS) :=
  if x1 ≤ x2 then ke19  w else xB (L_X10_dayGoes (33) w) fun w1 => kh2 (x1) ((x2 + 1)) w1
set_option maxRecDepth 20000 in
theorem B_X10_daysGo_2_ok {G : aG} {Hf : wS → aH} {b : Nat} {kh2 : Int32 → Int32 → wS → Option (wS)} {ke19 : wS → Option (wS)} {x1 : Int32} {x2 : Int32} {w : wS} {r : wS} (E : Emb Hf b 0 tbM) (hL : B_X10_daysGo_2 kh2 ke19 x1 x2 w = some r) (Hkh2 : ∀ (z0 : Int32) (z1 : Int32) (w : wS), kh2 z0 z1 w = some r → AG G M_X10_daysGo 2 [some (.ref (b + 0)), some (.int (z0)), some (.int (z1))] [] (Hf w) (.inl none, Hf r)) (Hke19 : ∀ (w : wS), ke19  w = some r → AG G M_X10_daysGo 19 [none, none, none] [] (Hf w) (.inl none, Hf r)) : AG G M_X10_daysGo 2 [some (.ref (b + 0)), some (.int (x1)), some (.int (x2))] [] (Hf w) (.inl none, Hf r) := by
  unfold B_X10_daysGo_2 at hL
  refine g_iload_n dX10_daysGo_2 rfl rfl ?_
  refine g_iload_n dX10_daysGo_3 rfl rfl ?_
  refine g_icmp_ge (tgt := 19) dX10_daysGo_4 (by decide) (fun q2 => ?_) (fun q2 => ?_)
  · rw [if_pos q2] at hL
    refine g_none 0 ?_
    refine g_none 1 ?_
    refine g_none 2 ?_
    exact Hke19  _ hL
  · rw [if_neg q2] at hL
    refine g_aload_n dX10_daysGo_7 rfl rfl ?_
    refine g_bipush (v := 33) dX10_daysGo_8 (by decide) ?_
    obtain ⟨w1, hc, hL⟩ := xB_some hL
    refine g_callV (M' := M_X10_dayGoes) (as := [.int (33)]) (v := none) l_X10_358 kV_X10_dayGoes (by decide) (C_X10_dayGoes E hc) rfl (by have := E.1; omega) (E.2.1 _ 0 _ rfl) ⟨_, _, rfl⟩ (Nat.le_of_ble_eq_true rfl) dX10_daysGo_10 ?_
    refine g_iincV (v := (x2 + 1)) dX10_daysGo_13 rfl rfl (by decide) rfl ?_
    refine g_goto (tgt := 2) dX10_daysGo_16 (by decide) ?_
    exact Hkh2 _ _ _ hL
def P_X10_daysGo_2 (ke19 : wS → Option (wS)) (n : Nat) (x1 : Int32) (x2 : Int32) (w : wS) : Option (wS) :=
  xLoop (fun (kk : Int32 × Int32 × wS → Option (wS)) σ => B_X10_daysGo_2 (fun x1 x2 w => kk (x1, x2, w)) ke19 (σ.1) (σ.2.1) (σ.2.2)) n (x1, x2, w)
theorem P_X10_daysGo_2_ok {G : aG} {Hf : wS → aH} {b : Nat} {ke19 : wS → Option (wS)} {n : Nat} {x1 : Int32} {x2 : Int32} {w : wS} {r : wS} (E : Emb Hf b 0 tbM) (hL : P_X10_daysGo_2 ke19 n x1 x2 w = some r) (Hke19 : ∀ (w : wS), ke19  w = some r → AG G M_X10_daysGo 19 [none, none, none] [] (Hf w) (.inl none, Hf r)) : AG G M_X10_daysGo 2 [some (.ref (b + 0)), some (.int (x1)), some (.int (x2))] [] (Hf w) (.inl none, Hf r) :=
  xLoop_ok (Q := fun (σ : Int32 × Int32 × wS) => AG G M_X10_daysGo 2 [some (.ref (b + 0)), some (.int (σ.1)), some (.int (σ.2.1))] [] (Hf σ.2.2) (.inl none, Hf r)) (fun kk hk σ hσ => B_X10_daysGo_2_ok E hσ (fun x1 x2 w h9 => hk (x1, x2, w) h9) Hke19) n (x1, x2, w) hL
def L_X10_daysGo (a1 : Int32) (w : wS) : Option (wS) :=
  P_X10_daysGo_2 (fun w3 => some w3) 5000 (a1) (0) w
set_option maxRecDepth 20000 in
theorem C_X10_daysGo {G : aG} {Hf : wS → aH} {b : Nat} {a1 : Int32} {w : wS} {r : wS} (E : Emb Hf b 0 tbM) (hL : L_X10_daysGo a1 w = some r) : AC G M_X10_daysGo [.ref (b + 0), .int a1] (Hf w) (.inl none, Hf r) := by
  unfold L_X10_daysGo at hL
  refine AC.of (by decide) rfl (Nat.le_of_ble_eq_true rfl) ?_
  show AG G M_X10_daysGo 0 [some (.ref (b + 0)), some (.int (a1)), none] [] _ _
  refine g_iconst (v := 0) dX10_daysGo_0 (by decide) ?_
  refine g_istore_n (i := 2) dX10_daysGo_1 rfl (by decide) rfl ?_
  refine P_X10_daysGo_2_ok E hL ?_
  · intro w3 hL
    obtain rfl := Option.some.inj hL
    exact g_vret rfl dX10_daysGo_19
def B_X10_hasteOf_4 (kh4 : Int32 → Int32 → Int32 → wS → Option (Int32 × wS)) (ke31 : Int32 → wS → Option (Int32 × wS)) (x1 : Int32) (x2 : Int32) (x3 : Int32) (w : wS) : Option (Int32 × wS) :=
  xB (xGet w 1) fun v1 => if v1 ≤ x3 then ke31 (x2) w else xB (xAld w 16 66 (((x1 + 3) + x3))) fun v2 => kh4 (x1) ((x2 + v2)) ((x3 + 1)) w
set_option maxRecDepth 20000 in
theorem B_X10_hasteOf_4_ok {G : aG} {Hf : wS → aH} {b : Nat} {kh4 : Int32 → Int32 → Int32 → wS → Option (Int32 × wS)} {ke31 : Int32 → wS → Option (Int32 × wS)} {x1 : Int32} {x2 : Int32} {x3 : Int32} {w : wS} {r : Int32 × wS} (E : Emb Hf b 0 tbM) (hL : B_X10_hasteOf_4 kh4 ke31 x1 x2 x3 w = some r) (Hkh4 : ∀ (z0 : Int32) (z1 : Int32) (z2 : Int32) (w : wS), kh4 z0 z1 z2 w = some r → AG G M_X10_hasteOf 4 [some (.ref (b + 0)), some (.int (z0)), some (.int (z1)), some (.int (z2))] [] (Hf w) (.inl (some (.int r.1)), Hf r.2)) (Hke31 : ∀ (z0 : Int32) (w : wS), ke31 z0 w = some r → AG G M_X10_hasteOf 31 [none, none, some (.int (z0)), none] [] (Hf w) (.inl (some (.int r.1)), Hf r.2)) : AG G M_X10_hasteOf 4 [some (.ref (b + 0)), some (.int (x1)), some (.int (x2)), some (.int (x3))] [] (Hf w) (.inl (some (.int r.1)), Hf r.2) := by
  unfold B_X10_hasteOf_4 at hL
  refine g_iload_n dX10_hasteOf_4 rfl rfl ?_
  refine g_aload_n dX10_hasteOf_5 rfl rfl ?_
  refine s_getI (k := 0) (j := 1) E hL rfl rfl f_X10_278 dX10_hasteOf_6 ?_
  intro v1 hL
  refine g_icmp_ge (tgt := 31) dX10_hasteOf_9 (by decide) (fun q3 => ?_) (fun q3 => ?_)
  · rw [if_pos q3] at hL
    refine g_none 0 ?_
    refine g_none 1 ?_
    refine g_none 3 ?_
    exact Hke31 _ _ hL
  · rw [if_neg q3] at hL
    refine g_iload_n dX10_hasteOf_12 rfl rfl ?_
    refine g_none 2 ?_
    refine g_aload_n dX10_hasteOf_13 rfl rfl ?_
    refine s_getR (j := 41) E rfl rfl f_X10_69 dX10_hasteOf_14 ?_
    refine g_iload_n dX10_hasteOf_17 rfl rfl ?_
    refine g_iconst (v := 3) dX10_hasteOf_18 (by decide) ?_
    refine g_iadd dX10_hasteOf_19 ?_
    refine g_iload_n dX10_hasteOf_20 rfl rfl ?_
    refine g_iadd dX10_hasteOf_21 ?_
    refine s_iald (k := 16) E hL rfl dX10_hasteOf_22 ?_
    intro v2 hL
    refine g_iadd dX10_hasteOf_23 ?_
    refine g_istore_n (i := 2) dX10_hasteOf_24 rfl (by decide) rfl ?_
    refine g_iincV (v := (x3 + 1)) dX10_hasteOf_25 rfl rfl (by decide) rfl ?_
    refine g_goto (tgt := 4) dX10_hasteOf_28 (by decide) ?_
    exact Hkh4 _ _ _ _ hL
def P_X10_hasteOf_4 (ke31 : Int32 → wS → Option (Int32 × wS)) (n : Nat) (x1 : Int32) (x2 : Int32) (x3 : Int32) (w : wS) : Option (Int32 × wS) :=
  xLoop (fun (kk : Int32 × Int32 × Int32 × wS → Option (Int32 × wS)) σ => B_X10_hasteOf_4 (fun x1 x2 x3 w => kk (x1, x2, x3, w)) ke31 (σ.1) (σ.2.1) (σ.2.2.1) (σ.2.2.2)) n (x1, x2, x3, w)
theorem P_X10_hasteOf_4_ok {G : aG} {Hf : wS → aH} {b : Nat} {ke31 : Int32 → wS → Option (Int32 × wS)} {n : Nat} {x1 : Int32} {x2 : Int32} {x3 : Int32} {w : wS} {r : Int32 × wS} (E : Emb Hf b 0 tbM) (hL : P_X10_hasteOf_4 ke31 n x1 x2 x3 w = some r) (Hke31 : ∀ (z0 : Int32) (w : wS), ke31 z0 w = some r → AG G M_X10_hasteOf 31 [none, none, some (.int (z0)), none] [] (Hf w) (.inl (some (.int r.1)), Hf r.2)) : AG G M_X10_hasteOf 4 [some (.ref (b + 0)), some (.int (x1)), some (.int (x2)), some (.int (x3))] [] (Hf w) (.inl (some (.int r.1)), Hf r.2) :=
  xLoop_ok (Q := fun (σ : Int32 × Int32 × Int32 × wS) => AG G M_X10_hasteOf 4 [some (.ref (b + 0)), some (.int (σ.1)), some (.int (σ.2.1)), some (.int (σ.2.2.1))] [] (Hf σ.2.2.2) (.inl (some (.int r.1)), Hf r.2)) (fun kk hk σ hσ => B_X10_hasteOf_4_ok E hσ (fun x1 x2 x3 w h9 => hk (x1, x2, x3, w) h9) Hke31) n (x1, x2, x3, w) hL
def L_X10_hasteOf (a1 : Int32) (w : wS) : Option (Int32 × wS) :=
  P_X10_hasteOf_4 (fun z4 w5 => some (z4, w5)) 5000 (a1) (0) (0) w
set_option maxRecDepth 20000 in
theorem C_X10_hasteOf {G : aG} {Hf : wS → aH} {b : Nat} {a1 : Int32} {w : wS} {r : Int32 × wS} (E : Emb Hf b 0 tbM) (hL : L_X10_hasteOf a1 w = some r) : AC G M_X10_hasteOf [.ref (b + 0), .int a1] (Hf w) (.inl (some (.int r.1)), Hf r.2) := by
  unfold L_X10_hasteOf at hL
  refine AC.of (by decide) rfl (Nat.le_of_ble_eq_true rfl) ?_
  show AG G M_X10_hasteOf 0 [some (.ref (b + 0)), some (.int (a1)), none, none] [] _ _
  refine g_iconst (v := 0) dX10_hasteOf_0 (by decide) ?_
  refine g_istore_n (i := 2) dX10_hasteOf_1 rfl (by decide) rfl ?_
  refine g_iconst (v := 0) dX10_hasteOf_2 (by decide) ?_
  refine g_istore_n (i := 3) dX10_hasteOf_3 rfl (by decide) rfl ?_
  refine P_X10_hasteOf_4_ok E hL ?_
  · intro z4 w5 hL
    refine g_iload_n dX10_hasteOf_31 rfl rfl ?_
    refine g_none 2 ?_
    obtain rfl := Option.some.inj hL
    exact g_iret rfl dX10_hasteOf_32
def L_X10_count (a1 : Int32) (w : wS) : Option (Int32 × wS) :=
  xB (xPut w 0 (0)) fun w1 => xB (L_X10_within (a1) (0) (12)) fun v2 => xB2 (L_X10_right (v2) (1) w1) fun v3 w4 => if v3 = 0 then some (0, w4) else if a1 = 0 then xB (xGet w4 1) fun v6 => some (v6, w4) else if a1 = 1 then xB (xGet w4 2) fun v8 => some (v8, w4) else if a1 = 2 then xB (xGet w4 3) fun v10 => some (v10, w4) else if a1 = 3 then xB (xAld w4 16 66 (0)) fun v12 => some (v12, w4) else if a1 = 4 then xB (xAld w4 16 66 (1)) fun v14 => some (v14, w4) else if a1 = 5 then xB (xAld w4 16 66 (2)) fun v16 => some (v16, w4) else if a1 = 6 then xB2 (L_X10_hasteOf (0) w4) fun v18 w19 => some (v18, w19) else if a1 = 7 then xB (xGet w4 43) fun v21 => some (v21, w4) else if a1 = 8 then xB (xGet w4 58) fun v23 => some (v23, w4) else if a1 = 9 then xB (xGet w4 12) fun v25 => some (v25, w4) else xB (xAld w4 7 3 ((a1 - 10))) fun v26 => some (v26, w4)
set_option maxRecDepth 20000 in
theorem C_X10_count {G : aG} {Hf : wS → aH} {b : Nat} {a1 : Int32} {w : wS} {r : Int32 × wS} (E : Emb Hf b 0 tbM) (hL : L_X10_count a1 w = some r) : AC G M_X10_count [.ref (b + 0), .int a1] (Hf w) (.inl (some (.int r.1)), Hf r.2) := by
  unfold L_X10_count at hL
  refine AC.of (by decide) rfl (Nat.le_of_ble_eq_true rfl) ?_
  show AG G M_X10_count 0 [some (.ref (b + 0)), some (.int (a1))] [] _ _
  refine g_aload_n dX10_count_0 rfl rfl ?_
  refine g_iconst (v := 0) dX10_count_1 (by decide) ?_
  refine s_putI (k := 0) (j := 0) E hL rfl rfl (by decide) fw_X10_120 rfl rfl dX10_count_2 ?_
  intro w1 hL
  refine g_aload_n dX10_count_5 rfl rfl ?_
  refine g_iload_n dX10_count_6 rfl rfl ?_
  refine g_iconst (v := 0) dX10_count_7 (by decide) ?_
  refine g_bipush (v := 12) dX10_count_8 (by decide) ?_
  obtain ⟨v2, hc, hL⟩ := xB_some hL
  refine g_callS (M' := M_X10_within) (as := [.int (a1), .int (0), .int (12)]) (v := some (.int (v2))) l_X10_361 kS_X10_within (by decide) (C_X10_within hc) rfl (Nat.le_of_ble_eq_true rfl) dX10_count_10 ?_
  refine g_iconst (v := 1) dX10_count_13 (by decide) ?_
  obtain ⟨v3, w4, hc, hL⟩ := xB2_some hL
  refine g_callV (M' := M_X10_right) (as := [.int (v2), .int (1)]) (v := some (.int (v3))) l_X10_271 kV_X10_right (by decide) (C_X10_right E hc) rfl (by have := E.1; omega) (E.2.1 _ 0 _ rfl) ⟨_, _, rfl⟩ (Nat.le_of_ble_eq_true rfl) dX10_count_14 ?_
  refine g_if_ne (tgt := 22) dX10_count_17 (by decide) (fun q27 => ?_) (fun q27 => ?_)
  · rw [if_neg q27] at hL
    refine g_iload_n dX10_count_22 rfl rfl ?_
    by_cases q5 : a1 = 0
    · rw [if_pos q5] at hL
      refine g_tableIn (off := 53) (tgt := 76) dX10_count_23 (by rw [q5]; decide) (by rw [q5]; decide) (by rw [q5]; decide +kernel) (by decide) ?_
      refine g_none 1 ?_
      refine g_aload_n dX10_count_76 rfl rfl ?_
      refine g_none 0 ?_
      refine s_getI (k := 0) (j := 1) E hL rfl rfl f_X10_278 dX10_count_77 ?_
      intro v6 hL
      obtain rfl := Option.some.inj hL
      exact g_iret rfl dX10_count_80
    rw [if_neg q5] at hL
    by_cases q7 : a1 = 1
    · rw [if_pos q7] at hL
      refine g_tableIn (off := 58) (tgt := 81) dX10_count_23 (by rw [q7]; decide) (by rw [q7]; decide) (by rw [q7]; decide +kernel) (by decide) ?_
      refine g_none 1 ?_
      refine g_aload_n dX10_count_81 rfl rfl ?_
      refine g_none 0 ?_
      refine s_getI (k := 0) (j := 2) E hL rfl rfl f_X10_281 dX10_count_82 ?_
      intro v8 hL
      obtain rfl := Option.some.inj hL
      exact g_iret rfl dX10_count_85
    rw [if_neg q7] at hL
    by_cases q9 : a1 = 2
    · rw [if_pos q9] at hL
      refine g_tableIn (off := 63) (tgt := 86) dX10_count_23 (by rw [q9]; decide) (by rw [q9]; decide) (by rw [q9]; decide +kernel) (by decide) ?_
      refine g_none 1 ?_
      refine g_aload_n dX10_count_86 rfl rfl ?_
      refine g_none 0 ?_
      refine s_getI (k := 0) (j := 3) E hL rfl rfl f_X10_7 dX10_count_87 ?_
      intro v10 hL
      obtain rfl := Option.some.inj hL
      exact g_iret rfl dX10_count_90
    rw [if_neg q9] at hL
    by_cases q11 : a1 = 3
    · rw [if_pos q11] at hL
      refine g_tableIn (off := 68) (tgt := 91) dX10_count_23 (by rw [q11]; decide) (by rw [q11]; decide) (by rw [q11]; decide +kernel) (by decide) ?_
      refine g_none 1 ?_
      refine g_aload_n dX10_count_91 rfl rfl ?_
      refine g_none 0 ?_
      refine s_getR (j := 41) E rfl rfl f_X10_69 dX10_count_92 ?_
      refine g_iconst (v := 0) dX10_count_95 (by decide) ?_
      refine s_iald (k := 16) E hL rfl dX10_count_96 ?_
      intro v12 hL
      obtain rfl := Option.some.inj hL
      exact g_iret rfl dX10_count_97
    rw [if_neg q11] at hL
    by_cases q13 : a1 = 4
    · rw [if_pos q13] at hL
      refine g_tableIn (off := 75) (tgt := 98) dX10_count_23 (by rw [q13]; decide) (by rw [q13]; decide) (by rw [q13]; decide +kernel) (by decide) ?_
      refine g_none 1 ?_
      refine g_aload_n dX10_count_98 rfl rfl ?_
      refine g_none 0 ?_
      refine s_getR (j := 41) E rfl rfl f_X10_69 dX10_count_99 ?_
      refine g_iconst (v := 1) dX10_count_102 (by decide) ?_
      refine s_iald (k := 16) E hL rfl dX10_count_103 ?_
      intro v14 hL
      obtain rfl := Option.some.inj hL
      exact g_iret rfl dX10_count_104
    rw [if_neg q13] at hL
    by_cases q15 : a1 = 5
    · rw [if_pos q15] at hL
      refine g_tableIn (off := 82) (tgt := 105) dX10_count_23 (by rw [q15]; decide) (by rw [q15]; decide) (by rw [q15]; decide +kernel) (by decide) ?_
      refine g_none 1 ?_
      refine g_aload_n dX10_count_105 rfl rfl ?_
      refine g_none 0 ?_
      refine s_getR (j := 41) E rfl rfl f_X10_69 dX10_count_106 ?_
      refine g_iconst (v := 2) dX10_count_109 (by decide) ?_
      refine s_iald (k := 16) E hL rfl dX10_count_110 ?_
      intro v16 hL
      obtain rfl := Option.some.inj hL
      exact g_iret rfl dX10_count_111
    rw [if_neg q15] at hL
    by_cases q17 : a1 = 6
    · rw [if_pos q17] at hL
      refine g_tableIn (off := 89) (tgt := 112) dX10_count_23 (by rw [q17]; decide) (by rw [q17]; decide) (by rw [q17]; decide +kernel) (by decide) ?_
      refine g_none 1 ?_
      refine g_aload_n dX10_count_112 rfl rfl ?_
      refine g_none 0 ?_
      refine g_iconst (v := 0) dX10_count_113 (by decide) ?_
      obtain ⟨v18, w19, hc, hL⟩ := xB2_some hL
      refine g_callV (M' := M_X10_hasteOf) (as := [.int (0)]) (v := some (.int (v18))) l_X10_364 kV_X10_hasteOf (by decide) (C_X10_hasteOf E hc) rfl (by have := E.1; omega) (E.2.1 _ 0 _ rfl) ⟨_, _, rfl⟩ (Nat.le_of_ble_eq_true rfl) dX10_count_114 ?_
      obtain rfl := Option.some.inj hL
      exact g_iret rfl dX10_count_117
    rw [if_neg q17] at hL
    by_cases q20 : a1 = 7
    · rw [if_pos q20] at hL
      refine g_tableIn (off := 95) (tgt := 118) dX10_count_23 (by rw [q20]; decide) (by rw [q20]; decide) (by rw [q20]; decide +kernel) (by decide) ?_
      refine g_none 1 ?_
      refine g_aload_n dX10_count_118 rfl rfl ?_
      refine g_none 0 ?_
      refine s_getI (k := 0) (j := 43) E hL rfl rfl f_X10_288 dX10_count_119 ?_
      intro v21 hL
      obtain rfl := Option.some.inj hL
      exact g_iret rfl dX10_count_122
    rw [if_neg q20] at hL
    by_cases q22 : a1 = 8
    · rw [if_pos q22] at hL
      refine g_tableIn (off := 100) (tgt := 123) dX10_count_23 (by rw [q22]; decide) (by rw [q22]; decide) (by rw [q22]; decide +kernel) (by decide) ?_
      refine g_none 1 ?_
      refine g_aload_n dX10_count_123 rfl rfl ?_
      refine g_none 0 ?_
      refine s_getI (k := 0) (j := 58) E hL rfl rfl f_X10_291 dX10_count_124 ?_
      intro v23 hL
      obtain rfl := Option.some.inj hL
      exact g_iret rfl dX10_count_127
    rw [if_neg q22] at hL
    by_cases q24 : a1 = 9
    · rw [if_pos q24] at hL
      refine g_tableIn (off := 105) (tgt := 128) dX10_count_23 (by rw [q24]; decide) (by rw [q24]; decide) (by rw [q24]; decide +kernel) (by decide) ?_
      refine g_none 1 ?_
      refine g_aload_n dX10_count_128 rfl rfl ?_
      refine g_none 0 ?_
      refine s_getI (k := 0) (j := 12) E hL rfl rfl f_X10_123 dX10_count_129 ?_
      intro v25 hL
      obtain rfl := Option.some.inj hL
      exact g_iret rfl dX10_count_132
    rw [if_neg q24] at hL
    refine g_tableOut (tgt := 133) dX10_count_23 (i32_out (x := a1) (0) (9) (fun z hz1 hz2 => ?_)) (by decide) ?_
    · rcases (show z = 0 ∨ z = 1 ∨ z = 2 ∨ z = 3 ∨ z = 4 ∨ z = 5 ∨ z = 6 ∨ z = 7 ∨ z = 8 ∨ z = 9 by omega) with rfl | rfl | rfl | rfl | rfl | rfl | rfl | rfl | rfl | rfl
      · exact q5
      · exact q7
      · exact q9
      · exact q11
      · exact q13
      · exact q15
      · exact q17
      · exact q20
      · exact q22
      · exact q24
    · refine g_aload_n dX10_count_133 rfl rfl ?_
      refine g_none 0 ?_
      refine s_getR (j := 15) E rfl rfl f_X10_41 dX10_count_134 ?_
      refine g_iload_n dX10_count_137 rfl rfl ?_
      refine g_none 1 ?_
      refine g_bipush (v := 10) dX10_count_138 (by decide) ?_
      refine g_isub dX10_count_140 ?_
      refine s_iald (k := 7) E hL rfl dX10_count_141 ?_
      intro v26 hL
      obtain rfl := Option.some.inj hL
      exact g_iret rfl dX10_count_142
  · rw [if_pos q27] at hL
    refine g_none 0 ?_
    refine g_none 1 ?_
    refine g_iconst (v := 0) dX10_count_20 (by decide) ?_
    obtain rfl := Option.some.inj hL
    exact g_iret rfl dX10_count_21
def J_X10_isPerson_18 (y1 : Int32) (w : wS) : Option (Int32 × wS) :=
  xB2 (L_X10_right (y1) (1) w) fun v1 w2 => xB (xBool (v1)) fun v3 => some (v3, w2)
set_option maxRecDepth 20000 in
theorem J_X10_isPerson_18_ok {G : aG} {Hf : wS → aH} {b : Nat} {y1 : Int32} {w : wS} {r : Int32 × wS} (E : Emb Hf b 0 tbM) (hL : J_X10_isPerson_18  y1 w = some r) : AG G M_X10_isPerson 18 [none, none] [.int (y1), .ref (b + 0)] (Hf w) (.inl (some (.int r.1)), Hf r.2) := by
  unfold J_X10_isPerson_18 at hL
  refine g_iconst (v := 1) dX10_isPerson_18 (by decide) ?_
  obtain ⟨v1, w2, hc, hL⟩ := xB2_some hL
  refine g_callV (M' := M_X10_right) (as := [.int (y1), .int (1)]) (v := some (.int (v1))) l_X10_271 kV_X10_right (by decide) (C_X10_right E hc) rfl (by have := E.1; omega) (E.2.1 _ 0 _ rfl) ⟨_, _, rfl⟩ (Nat.le_of_ble_eq_true rfl) dX10_isPerson_19 ?_
  obtain ⟨v3, hb, hR⟩ := xB_some hL
  obtain ⟨hz, hb2⟩ := xBool_some hb
  clear hL
  subst hz
  obtain rfl := Option.some.inj hR
  exact g_zret rfl (narrow_bool hb2) dX10_isPerson_22
def J_X10_isPerson_17 (w : wS) : Option (Int32 × wS) :=
  J_X10_isPerson_18  (0) w
set_option maxRecDepth 20000 in
theorem J_X10_isPerson_17_ok {G : aG} {Hf : wS → aH} {b : Nat} {w : wS} {r : Int32 × wS} (E : Emb Hf b 0 tbM) (hL : J_X10_isPerson_17   w = some r) : AG G M_X10_isPerson 17 [none, none] [.ref (b + 0)] (Hf w) (.inl (some (.int r.1)), Hf r.2) := by
  unfold J_X10_isPerson_17 at hL
  refine g_iconst (v := 0) dX10_isPerson_17 (by decide) ?_
  exact J_X10_isPerson_18_ok E hL 
def L_X10_isPerson (a1 : Int32) (w : wS) : Option (Int32 × wS) :=
  if a1 < 0 then J_X10_isPerson_17   w else xB (xGet w 1) fun v4 => if v4 ≤ a1 then J_X10_isPerson_17   w else J_X10_isPerson_18  (1) w
set_option maxRecDepth 20000 in
theorem C_X10_isPerson {G : aG} {Hf : wS → aH} {b : Nat} {a1 : Int32} {w : wS} {r : Int32 × wS} (E : Emb Hf b 0 tbM) (hL : L_X10_isPerson a1 w = some r) : AC G M_X10_isPerson [.ref (b + 0), .int a1] (Hf w) (.inl (some (.int r.1)), Hf r.2) := by
  unfold L_X10_isPerson at hL
  refine AC.of (by decide) rfl (Nat.le_of_ble_eq_true rfl) ?_
  show AG G M_X10_isPerson 0 [some (.ref (b + 0)), some (.int (a1))] [] _ _
  refine g_aload_n dX10_isPerson_0 rfl rfl ?_
  refine g_iload_n dX10_isPerson_1 rfl rfl ?_
  refine g_if_lt (tgt := 17) dX10_isPerson_2 (by decide) (fun q6 => ?_) (fun q6 => ?_)
  · rw [if_pos q6] at hL
    refine g_none 0 ?_
    refine g_none 1 ?_
    exact J_X10_isPerson_17_ok E hL 
  · rw [if_neg q6] at hL
    refine g_iload_n dX10_isPerson_5 rfl rfl ?_
    refine g_none 1 ?_
    refine g_aload_n dX10_isPerson_6 rfl rfl ?_
    refine g_none 0 ?_
    refine s_getI (k := 0) (j := 1) E hL rfl rfl f_X10_278 dX10_isPerson_7 ?_
    intro v4 hL
    refine g_icmp_ge (tgt := 17) dX10_isPerson_10 (by decide) (fun q5 => ?_) (fun q5 => ?_)
    · rw [if_pos q5] at hL
      exact J_X10_isPerson_17_ok E hL 
    · rw [if_neg q5] at hL
      refine g_iconst (v := 1) dX10_isPerson_13 (by decide) ?_
      refine g_goto (tgt := 18) dX10_isPerson_14 (by decide) ?_
      exact J_X10_isPerson_18_ok E hL 
def J_X10_isDuty_18 (y1 : Int32) (w : wS) : Option (Int32 × wS) :=
  xB2 (L_X10_right (y1) (1) w) fun v1 w2 => xB (xBool (v1)) fun v3 => some (v3, w2)
set_option maxRecDepth 20000 in
theorem J_X10_isDuty_18_ok {G : aG} {Hf : wS → aH} {b : Nat} {y1 : Int32} {w : wS} {r : Int32 × wS} (E : Emb Hf b 0 tbM) (hL : J_X10_isDuty_18  y1 w = some r) : AG G M_X10_isDuty 18 [none, none] [.int (y1), .ref (b + 0)] (Hf w) (.inl (some (.int r.1)), Hf r.2) := by
  unfold J_X10_isDuty_18 at hL
  refine g_iconst (v := 1) dX10_isDuty_18 (by decide) ?_
  obtain ⟨v1, w2, hc, hL⟩ := xB2_some hL
  refine g_callV (M' := M_X10_right) (as := [.int (y1), .int (1)]) (v := some (.int (v1))) l_X10_271 kV_X10_right (by decide) (C_X10_right E hc) rfl (by have := E.1; omega) (E.2.1 _ 0 _ rfl) ⟨_, _, rfl⟩ (Nat.le_of_ble_eq_true rfl) dX10_isDuty_19 ?_
  obtain ⟨v3, hb, hR⟩ := xB_some hL
  obtain ⟨hz, hb2⟩ := xBool_some hb
  clear hL
  subst hz
  obtain rfl := Option.some.inj hR
  exact g_zret rfl (narrow_bool hb2) dX10_isDuty_22
def J_X10_isDuty_17 (w : wS) : Option (Int32 × wS) :=
  J_X10_isDuty_18  (0) w
set_option maxRecDepth 20000 in
theorem J_X10_isDuty_17_ok {G : aG} {Hf : wS → aH} {b : Nat} {w : wS} {r : Int32 × wS} (E : Emb Hf b 0 tbM) (hL : J_X10_isDuty_17   w = some r) : AG G M_X10_isDuty 17 [none, none] [.ref (b + 0)] (Hf w) (.inl (some (.int r.1)), Hf r.2) := by
  unfold J_X10_isDuty_17 at hL
  refine g_iconst (v := 0) dX10_isDuty_17 (by decide) ?_
  exact J_X10_isDuty_18_ok E hL 
def L_X10_isDuty (a1 : Int32) (w : wS) : Option (Int32 × wS) :=
  if a1 < 0 then J_X10_isDuty_17   w else xB (xGet w 2) fun v4 => if v4 ≤ a1 then J_X10_isDuty_17   w else J_X10_isDuty_18  (1) w
set_option maxRecDepth 20000 in
theorem C_X10_isDuty {G : aG} {Hf : wS → aH} {b : Nat} {a1 : Int32} {w : wS} {r : Int32 × wS} (E : Emb Hf b 0 tbM) (hL : L_X10_isDuty a1 w = some r) : AC G M_X10_isDuty [.ref (b + 0), .int a1] (Hf w) (.inl (some (.int r.1)), Hf r.2) := by
  unfold L_X10_isDuty at hL
  refine AC.of (by decide) rfl (Nat.le_of_ble_eq_true rfl) ?_
  show AG G M_X10_isDuty 0 [some (.ref (b + 0)), some (.int (a1))] [] _ _
  refine g_aload_n dX10_isDuty_0 rfl rfl ?_
  refine g_iload_n dX10_isDuty_1 rfl rfl ?_
  refine g_if_lt (tgt := 17) dX10_isDuty_2 (by decide) (fun q6 => ?_) (fun q6 => ?_)
  · rw [if_pos q6] at hL
    refine g_none 0 ?_
    refine g_none 1 ?_
    exact J_X10_isDuty_17_ok E hL 
  · rw [if_neg q6] at hL
    refine g_iload_n dX10_isDuty_5 rfl rfl ?_
    refine g_none 1 ?_
    refine g_aload_n dX10_isDuty_6 rfl rfl ?_
    refine g_none 0 ?_
    refine s_getI (k := 0) (j := 2) E hL rfl rfl f_X10_281 dX10_isDuty_7 ?_
    intro v4 hL
    refine g_icmp_ge (tgt := 17) dX10_isDuty_10 (by decide) (fun q5 => ?_) (fun q5 => ?_)
    · rw [if_pos q5] at hL
      exact J_X10_isDuty_17_ok E hL 
    · rw [if_neg q5] at hL
      refine g_iconst (v := 1) dX10_isDuty_13 (by decide) ?_
      refine g_goto (tgt := 18) dX10_isDuty_14 (by decide) ?_
      exact J_X10_isDuty_18_ok E hL 
