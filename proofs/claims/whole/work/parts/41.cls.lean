def J_X1_come_98 (o : wO) (x1 : Int32) (x2 : Int32) (x3 : Int32) (w : wS) : Option (wS) :=
  xB2 (L_X5_dueOf_x31 o (x2) w) fun v1 w2 => xB (xAst w2 35 8 (x1) ((v1 + x3))) fun w3 => xB (L_X5_setLate_x31 o (x1) ((xMin (999) (x3))) w3) fun w4 => some w4
set_option maxRecDepth 20000 in
theorem J_X1_come_98_ok {G : aG} {Hf : wS → aH} {bx : Nat} {o : wO} {x1 : Int32} {x2 : Int32} {x3 : Int32} {w : wS} {r : wS} (hG : aGood G) (E : EX Hf bx o) (hL : J_X1_come_98 o  x1 x2 x3 w = some r) : AG G M_X1_come 98 [some (.ref (bx + 30)), some (.int (x1)), some (.int (x2)), some (.int (x3))] [] (Hf w) (.inl none, Hf r) := by
  unfold J_X1_come_98 at hL
  refine g_aload_n dX1_come_98 rfl rfl ?_
  refine s_getR (k := 30) (j := 3) E.1 rfl rfl f_X1_25 dX1_come_99 ?_
  refine g_iload_n dX1_come_102 rfl rfl ?_
  refine g_aload_n dX1_come_103 rfl rfl ?_
  refine s_getR (k := 30) (j := 0) E.1 rfl rfl f_X1_12 dX1_come_104 ?_
  refine g_iload_n dX1_come_107 rfl rfl ?_
  refine g_none 2 ?_
  obtain ⟨v1, w2, hc, hL⟩ := xB2_some hL
  refine g_callV (M' := M_X5_dueOf) (as := [.int (x2)]) (v := some (.int (v1))) l_X1_163 kV_X5_dueOf (by decide) (C_X5_dueOf_x31 hG E hc) rfl (by have := E.1.1; omega) (E.1.2.1 _ 31 _ rfl) ⟨_, _, rfl⟩ (Nat.le_of_ble_eq_true rfl) dX1_come_108 ?_
  refine g_iload_n dX1_come_111 rfl rfl ?_
  refine g_iadd dX1_come_112 ?_
  refine s_iast (k := 35) E.1 hL rfl dX1_come_113 ?_
  intro w3 hL
  refine g_aload_n dX1_come_114 rfl rfl ?_
  refine g_none 0 ?_
  refine s_getR (k := 30) (j := 0) E.1 rfl rfl f_X1_12 dX1_come_115 ?_
  refine g_iload_n dX1_come_118 rfl rfl ?_
  refine g_none 1 ?_
  refine g_sipush (v := 999) dX1_come_119 (by decide) ?_
  refine g_iload_n dX1_come_122 rfl rfl ?_
  refine g_none 3 ?_
  refine g_mmin (aIn1 552 (by decide +kernel) rfl) mmin_1 mmin_2 mmin_3 (by decide) (Nat.le_of_ble_eq_true rfl) dX1_come_123 ?_
  obtain ⟨w4, hc, hL⟩ := xB_some hL
  refine g_callV (M' := M_X5_setLate) (as := [.int (x1), .int ((xMin (999) (x3)))]) (v := none) l_X1_169 kV_X5_setLate (by decide) (C_X5_setLate_x31 hG E hc) rfl (by have := E.1.1; omega) (E.1.2.1 _ 31 _ rfl) ⟨_, _, rfl⟩ (Nat.le_of_ble_eq_true rfl) dX1_come_126 ?_
  obtain rfl := Option.some.inj hL
  exact g_vret rfl dX1_come_129
def J_X1_come_39 (o : wO) (x1 : Int32) (w : wS) : Option (wS) :=
  xB (xAst w 35 8 (x1) ((-1))) fun w5 => some w5
set_option maxRecDepth 20000 in
theorem J_X1_come_39_ok {G : aG} {Hf : wS → aH} {bx : Nat} {o : wO} {x1 : Int32} {w : wS} {r : wS} (hG : aGood G) (E : EX Hf bx o) (hL : J_X1_come_39 o  x1 w = some r) : AG G M_X1_come 39 [some (.ref (bx + 30)), some (.int (x1)), none, none] [] (Hf w) (.inl none, Hf r) := by
  unfold J_X1_come_39 at hL
  refine g_aload_n dX1_come_39 rfl rfl ?_
  refine g_none 0 ?_
  refine s_getR (k := 30) (j := 3) E.1 rfl rfl f_X1_25 dX1_come_40 ?_
  refine g_iload_n dX1_come_43 rfl rfl ?_
  refine g_none 1 ?_
  refine g_iconst (v := (-1)) dX1_come_44 (by decide) ?_
  refine s_iast (k := 35) E.1 hL rfl dX1_come_45 ?_
  intro w5 hL
  obtain rfl := Option.some.inj hL
  exact g_vret rfl dX1_come_46
def L_X1_come (o : wO) (a1 : Int32) (a2 : Int32) (w : wS) : Option (wS) :=
  xIf (xRef w 3010 (oT o + 0)) (xB2 (L_X8_distance o (a1) (a2) w) fun v6 w7 => xB (xAst w7 36 8 (a1) (v6)) fun w8 => xIf (xRef w8 3010 (oT o + 0)) (xB (xAld w8 1001 8 (a1)) fun v9 => if v9 = 2 then J_X1_come_39 o  (a1) w8 else xB2 (L_X5_isIll_x31 o (a1) w8) fun v10 w11 => if v10 = 0 then xB (xGet w11 3008) fun v12 => xIf (xRef w11 3010 (oT o + 0)) (xB (xAld w11 1001 8 (a1)) fun v13 => if v13 = 1 then J_X1_come_98 o  (a1) (a2) (v12) w11 else xB (xAld w11 38 6 (a2)) fun v14 => xIf (xRef w11 3010 (oT o + 0)) (xB (xAld w11 33 8 (a1)) fun v15 => xB2 (L_X5_hasteOf_x31 o (a1) w11) fun v16 w17 => xB2 (L_X8_minutes o (a1) (a2) (v15) (v16) w17) fun v18 w19 => J_X1_come_98 o  (a1) (a2) ((v12 + (v14 + v18))) w19)) else J_X1_come_39 o  (a1) w11))
set_option maxRecDepth 20000 in
theorem C_X1_come {G : aG} {Hf : wS → aH} {bx : Nat} {o : wO} {a1 : Int32} {a2 : Int32} {w : wS} {r : wS} (hG : aGood G) (E : EX Hf bx o) (hL : L_X1_come o a1 a2 w = some r) : AC G M_X1_come [.ref (bx + 30), .int a1, .int a2] (Hf w) (.inl none, Hf r) := by
  unfold L_X1_come at hL
  refine AC.of (by decide) rfl (Nat.le_of_ble_eq_true rfl) ?_
  show AG G M_X1_come 0 [some (.ref (bx + 30)), some (.int (a1)), some (.int (a2)), none] [] _ _
  refine g_aload_n dX1_come_0 rfl rfl ?_
  refine s_getR (k := 30) (j := 4) E.1 rfl rfl f_X1_28 dX1_come_1 ?_
  refine g_iload_n dX1_come_4 rfl rfl ?_
  refine g_aload_n dX1_come_5 rfl rfl ?_
  refine s_getT (k := 30) (j := 10) E.1 hL rfl rfl f_X1_52 dX1_come_6 ?_
  intro hL
  refine g_iload_n dX1_come_9 rfl rfl ?_
  refine g_iload_n dX1_come_10 rfl rfl ?_
  obtain ⟨v6, w7, hc, hL⟩ := xB2_some hL
  refine g_callV (M' := M_X8_distance) (as := [.int (a1), .int (a2)]) (v := some (.int (v6))) l_X1_150 kV_X8_distance (by decide) (C_X8_distance hG E hc) rfl (by have := E.2.1.1; omega) (E.2.1.2.1 _ 0 _ rfl) ⟨_, _, rfl⟩ (Nat.le_of_ble_eq_true rfl) dX1_come_11 ?_
  refine s_iast (k := 36) E.1 hL rfl dX1_come_14 ?_
  intro w8 hL
  refine g_aload_n dX1_come_15 rfl rfl ?_
  refine s_getT (k := 30) (j := 10) E.1 hL rfl rfl f_X1_52 dX1_come_16 ?_
  intro hL
  refine s_getR (k := 0) (j := 0) E.2.1 rfl rfl f_X1_153 dX1_come_19 ?_
  refine g_iload_n dX1_come_22 rfl rfl ?_
  refine s_iald (k := 1) E.2.1 hL rfl dX1_come_23 ?_
  intro v9 hL
  refine g_iconst (v := 2) dX1_come_24 (by decide) ?_
  refine g_icmp_eq (tgt := 39) dX1_come_25 (by decide) (fun q22 => ?_) (fun q22 => ?_)
  · rw [if_pos q22] at hL
    refine g_none 2 ?_
    exact J_X1_come_39_ok hG E hL 
  · rw [if_neg q22] at hL
    refine g_aload_n dX1_come_28 rfl rfl ?_
    refine s_getR (k := 30) (j := 0) E.1 rfl rfl f_X1_12 dX1_come_29 ?_
    refine g_iload_n dX1_come_32 rfl rfl ?_
    obtain ⟨v10, w11, hc, hL⟩ := xB2_some hL
    refine g_callV (M' := M_X5_isIll) (as := [.int (a1)]) (v := some (.int (v10))) l_X1_156 kV_X5_isIll (by decide) (C_X5_isIll_x31 hG E hc) rfl (by have := E.1.1; omega) (E.1.2.1 _ 31 _ rfl) ⟨_, _, rfl⟩ (Nat.le_of_ble_eq_true rfl) dX1_come_33 ?_
    refine g_if_eq (tgt := 47) dX1_come_36 (by decide) (fun q21 => ?_) (fun q21 => ?_)
    · rw [if_pos q21] at hL
      refine g_aload_n dX1_come_47 rfl rfl ?_
      refine s_getI (k := 30) (j := 8) E.1 hL rfl rfl f_X1_40 dX1_come_48 ?_
      intro v12 hL
      refine g_istore_n (i := 3) dX1_come_51 rfl (by decide) rfl ?_
      refine g_aload_n dX1_come_52 rfl rfl ?_
      refine s_getT (k := 30) (j := 10) E.1 hL rfl rfl f_X1_52 dX1_come_53 ?_
      intro hL
      refine s_getR (k := 0) (j := 0) E.2.1 rfl rfl f_X1_153 dX1_come_56 ?_
      refine g_iload_n dX1_come_59 rfl rfl ?_
      refine s_iald (k := 1) E.2.1 hL rfl dX1_come_60 ?_
      intro v13 hL
      refine g_iconst (v := 1) dX1_come_61 (by decide) ?_
      refine g_icmp_eq (tgt := 98) dX1_come_62 (by decide) (fun q20 => ?_) (fun q20 => ?_)
      · rw [if_pos q20] at hL
        exact J_X1_come_98_ok hG E hL 
      · rw [if_neg q20] at hL
        refine g_iload_n dX1_come_65 rfl rfl ?_
        refine g_none 3 ?_
        refine g_aload_n dX1_come_66 rfl rfl ?_
        refine s_getR (k := 30) (j := 6) E.1 rfl rfl f_X1_34 dX1_come_67 ?_
        refine g_iload_n dX1_come_70 rfl rfl ?_
        refine s_iald (k := 38) E.1 hL rfl dX1_come_71 ?_
        intro v14 hL
        refine g_aload_n dX1_come_72 rfl rfl ?_
        refine s_getT (k := 30) (j := 10) E.1 hL rfl rfl f_X1_52 dX1_come_73 ?_
        intro hL
        refine g_iload_n dX1_come_76 rfl rfl ?_
        refine g_iload_n dX1_come_77 rfl rfl ?_
        refine g_aload_n dX1_come_78 rfl rfl ?_
        refine s_getR (k := 30) (j := 1) E.1 rfl rfl f_X1_18 dX1_come_79 ?_
        refine g_iload_n dX1_come_82 rfl rfl ?_
        refine s_iald (k := 33) E.1 hL rfl dX1_come_83 ?_
        intro v15 hL
        refine g_aload_n dX1_come_84 rfl rfl ?_
        refine s_getR (k := 30) (j := 0) E.1 rfl rfl f_X1_12 dX1_come_85 ?_
        refine g_iload_n dX1_come_88 rfl rfl ?_
        obtain ⟨v16, w17, hc, hL⟩ := xB2_some hL
        refine g_callV (M' := M_X5_hasteOf) (as := [.int (a1)]) (v := some (.int (v16))) l_X1_93 kV_X5_hasteOf (by decide) (C_X5_hasteOf_x31 hG E hc) rfl (by have := E.1.1; omega) (E.1.2.1 _ 31 _ rfl) ⟨_, _, rfl⟩ (Nat.le_of_ble_eq_true rfl) dX1_come_89 ?_
        obtain ⟨v18, w19, hc, hL⟩ := xB2_some hL
        refine g_callV (M' := M_X8_minutes) (as := [.int (a1), .int (a2), .int (v15), .int (v16)]) (v := some (.int (v18))) l_X1_159 kV_X8_minutes (by decide) (C_X8_minutes hG E hc) rfl (by have := E.2.1.1; omega) (E.2.1.2.1 _ 0 _ rfl) ⟨_, _, rfl⟩ (Nat.le_of_ble_eq_true rfl) dX1_come_92 ?_
        refine g_iadd dX1_come_95 ?_
        refine g_iadd dX1_come_96 ?_
        refine g_istore_n (i := 3) dX1_come_97 rfl (by decide) rfl ?_
        exact J_X1_come_98_ok hG E hL 
    · rw [if_neg q21] at hL
      refine g_none 2 ?_
      exact J_X1_come_39_ok hG E hL 
def L_X5_lateOf_x31 (o : wO) (a1 : Int32) (w : wS) : Option (Int32 × wS) :=
  xB (xAld w 32 33 (((9 : Int32) + a1))) fun v1 => some (v1, w)
set_option maxRecDepth 20000 in
theorem C_X5_lateOf_x31 {G : aG} {Hf : wS → aH} {bx : Nat} {o : wO} {a1 : Int32} {w : wS} {r : Int32 × wS} (hG : aGood G) (E : EX Hf bx o) (hL : L_X5_lateOf_x31 o a1 w = some r) : AC G M_X5_lateOf [.ref (bx + 31), .int a1] (Hf w) (.inl (some (.int r.1)), Hf r.2) := by
  unfold L_X5_lateOf_x31 at hL
  refine AC.of (by decide) rfl (Nat.le_of_ble_eq_true rfl) ?_
  show AG G M_X5_lateOf 0 [some (.ref (bx + 31)), some (.int (a1))] [] _ _
  refine g_aload_n dX5_lateOf_0 rfl rfl ?_
  refine g_none 0 ?_
  refine s_getR (k := 31) (j := 0) E.1 rfl rfl f_X5_11 dX5_lateOf_1 ?_
  refine g_bipush (v := 9) dX5_lateOf_4 (by decide) ?_
  refine g_iload_n dX5_lateOf_6 rfl rfl ?_
  refine g_none 1 ?_
  refine g_iadd dX5_lateOf_7 ?_
  refine s_iald (k := 32) E.1 hL rfl dX5_lateOf_8 ?_
  intro v1 hL
  obtain rfl := Option.some.inj hL
  exact g_iret rfl dX5_lateOf_9
def L_X5_rungOf_x31 (o : wO) (a1 : Int32) (w : wS) : Option (Int32 × wS) :=
  xB (xAld w 32 33 (((17 : Int32) + a1))) fun v1 => some (v1, w)
set_option maxRecDepth 20000 in
theorem C_X5_rungOf_x31 {G : aG} {Hf : wS → aH} {bx : Nat} {o : wO} {a1 : Int32} {w : wS} {r : Int32 × wS} (hG : aGood G) (E : EX Hf bx o) (hL : L_X5_rungOf_x31 o a1 w = some r) : AC G M_X5_rungOf [.ref (bx + 31), .int a1] (Hf w) (.inl (some (.int r.1)), Hf r.2) := by
  unfold L_X5_rungOf_x31 at hL
  refine AC.of (by decide) rfl (Nat.le_of_ble_eq_true rfl) ?_
  show AG G M_X5_rungOf 0 [some (.ref (bx + 31)), some (.int (a1))] [] _ _
  refine g_aload_n dX5_rungOf_0 rfl rfl ?_
  refine g_none 0 ?_
  refine s_getR (k := 31) (j := 0) E.1 rfl rfl f_X5_11 dX5_rungOf_1 ?_
  refine g_bipush (v := 17) dX5_rungOf_4 (by decide) ?_
  refine g_iload_n dX5_rungOf_6 rfl rfl ?_
  refine g_none 1 ?_
  refine g_iadd dX5_rungOf_7 ?_
  refine s_iald (k := 32) E.1 hL rfl dX5_rungOf_8 ?_
  intro v1 hL
  obtain rfl := Option.some.inj hL
  exact g_iret rfl dX5_rungOf_9
def L_X5_day_x31 (o : wO) (w : wS) : Option (Int32 × wS) :=
  xB (xAld w 32 33 (31)) fun v1 => some (v1, w)
set_option maxRecDepth 20000 in
theorem C_X5_day_x31 {G : aG} {Hf : wS → aH} {bx : Nat} {o : wO} {w : wS} {r : Int32 × wS} (hG : aGood G) (E : EX Hf bx o) (hL : L_X5_day_x31 o  w = some r) : AC G M_X5_day [.ref (bx + 31)] (Hf w) (.inl (some (.int r.1)), Hf r.2) := by
  unfold L_X5_day_x31 at hL
  refine AC.of (by decide) rfl (Nat.le_of_ble_eq_true rfl) ?_
  show AG G M_X5_day 0 [some (.ref (bx + 31))] [] _ _
  refine g_aload_n dX5_day_0 rfl rfl ?_
  refine g_none 0 ?_
  refine s_getR (k := 31) (j := 0) E.1 rfl rfl f_X5_11 dX5_day_1 ?_
  refine g_bipush (v := 31) dX5_day_4 (by decide) ?_
  refine s_iald (k := 32) E.1 hL rfl dX5_day_6 ?_
  intro v1 hL
  obtain rfl := Option.some.inj hL
  exact g_iret rfl dX5_day_7
def L_X1_valuesOf (o : wO) (a1 : Int32) (a2 : Int32) (w : wS) : Option (wS) :=
  xB2 (L_X5_lateOf_x31 o (a1) w) fun v1 w2 => xB (xAst w2 40 7 (0) (v1)) fun w3 => xB (xAld w3 33 8 (a1)) fun v4 => xB (xAst w3 40 7 (1) (v4)) fun w5 => xB2 (L_X5_hasteOf_x31 o (a1) w5) fun v6 w7 => xB (xAst w7 40 7 (2) (v6)) fun w8 => xB2 (L_X5_rungOf_x31 o (a1) w8) fun v9 w10 => xB (xAst w10 40 7 (3) (v9)) fun w11 => xB (xAst w11 40 7 (4) (a2)) fun w12 => xB2 (L_X5_day_x31 o  w12) fun v13 w14 => xB (xAst w14 40 7 (5) (v13)) fun w15 => xIf (xRef w15 3010 (oT o + 0)) (xB2 (L_X8_distance o (a1) (a2) w15) fun v16 w17 => xB (xAst w17 40 7 (6) (v16)) fun w18 => some w18)
set_option maxRecDepth 20000 in
theorem C_X1_valuesOf {G : aG} {Hf : wS → aH} {bx : Nat} {o : wO} {a1 : Int32} {a2 : Int32} {w : wS} {r : wS} (hG : aGood G) (E : EX Hf bx o) (hL : L_X1_valuesOf o a1 a2 w = some r) : AC G M_X1_valuesOf [.ref (bx + 30), .int a1, .int a2] (Hf w) (.inl (some (.ref (bx + 40))), Hf r) := by
  unfold L_X1_valuesOf at hL
  refine AC.of (by decide) rfl (Nat.le_of_ble_eq_true rfl) ?_
  show AG G M_X1_valuesOf 0 [some (.ref (bx + 30)), some (.int (a1)), some (.int (a2))] [] _ _
  refine g_aload_n dX1_valuesOf_0 rfl rfl ?_
  refine s_getR (k := 30) (j := 9) E.1 rfl rfl f_X1_46 dX1_valuesOf_1 ?_
  refine g_iconst (v := 0) dX1_valuesOf_4 (by decide) ?_
  refine g_aload_n dX1_valuesOf_5 rfl rfl ?_
  refine s_getR (k := 30) (j := 0) E.1 rfl rfl f_X1_12 dX1_valuesOf_6 ?_
  refine g_iload_n dX1_valuesOf_9 rfl rfl ?_
  obtain ⟨v1, w2, hc, hL⟩ := xB2_some hL
  refine g_callV (M' := M_X5_lateOf) (as := [.int (a1)]) (v := some (.int (v1))) l_X1_132 kV_X5_lateOf (by decide) (C_X5_lateOf_x31 hG E hc) rfl (by have := E.1.1; omega) (E.1.2.1 _ 31 _ rfl) ⟨_, _, rfl⟩ (Nat.le_of_ble_eq_true rfl) dX1_valuesOf_10 ?_
  refine s_iast (k := 40) E.1 hL rfl dX1_valuesOf_13 ?_
  intro w3 hL
  refine g_aload_n dX1_valuesOf_14 rfl rfl ?_
  refine s_getR (k := 30) (j := 9) E.1 rfl rfl f_X1_46 dX1_valuesOf_15 ?_
  refine g_iconst (v := 1) dX1_valuesOf_18 (by decide) ?_
  refine g_aload_n dX1_valuesOf_19 rfl rfl ?_
  refine s_getR (k := 30) (j := 1) E.1 rfl rfl f_X1_18 dX1_valuesOf_20 ?_
  refine g_iload_n dX1_valuesOf_23 rfl rfl ?_
  refine s_iald (k := 33) E.1 hL rfl dX1_valuesOf_24 ?_
  intro v4 hL
  refine s_iast (k := 40) E.1 hL rfl dX1_valuesOf_25 ?_
  intro w5 hL
  refine g_aload_n dX1_valuesOf_26 rfl rfl ?_
  refine s_getR (k := 30) (j := 9) E.1 rfl rfl f_X1_46 dX1_valuesOf_27 ?_
  refine g_iconst (v := 2) dX1_valuesOf_30 (by decide) ?_
  refine g_aload_n dX1_valuesOf_31 rfl rfl ?_
  refine s_getR (k := 30) (j := 0) E.1 rfl rfl f_X1_12 dX1_valuesOf_32 ?_
  refine g_iload_n dX1_valuesOf_35 rfl rfl ?_
  obtain ⟨v6, w7, hc, hL⟩ := xB2_some hL
  refine g_callV (M' := M_X5_hasteOf) (as := [.int (a1)]) (v := some (.int (v6))) l_X1_93 kV_X5_hasteOf (by decide) (C_X5_hasteOf_x31 hG E hc) rfl (by have := E.1.1; omega) (E.1.2.1 _ 31 _ rfl) ⟨_, _, rfl⟩ (Nat.le_of_ble_eq_true rfl) dX1_valuesOf_36 ?_
  refine s_iast (k := 40) E.1 hL rfl dX1_valuesOf_39 ?_
  intro w8 hL
  refine g_aload_n dX1_valuesOf_40 rfl rfl ?_
  refine s_getR (k := 30) (j := 9) E.1 rfl rfl f_X1_46 dX1_valuesOf_41 ?_
  refine g_iconst (v := 3) dX1_valuesOf_44 (by decide) ?_
  refine g_aload_n dX1_valuesOf_45 rfl rfl ?_
  refine s_getR (k := 30) (j := 0) E.1 rfl rfl f_X1_12 dX1_valuesOf_46 ?_
  refine g_iload_n dX1_valuesOf_49 rfl rfl ?_
  obtain ⟨v9, w10, hc, hL⟩ := xB2_some hL
  refine g_callV (M' := M_X5_rungOf) (as := [.int (a1)]) (v := some (.int (v9))) l_X1_178 kV_X5_rungOf (by decide) (C_X5_rungOf_x31 hG E hc) rfl (by have := E.1.1; omega) (E.1.2.1 _ 31 _ rfl) ⟨_, _, rfl⟩ (Nat.le_of_ble_eq_true rfl) dX1_valuesOf_50 ?_
  refine s_iast (k := 40) E.1 hL rfl dX1_valuesOf_53 ?_
  intro w11 hL
  refine g_aload_n dX1_valuesOf_54 rfl rfl ?_
  refine s_getR (k := 30) (j := 9) E.1 rfl rfl f_X1_46 dX1_valuesOf_55 ?_
  refine g_iconst (v := 4) dX1_valuesOf_58 (by decide) ?_
  refine g_iload_n dX1_valuesOf_59 rfl rfl ?_
  refine s_iast (k := 40) E.1 hL rfl dX1_valuesOf_60 ?_
  intro w12 hL
  refine g_aload_n dX1_valuesOf_61 rfl rfl ?_
  refine s_getR (k := 30) (j := 9) E.1 rfl rfl f_X1_46 dX1_valuesOf_62 ?_
  refine g_iconst (v := 5) dX1_valuesOf_65 (by decide) ?_
  refine g_aload_n dX1_valuesOf_66 rfl rfl ?_
  refine s_getR (k := 30) (j := 0) E.1 rfl rfl f_X1_12 dX1_valuesOf_67 ?_
  obtain ⟨v13, w14, hc, hL⟩ := xB2_some hL
  refine g_callV (M' := M_X5_day) (as := []) (v := some (.int (v13))) l_X1_181 kV_X5_day (by decide) (C_X5_day_x31 hG E hc) rfl (by have := E.1.1; omega) (E.1.2.1 _ 31 _ rfl) ⟨_, _, rfl⟩ (Nat.le_of_ble_eq_true rfl) dX1_valuesOf_70 ?_
  refine s_iast (k := 40) E.1 hL rfl dX1_valuesOf_73 ?_
  intro w15 hL
  refine g_aload_n dX1_valuesOf_74 rfl rfl ?_
  refine s_getR (k := 30) (j := 9) E.1 rfl rfl f_X1_46 dX1_valuesOf_75 ?_
  refine g_bipush (v := 6) dX1_valuesOf_78 (by decide) ?_
  refine g_aload_n dX1_valuesOf_80 rfl rfl ?_
  refine s_getT (k := 30) (j := 10) E.1 hL rfl rfl f_X1_52 dX1_valuesOf_81 ?_
  intro hL
  refine g_iload_n dX1_valuesOf_84 rfl rfl ?_
  refine g_none 1 ?_
  refine g_iload_n dX1_valuesOf_85 rfl rfl ?_
  refine g_none 2 ?_
  obtain ⟨v16, w17, hc, hL⟩ := xB2_some hL
  refine g_callV (M' := M_X8_distance) (as := [.int (a1), .int (a2)]) (v := some (.int (v16))) l_X1_150 kV_X8_distance (by decide) (C_X8_distance hG E hc) rfl (by have := E.2.1.1; omega) (E.2.1.2.1 _ 0 _ rfl) ⟨_, _, rfl⟩ (Nat.le_of_ble_eq_true rfl) dX1_valuesOf_86 ?_
  refine s_iast (k := 40) E.1 hL rfl dX1_valuesOf_89 ?_
  intro w18 hL
  refine g_aload_n dX1_valuesOf_90 rfl rfl ?_
  refine g_none 0 ?_
  refine s_getR (k := 30) (j := 9) E.1 rfl rfl f_X1_46 dX1_valuesOf_91 ?_
  obtain rfl := Option.some.inj hL
  exact g_aret rfl (Or.inr ⟨_, rfl⟩) (Or.inr ⟨_, rfl⟩) dX1_valuesOf_94
def L_X9_within (a1 : Int32) (a2 : Int32) (a3 : Int32) : Option (Int32) :=
  some ((xMax (a2) ((xMin (a3) (a1)))))
set_option maxRecDepth 20000 in
theorem C_X9_within {G : aG} {h : aH} {a1 : Int32} {a2 : Int32} {a3 : Int32} {r : Int32} (hL : L_X9_within a1 a2 a3 = some r) : AC G M_X9_within [.int a1, .int a2, .int a3] h (.inl (some (.int r)), h) := by
  unfold L_X9_within at hL
  refine AC.of (by decide) rfl (Nat.le_of_ble_eq_true rfl) ?_
  show AG G M_X9_within 0 [some (.int (a1)), some (.int (a2)), some (.int (a3))] [] _ _
  refine g_iload_n dX9_within_0 rfl rfl ?_
  refine g_none 1 ?_
  refine g_iload_n dX9_within_1 rfl rfl ?_
  refine g_none 2 ?_
  refine g_iload_n dX9_within_2 rfl rfl ?_
  refine g_none 0 ?_
  refine g_mmin (aIn1 523 (by decide +kernel) rfl) mmin_1 mmin_2 mmin_3 (by decide) (Nat.le_of_ble_eq_true rfl) dX9_within_3 ?_
  refine g_mmax (aIn1 526 (by decide +kernel) rfl) mmax_1 mmax_2 mmax_3 (by decide) (Nat.le_of_ble_eq_true rfl) dX9_within_6 ?_
  obtain rfl := Option.some.inj hL
  exact g_iret rfl dX9_within_9
def L_X5_ringOnce_x31 (o : wO) (a1 : Int32) (w : wS) : Option (wS) :=
  xB (xAld w 32 33 (((17 : Int32) + a1))) fun v1 => xB (xAst w 32 33 (((17 : Int32) + a1)) ((xMin (999) ((v1 + (1 : Int32)))))) fun w2 => some w2
set_option maxRecDepth 20000 in
theorem C_X5_ringOnce_x31 {G : aG} {Hf : wS → aH} {bx : Nat} {o : wO} {a1 : Int32} {w : wS} {r : wS} (hG : aGood G) (E : EX Hf bx o) (hL : L_X5_ringOnce_x31 o a1 w = some r) : AC G M_X5_ringOnce [.ref (bx + 31), .int a1] (Hf w) (.inl none, Hf r) := by
  unfold L_X5_ringOnce_x31 at hL
  refine AC.of (by decide) rfl (Nat.le_of_ble_eq_true rfl) ?_
  show AG G M_X5_ringOnce 0 [some (.ref (bx + 31)), some (.int (a1))] [] _ _
  refine g_aload_n dX5_ringOnce_0 rfl rfl ?_
  refine s_getR (k := 31) (j := 0) E.1 rfl rfl f_X5_11 dX5_ringOnce_1 ?_
  refine g_bipush (v := 17) dX5_ringOnce_4 (by decide) ?_
  refine g_iload_n dX5_ringOnce_6 rfl rfl ?_
  refine g_iadd dX5_ringOnce_7 ?_
  refine g_sipush (v := 999) dX5_ringOnce_8 (by decide) ?_
  refine g_aload_n dX5_ringOnce_11 rfl rfl ?_
  refine g_none 0 ?_
  refine s_getR (k := 31) (j := 0) E.1 rfl rfl f_X5_11 dX5_ringOnce_12 ?_
  refine g_bipush (v := 17) dX5_ringOnce_15 (by decide) ?_
  refine g_iload_n dX5_ringOnce_17 rfl rfl ?_
  refine g_none 1 ?_
  refine g_iadd dX5_ringOnce_18 ?_
  refine s_iald (k := 32) E.1 hL rfl dX5_ringOnce_19 ?_
  intro v1 hL
  refine g_iconst (v := 1) dX5_ringOnce_20 (by decide) ?_
  refine g_iadd dX5_ringOnce_21 ?_
  refine g_mmin (aIn1 533 (by decide +kernel) rfl) mmin_1 mmin_2 mmin_3 (by decide) (Nat.le_of_ble_eq_true rfl) dX5_ringOnce_22 ?_
  refine s_iast (k := 32) E.1 hL rfl dX5_ringOnce_25 ?_
  intro w2 hL
  obtain rfl := Option.some.inj hL
  exact g_vret rfl dX5_ringOnce_26
def L_X5_ringer_x31 (o : wO) (w : wS) : Option (Int32 × wS) :=
  xB (xAld w 32 33 (0)) fun v1 => some (v1, w)
set_option maxRecDepth 20000 in
theorem C_X5_ringer_x31 {G : aG} {Hf : wS → aH} {bx : Nat} {o : wO} {w : wS} {r : Int32 × wS} (hG : aGood G) (E : EX Hf bx o) (hL : L_X5_ringer_x31 o  w = some r) : AC G M_X5_ringer [.ref (bx + 31)] (Hf w) (.inl (some (.int r.1)), Hf r.2) := by
  unfold L_X5_ringer_x31 at hL
  refine AC.of (by decide) rfl (Nat.le_of_ble_eq_true rfl) ?_
  show AG G M_X5_ringer 0 [some (.ref (bx + 31))] [] _ _
  refine g_aload_n dX5_ringer_0 rfl rfl ?_
  refine g_none 0 ?_
  refine s_getR (k := 31) (j := 0) E.1 rfl rfl f_X5_11 dX5_ringer_1 ?_
  refine g_iconst (v := 0) dX5_ringer_4 (by decide) ?_
  refine s_iald (k := 32) E.1 hL rfl dX5_ringer_5 ?_
  intro v1 hL
  obtain rfl := Option.some.inj hL
  exact g_iret rfl dX5_ringer_6
def J_X3_joined_141 (y0 : Int32) : Option (Int32) :=
  some (y0)
set_option maxRecDepth 20000 in
theorem J_X3_joined_141_ok {G : aG} {h : aH} {y0 : Int32} {r : Int32} (hL : J_X3_joined_141  y0 = some r) : AG G M_X3_joined 141 [none, none, none] [.int (y0)] h (.inl (some (.int r)), h) := by
  unfold J_X3_joined_141 at hL
  obtain rfl := Option.some.inj hL
  exact g_iret rfl dX3_joined_141
def J_X3_joined_136 : Option (Int32) :=
  J_X3_joined_141  (1)
set_option maxRecDepth 20000 in
theorem J_X3_joined_136_ok {G : aG} {h : aH} {r : Int32} (hL : J_X3_joined_136   = some r) : AG G M_X3_joined 136 [none, none, none] [] h (.inl (some (.int r)), h) := by
  unfold J_X3_joined_136 at hL
  refine g_iconst (v := 1) dX3_joined_136 (by decide) ?_
  refine g_goto (tgt := 141) dX3_joined_137 (by decide) ?_
  exact J_X3_joined_141_ok hL 
def J_X3_joined_127 (y0 : Int32) : Option (Int32) :=
  some (y0)
set_option maxRecDepth 20000 in
theorem J_X3_joined_127_ok {G : aG} {h : aH} {y0 : Int32} {r : Int32} (hL : J_X3_joined_127  y0 = some r) : AG G M_X3_joined 127 [none, none, none] [.int (y0)] h (.inl (some (.int r)), h) := by
  unfold J_X3_joined_127 at hL
  obtain rfl := Option.some.inj hL
  exact g_iret rfl dX3_joined_127
def J_X3_joined_126 : Option (Int32) :=
  J_X3_joined_127  (0)
set_option maxRecDepth 20000 in
theorem J_X3_joined_126_ok {G : aG} {h : aH} {r : Int32} (hL : J_X3_joined_126   = some r) : AG G M_X3_joined 126 [none, none, none] [] h (.inl (some (.int r)), h) := by
  unfold J_X3_joined_126 at hL
  refine g_iconst (v := 0) dX3_joined_126 (by decide) ?_
  exact J_X3_joined_127_ok hL 
def J_X3_joined_113 (y0 : Int32) : Option (Int32) :=
  some (y0)
set_option maxRecDepth 20000 in
theorem J_X3_joined_113_ok {G : aG} {h : aH} {y0 : Int32} {r : Int32} (hL : J_X3_joined_113  y0 = some r) : AG G M_X3_joined 113 [none, none, none] [.int (y0)] h (.inl (some (.int r)), h) := by
  unfold J_X3_joined_113 at hL
  obtain rfl := Option.some.inj hL
  exact g_iret rfl dX3_joined_113
def J_X3_joined_102 (y0 : Int32) : Option (Int32) :=
  some (y0)
set_option maxRecDepth 20000 in
theorem J_X3_joined_102_ok {G : aG} {h : aH} {y0 : Int32} {r : Int32} (hL : J_X3_joined_102  y0 = some r) : AG G M_X3_joined 102 [none, none, none] [.int (y0)] h (.inl (some (.int r)), h) := by
  unfold J_X3_joined_102 at hL
  obtain rfl := Option.some.inj hL
  exact g_iret rfl dX3_joined_102
def J_X3_joined_91 (y0 : Int32) : Option (Int32) :=
  some (y0)
set_option maxRecDepth 20000 in
theorem J_X3_joined_91_ok {G : aG} {h : aH} {y0 : Int32} {r : Int32} (hL : J_X3_joined_91  y0 = some r) : AG G M_X3_joined 91 [none, none, none] [.int (y0)] h (.inl (some (.int r)), h) := by
  unfold J_X3_joined_91 at hL
  obtain rfl := Option.some.inj hL
  exact g_iret rfl dX3_joined_91
def L_X3_joined (a1 : Int32) (a2 : Int32) (a3 : Int32) : Option (Int32) :=
  if a1 = (-102) then if a2 = 0 then J_X3_joined_126   else if a3 = 0 then J_X3_joined_126   else J_X3_joined_127  (1) else if a1 = (-61) then if a2 = a3 then J_X3_joined_113  (1) else J_X3_joined_113  (0) else if a1 = (-60) then if a3 ≤ a2 then J_X3_joined_102  (0) else J_X3_joined_102  (1) else if a1 = (-47) then if a3 = 0 then J_X3_joined_91  (0) else xB (xDiv (a2) (a3)) fun v9 => J_X3_joined_91  (v9) else if a1 = (-45) then some ((a2 - a3)) else if a1 = (-43) then some ((a2 + a3)) else if a1 = (-42) then some ((a2 * a3)) else if a2 = 0 then if a3 = 0 then J_X3_joined_141  (0) else J_X3_joined_136   else J_X3_joined_136  
set_option maxRecDepth 20000 in
theorem C_X3_joined {G : aG} {h : aH} {a1 : Int32} {a2 : Int32} {a3 : Int32} {r : Int32} (hL : L_X3_joined a1 a2 a3 = some r) : AC G M_X3_joined [.int a1, .int a2, .int a3] h (.inl (some (.int r)), h) := by
  unfold L_X3_joined at hL
  refine AC.of (by decide) rfl (Nat.le_of_ble_eq_true rfl) ?_
  show AG G M_X3_joined 0 [some (.int (a1)), some (.int (a2)), some (.int (a3))] [] _ _
  refine g_iload_n dX3_joined_0 rfl rfl ?_
  refine g_none 0 ?_
  by_cases q1 : a1 = (-102)
  · rw [if_pos q1] at hL
    refine g_lookup (off := 113) (tgt := 114) dX3_joined_1 (by decide +kernel) (by rw [q1]; decide +kernel) (by decide) ?_
    refine g_iload_n dX3_joined_114 rfl rfl ?_
    refine g_none 1 ?_
    refine g_if_eq (tgt := 126) dX3_joined_115 (by decide) (fun q3 => ?_) (fun q3 => ?_)
    · rw [if_pos q3] at hL
      refine g_none 2 ?_
      exact J_X3_joined_126_ok hL 
    · rw [if_neg q3] at hL
      refine g_iload_n dX3_joined_118 rfl rfl ?_
      refine g_none 2 ?_
      refine g_if_eq (tgt := 126) dX3_joined_119 (by decide) (fun q2 => ?_) (fun q2 => ?_)
      · rw [if_pos q2] at hL
        exact J_X3_joined_126_ok hL 
      · rw [if_neg q2] at hL
        refine g_iconst (v := 1) dX3_joined_122 (by decide) ?_
        refine g_goto (tgt := 127) dX3_joined_123 (by decide) ?_
        exact J_X3_joined_127_ok hL 
  rw [if_neg q1] at hL
  by_cases q4 : a1 = (-61)
  · rw [if_pos q4] at hL
    refine g_lookup (off := 102) (tgt := 103) dX3_joined_1 (by decide +kernel) (by rw [q4]; decide +kernel) (by decide) ?_
    refine g_iload_n dX3_joined_103 rfl rfl ?_
    refine g_none 1 ?_
    refine g_iload_n dX3_joined_104 rfl rfl ?_
    refine g_none 2 ?_
    refine g_icmp_ne (tgt := 112) dX3_joined_105 (by decide) (fun q5 => ?_) (fun q5 => ?_)
    · rw [if_neg q5] at hL
      refine g_iconst (v := 0) dX3_joined_112 (by decide) ?_
      exact J_X3_joined_113_ok hL 
    · rw [if_pos q5] at hL
      refine g_iconst (v := 1) dX3_joined_108 (by decide) ?_
      refine g_goto (tgt := 113) dX3_joined_109 (by decide) ?_
      exact J_X3_joined_113_ok hL 
  rw [if_neg q4] at hL
  by_cases q6 : a1 = (-60)
  · rw [if_pos q6] at hL
    refine g_lookup (off := 91) (tgt := 92) dX3_joined_1 (by decide +kernel) (by rw [q6]; decide +kernel) (by decide) ?_
    refine g_iload_n dX3_joined_92 rfl rfl ?_
    refine g_none 1 ?_
    refine g_iload_n dX3_joined_93 rfl rfl ?_
    refine g_none 2 ?_
    refine g_icmp_ge (tgt := 101) dX3_joined_94 (by decide) (fun q7 => ?_) (fun q7 => ?_)
    · rw [if_pos q7] at hL
      refine g_iconst (v := 0) dX3_joined_101 (by decide) ?_
      exact J_X3_joined_102_ok hL 
    · rw [if_neg q7] at hL
      refine g_iconst (v := 1) dX3_joined_97 (by decide) ?_
      refine g_goto (tgt := 102) dX3_joined_98 (by decide) ?_
      exact J_X3_joined_102_ok hL 
  rw [if_neg q6] at hL
  by_cases q8 : a1 = (-47)
  · rw [if_pos q8] at hL
    refine g_lookup (off := 79) (tgt := 80) dX3_joined_1 (by decide +kernel) (by rw [q8]; decide +kernel) (by decide) ?_
    refine g_iload_n dX3_joined_80 rfl rfl ?_
    refine g_if_ne (tgt := 88) dX3_joined_81 (by decide) (fun q10 => ?_) (fun q10 => ?_)
    · rw [if_neg q10] at hL
      refine g_iload_n dX3_joined_88 rfl rfl ?_
      refine g_none 1 ?_
      refine g_iload_n dX3_joined_89 rfl rfl ?_
      refine g_none 2 ?_
      refine s_idiv hL dX3_joined_90 ?_
      intro v9 hL
      exact J_X3_joined_91_ok hL 
    · rw [if_pos q10] at hL
      refine g_none 1 ?_
      refine g_none 2 ?_
      refine g_iconst (v := 0) dX3_joined_84 (by decide) ?_
      refine g_goto (tgt := 91) dX3_joined_85 (by decide) ?_
      exact J_X3_joined_91_ok hL 
  rw [if_neg q8] at hL
  by_cases q11 : a1 = (-45)
  · rw [if_pos q11] at hL
    refine g_lookup (off := 71) (tgt := 72) dX3_joined_1 (by decide +kernel) (by rw [q11]; decide +kernel) (by decide) ?_
    refine g_iload_n dX3_joined_72 rfl rfl ?_
    refine g_none 1 ?_
    refine g_iload_n dX3_joined_73 rfl rfl ?_
    refine g_none 2 ?_
    refine g_isub dX3_joined_74 ?_
    obtain rfl := Option.some.inj hL
    exact g_iret rfl dX3_joined_75
  rw [if_neg q11] at hL
  by_cases q12 : a1 = (-43)
  · rw [if_pos q12] at hL
    refine g_lookup (off := 67) (tgt := 68) dX3_joined_1 (by decide +kernel) (by rw [q12]; decide +kernel) (by decide) ?_
    refine g_iload_n dX3_joined_68 rfl rfl ?_
    refine g_none 1 ?_
    refine g_iload_n dX3_joined_69 rfl rfl ?_
    refine g_none 2 ?_
    refine g_iadd dX3_joined_70 ?_
    obtain rfl := Option.some.inj hL
    exact g_iret rfl dX3_joined_71
  rw [if_neg q12] at hL
  by_cases q13 : a1 = (-42)
  · rw [if_pos q13] at hL
    refine g_lookup (off := 75) (tgt := 76) dX3_joined_1 (by decide +kernel) (by rw [q13]; decide +kernel) (by decide) ?_
    refine g_iload_n dX3_joined_76 rfl rfl ?_
    refine g_none 1 ?_
    refine g_iload_n dX3_joined_77 rfl rfl ?_
    refine g_none 2 ?_
    refine g_imul dX3_joined_78 ?_
    obtain rfl := Option.some.inj hL
    exact g_iret rfl dX3_joined_79
  rw [if_neg q13] at hL
  refine g_lookup (off := 127) (tgt := 128) dX3_joined_1 (by decide +kernel) (by show Op.lookupswitch.offset [(-102, 113), (-61, 102), (-60, 91), (-47, 79), (-45, 71), (-43, 67), (-42, 75)] (127) _ = _; rw [lv_osw (k := -102) q1 (by decide), lv_osw (k := -61) q4 (by decide), lv_osw (k := -60) q6 (by decide), lv_osw (k := -47) q8 (by decide), lv_osw (k := -45) q11 (by decide), lv_osw (k := -43) q12 (by decide), lv_osw (k := -42) q13 (by decide)]; rfl) (by decide) ?_
  refine g_iload_n dX3_joined_128 rfl rfl ?_
  refine g_none 1 ?_
  refine g_if_ne (tgt := 136) dX3_joined_129 (by decide) (fun q15 => ?_) (fun q15 => ?_)
  · rw [if_neg q15] at hL
    refine g_none 2 ?_
    exact J_X3_joined_136_ok hL 
  · rw [if_pos q15] at hL
    refine g_iload_n dX3_joined_132 rfl rfl ?_
    refine g_none 2 ?_
    refine g_if_eq (tgt := 140) dX3_joined_133 (by decide) (fun q14 => ?_) (fun q14 => ?_)
    · rw [if_pos q14] at hL
      refine g_iconst (v := 0) dX3_joined_140 (by decide) ?_
      exact J_X3_joined_141_ok hL 
    · rw [if_neg q14] at hL
      exact J_X3_joined_136_ok hL 
def J_X3_give_r0_x40_136 (o : wO) (kh4 : Int32 → Int32 → wS → Option (Int32 × wS)) (ke142 : wS → Option (Int32 × wS)) (x2 : Int32) (x3 : Int32) (w : wS) : Option (Int32 × wS) :=
  kh4 (x2) ((x3 + 1)) w
set_option maxRecDepth 20000 in
theorem J_X3_give_r0_x40_136_ok {G : aG} {Hf : wS → aH} {bx : Nat} {o : wO} {kh4 : Int32 → Int32 → wS → Option (Int32 × wS)} {ke142 : wS → Option (Int32 × wS)} {x2 : Int32} {x3 : Int32} {w : wS} {r : Int32 × wS} (hG : aGood G) (E : EX Hf bx o) (hr : oR o + 0 ≠ 0) (hL : J_X3_give_r0_x40_136 o kh4 ke142 x2 x3 w = some r) (Hkh4 : ∀ (z0 : Int32) (z1 : Int32) (w : wS), kh4 z0 z1 w = some r → AG G M_X3_give 4 [some (.ref (oR o + 0)), some (.ref (bx + 40)), some (.int (z0)), some (.int (z1)), none] [] (Hf w) (.inl (some (.int r.1)), Hf r.2)) (Hke142 : ∀ (w : wS), ke142  w = some r → AG G M_X3_give 142 [some (.ref (oR o + 0)), none, none, none, none] [] (Hf w) (.inl (some (.int r.1)), Hf r.2)) : AG G M_X3_give 136 [some (.ref (oR o + 0)), some (.ref (bx + 40)), some (.int (x2)), some (.int (x3)), none] [] (Hf w) (.inl (some (.int r.1)), Hf r.2) := by
  unfold J_X3_give_r0_x40_136 at hL
  refine g_iincV (v := (x3 + 1)) dX3_give_136 rfl rfl (by decide) rfl ?_
  refine g_goto (tgt := 4) dX3_give_139 (by decide) ?_
  exact Hkh4 _ _ _ hL
def J_X3_give_r0_x40_97 (o : wO) (kh4 : Int32 → Int32 → wS → Option (Int32 × wS)) (ke142 : wS → Option (Int32 × wS)) (x2 : Int32) (x3 : Int32) (y1 : Int32) (y2 : Int32) (w : wS) : Option (Int32 × wS) :=
  xB (xAst w 2002 64 (y1) (y2)) fun w1 => J_X3_give_r0_x40_136 o kh4 ke142 (x2) (x3) w1
set_option maxRecDepth 20000 in
theorem J_X3_give_r0_x40_97_ok {G : aG} {Hf : wS → aH} {bx : Nat} {o : wO} {kh4 : Int32 → Int32 → wS → Option (Int32 × wS)} {ke142 : wS → Option (Int32 × wS)} {x2 : Int32} {x3 : Int32} {y1 : Int32} {y2 : Int32} {w : wS} {r : Int32 × wS} (hG : aGood G) (E : EX Hf bx o) (hr : oR o + 0 ≠ 0) (hL : J_X3_give_r0_x40_97 o kh4 ke142 x2 x3 y1 y2 w = some r) (Hkh4 : ∀ (z0 : Int32) (z1 : Int32) (w : wS), kh4 z0 z1 w = some r → AG G M_X3_give 4 [some (.ref (oR o + 0)), some (.ref (bx + 40)), some (.int (z0)), some (.int (z1)), none] [] (Hf w) (.inl (some (.int r.1)), Hf r.2)) (Hke142 : ∀ (w : wS), ke142  w = some r → AG G M_X3_give 142 [some (.ref (oR o + 0)), none, none, none, none] [] (Hf w) (.inl (some (.int r.1)), Hf r.2)) : AG G M_X3_give 97 [some (.ref (oR o + 0)), some (.ref (bx + 40)), some (.int (x2)), some (.int (x3)), none] [.int (y2), .int (y1), .ref (oR o + 2)] (Hf w) (.inl (some (.int r.1)), Hf r.2) := by
  unfold J_X3_give_r0_x40_97 at hL
  refine s_iast (k := 2) (E.2.2.1 hr) hL rfl dX3_give_97 ?_
  intro w1 hL
  refine g_goto (tgt := 136) dX3_give_98 (by decide) ?_
  exact J_X3_give_r0_x40_136_ok hG E hr hL Hkh4 Hke142
def J_X3_give_r0_x40_55 (o : wO) (kh4 : Int32 → Int32 → wS → Option (Int32 × wS)) (ke142 : wS → Option (Int32 × wS)) (x2 : Int32) (x3 : Int32) (y1 : Int32) (y2 : Int32) (w : wS) : Option (Int32 × wS) :=
  xB (xAst w 2002 64 (y1) (y2)) fun w2 => J_X3_give_r0_x40_136 o kh4 ke142 ((x2 + 1)) (x3) w2
set_option maxRecDepth 20000 in
theorem J_X3_give_r0_x40_55_ok {G : aG} {Hf : wS → aH} {bx : Nat} {o : wO} {kh4 : Int32 → Int32 → wS → Option (Int32 × wS)} {ke142 : wS → Option (Int32 × wS)} {x2 : Int32} {x3 : Int32} {y1 : Int32} {y2 : Int32} {w : wS} {r : Int32 × wS} (hG : aGood G) (E : EX Hf bx o) (hr : oR o + 0 ≠ 0) (hL : J_X3_give_r0_x40_55 o kh4 ke142 x2 x3 y1 y2 w = some r) (Hkh4 : ∀ (z0 : Int32) (z1 : Int32) (w : wS), kh4 z0 z1 w = some r → AG G M_X3_give 4 [some (.ref (oR o + 0)), some (.ref (bx + 40)), some (.int (z0)), some (.int (z1)), none] [] (Hf w) (.inl (some (.int r.1)), Hf r.2)) (Hke142 : ∀ (w : wS), ke142  w = some r → AG G M_X3_give 142 [some (.ref (oR o + 0)), none, none, none, none] [] (Hf w) (.inl (some (.int r.1)), Hf r.2)) : AG G M_X3_give 55 [some (.ref (oR o + 0)), some (.ref (bx + 40)), some (.int (x2)), some (.int (x3)), none] [.int (y2), .int (y1), .ref (oR o + 2)] (Hf w) (.inl (some (.int r.1)), Hf r.2) := by
  unfold J_X3_give_r0_x40_55 at hL
  refine s_iast (k := 2) (E.2.2.1 hr) hL rfl dX3_give_55 ?_
  intro w2 hL
  refine g_iincV (v := (x2 + 1)) dX3_give_56 rfl rfl (by decide) rfl ?_
  refine g_goto (tgt := 136) dX3_give_59 (by decide) ?_
  exact J_X3_give_r0_x40_136_ok hG E hr hL Hkh4 Hke142
def B_X3_give_r0_x40_4 (o : wO) (kh4 : Int32 → Int32 → wS → Option (Int32 × wS)) (ke142 : wS → Option (Int32 × wS)) (x2 : Int32) (x3 : Int32) (w : wS) : Option (Int32 × wS) :=
  if (Int32.ofNat (oRn o)) ≤ x3 then ke142  w else xB (xAld w 2001 (oRn o) (x3)) fun v3 => if v3 < (-7) then if v3 = (-103) then if x2 < 1 then J_X3_give_r0_x40_136 o kh4 ke142 (x2) (x3) w else xB (xAld w 2002 64 ((x2 - (1 : Int32)))) fun v9 => if v9 = 0 then J_X3_give_r0_x40_97 o kh4 ke142 (x2) (x3) ((x2 - (1 : Int32))) (1) w else J_X3_give_r0_x40_97 o kh4 ke142 (x2) (x3) ((x2 - (1 : Int32))) (0) w else if x2 < 2 then J_X3_give_r0_x40_136 o kh4 ke142 (x2) (x3) w else xB (xAld w 2002 64 (((x2 + (-1)) - (1 : Int32)))) fun v4 => xB (xAld w 2002 64 ((x2 + (-1)))) fun v5 => xB (L_X3_joined (v3) (v4) (v5)) fun v6 => xB (xAst w 2002 64 (((x2 + (-1)) - (1 : Int32))) (v6)) fun w7 => J_X3_give_r0_x40_136 o kh4 ke142 ((x2 + (-1))) (x3) w7 else if 64 ≤ x2 then J_X3_give_r0_x40_136 o kh4 ke142 (x2) (x3) w else if v3 < 0 then xB (xAld w 40 7 ((((-1) : Int32) - v3))) fun v13 => J_X3_give_r0_x40_55 o kh4 ke142 (x2) (x3) (x2) (v13) w else J_X3_give_r0_x40_55 o kh4 ke142 (x2) (x3) (x2) (v3) w
set_option maxRecDepth 20000 in
theorem B_X3_give_r0_x40_4_ok {G : aG} {Hf : wS → aH} {bx : Nat} {o : wO} {kh4 : Int32 → Int32 → wS → Option (Int32 × wS)} {ke142 : wS → Option (Int32 × wS)} {x2 : Int32} {x3 : Int32} {w : wS} {r : Int32 × wS} (hG : aGood G) (E : EX Hf bx o) (hr : oR o + 0 ≠ 0) (hL : B_X3_give_r0_x40_4 o kh4 ke142 x2 x3 w = some r) (Hkh4 : ∀ (z0 : Int32) (z1 : Int32) (w : wS), kh4 z0 z1 w = some r → AG G M_X3_give 4 [some (.ref (oR o + 0)), some (.ref (bx + 40)), some (.int (z0)), some (.int (z1)), none] [] (Hf w) (.inl (some (.int r.1)), Hf r.2)) (Hke142 : ∀ (w : wS), ke142  w = some r → AG G M_X3_give 142 [some (.ref (oR o + 0)), none, none, none, none] [] (Hf w) (.inl (some (.int r.1)), Hf r.2)) : AG G M_X3_give 4 [some (.ref (oR o + 0)), some (.ref (bx + 40)), some (.int (x2)), some (.int (x3)), none] [] (Hf w) (.inl (some (.int r.1)), Hf r.2) := by
  unfold B_X3_give_r0_x40_4 at hL
  refine g_iload_n dX3_give_4 rfl rfl ?_
  refine g_aload_n dX3_give_5 rfl rfl ?_
  refine s_getR (k := 0) (j := 0) (E.2.2.1 hr) rfl rfl f_X3_13 dX3_give_6 ?_
  refine g_alen (v := (Int32.ofNat (oRn o))) dX3_give_9 (by have := (E.2.2.1 hr).1; omega) (show 0 < 4 by decide) ((E.2.2.1 hr).2.1 _ 1 _ rfl) rfl ?_
  refine g_icmp_ge (tgt := 142) dX3_give_10 (by decide) (fun q17 => ?_) (fun q17 => ?_)
  · rw [if_pos q17] at hL
    refine g_none 1 ?_
    refine g_none 2 ?_
    refine g_none 3 ?_
    exact Hke142  _ hL
  · rw [if_neg q17] at hL
    refine g_aload_n dX3_give_13 rfl rfl ?_
    refine s_getR (k := 0) (j := 0) (E.2.2.1 hr) rfl rfl f_X3_13 dX3_give_14 ?_
    refine g_iload_n dX3_give_17 rfl rfl ?_
    refine s_iald (k := 1) (E.2.2.1 hr) hL rfl dX3_give_18 ?_
    intro v3 hL
    refine g_istore (i := 4) dX3_give_19 (by decide) rfl ?_
    refine g_iload dX3_give_21 rfl ?_
    refine g_bipush (v := (-7)) dX3_give_23 (by decide) ?_
    refine g_icmp_lt (tgt := 62) dX3_give_25 (by decide) (fun q16 => ?_) (fun q16 => ?_)
    · rw [if_pos q16] at hL
      refine g_iload dX3_give_62 rfl ?_
      refine g_bipush (v := (-103)) dX3_give_64 (by decide) ?_
      refine g_icmp_ne (tgt := 101) dX3_give_66 (by decide) (fun q12 => ?_) (fun q12 => ?_)
      · rw [if_neg q12] at hL
        refine g_iload_n dX3_give_101 rfl rfl ?_
        refine g_iconst (v := 2) dX3_give_102 (by decide) ?_
        refine g_icmp_lt (tgt := 136) dX3_give_103 (by decide) (fun q8 => ?_) (fun q8 => ?_)
        · rw [if_pos q8] at hL
          refine g_none 4 ?_
          exact J_X3_give_r0_x40_136_ok hG E hr hL Hkh4 Hke142
        · rw [if_neg q8] at hL
          refine g_iincV (v := (x2 + (-1))) dX3_give_106 rfl rfl (by decide) rfl ?_
          refine g_aload_n dX3_give_109 rfl rfl ?_
          refine s_getR (k := 0) (j := 1) (E.2.2.1 hr) rfl rfl f_X3_9 dX3_give_110 ?_
          refine g_iload_n dX3_give_113 rfl rfl ?_
          refine g_iconst (v := 1) dX3_give_114 (by decide) ?_
          refine g_isub dX3_give_115 ?_
          refine g_iload dX3_give_116 rfl ?_
          refine g_none 4 ?_
          refine g_aload_n dX3_give_118 rfl rfl ?_
          refine s_getR (k := 0) (j := 1) (E.2.2.1 hr) rfl rfl f_X3_9 dX3_give_119 ?_
          refine g_iload_n dX3_give_122 rfl rfl ?_
          refine g_iconst (v := 1) dX3_give_123 (by decide) ?_
          refine g_isub dX3_give_124 ?_
          refine s_iald (k := 2) (E.2.2.1 hr) hL rfl dX3_give_125 ?_
          intro v4 hL
          refine g_aload_n dX3_give_126 rfl rfl ?_
          refine s_getR (k := 0) (j := 1) (E.2.2.1 hr) rfl rfl f_X3_9 dX3_give_127 ?_
          refine g_iload_n dX3_give_130 rfl rfl ?_
          refine s_iald (k := 2) (E.2.2.1 hr) hL rfl dX3_give_131 ?_
          intro v5 hL
          obtain ⟨v6, hc, hL⟩ := xB_some hL
          refine g_callS (M' := M_X3_joined) (as := [.int (v3), .int (v4), .int (v5)]) (v := some (.int (v6))) l_X3_16 kS_X3_joined (by decide) (C_X3_joined hc) rfl (Nat.le_of_ble_eq_true rfl) dX3_give_132 ?_
          refine s_iast (k := 2) (E.2.2.1 hr) hL rfl dX3_give_135 ?_
          intro w7 hL
          exact J_X3_give_r0_x40_136_ok hG E hr hL Hkh4 Hke142
      · rw [if_pos q12] at hL
        refine g_none 4 ?_
        refine g_iload_n dX3_give_69 rfl rfl ?_
        refine g_iconst (v := 1) dX3_give_70 (by decide) ?_
        refine g_icmp_lt (tgt := 136) dX3_give_71 (by decide) (fun q11 => ?_) (fun q11 => ?_)
        · rw [if_pos q11] at hL
          exact J_X3_give_r0_x40_136_ok hG E hr hL Hkh4 Hke142
        · rw [if_neg q11] at hL
          refine g_aload_n dX3_give_74 rfl rfl ?_
          refine s_getR (k := 0) (j := 1) (E.2.2.1 hr) rfl rfl f_X3_9 dX3_give_75 ?_
          refine g_iload_n dX3_give_78 rfl rfl ?_
          refine g_iconst (v := 1) dX3_give_79 (by decide) ?_
          refine g_isub dX3_give_80 ?_
          refine g_aload_n dX3_give_81 rfl rfl ?_
          refine s_getR (k := 0) (j := 1) (E.2.2.1 hr) rfl rfl f_X3_9 dX3_give_82 ?_
          refine g_iload_n dX3_give_85 rfl rfl ?_
          refine g_iconst (v := 1) dX3_give_86 (by decide) ?_
          refine g_isub dX3_give_87 ?_
          refine s_iald (k := 2) (E.2.2.1 hr) hL rfl dX3_give_88 ?_
          intro v9 hL
          refine g_if_ne (tgt := 96) dX3_give_89 (by decide) (fun q10 => ?_) (fun q10 => ?_)
          · rw [if_neg q10] at hL
            refine g_iconst (v := 0) dX3_give_96 (by decide) ?_
            exact J_X3_give_r0_x40_97_ok hG E hr hL Hkh4 Hke142
          · rw [if_pos q10] at hL
            refine g_iconst (v := 1) dX3_give_92 (by decide) ?_
            refine g_goto (tgt := 97) dX3_give_93 (by decide) ?_
            exact J_X3_give_r0_x40_97_ok hG E hr hL Hkh4 Hke142
    · rw [if_neg q16] at hL
      refine g_iload_n dX3_give_28 rfl rfl ?_
      refine g_bipush (v := 64) dX3_give_29 (by decide) ?_
      refine g_icmp_ge (tgt := 136) dX3_give_31 (by decide) (fun q15 => ?_) (fun q15 => ?_)
      · rw [if_pos q15] at hL
        refine g_none 4 ?_
        exact J_X3_give_r0_x40_136_ok hG E hr hL Hkh4 Hke142
      · rw [if_neg q15] at hL
        refine g_aload_n dX3_give_34 rfl rfl ?_
        refine s_getR (k := 0) (j := 1) (E.2.2.1 hr) rfl rfl f_X3_9 dX3_give_35 ?_
        refine g_iload_n dX3_give_38 rfl rfl ?_
        refine g_iload dX3_give_39 rfl ?_
        refine g_if_lt (tgt := 49) dX3_give_41 (by decide) (fun q14 => ?_) (fun q14 => ?_)
        · rw [if_pos q14] at hL
          refine g_aload_n dX3_give_49 rfl rfl ?_
          refine g_iconst (v := (-1)) dX3_give_50 (by decide) ?_
          refine g_iload dX3_give_51 rfl ?_
          refine g_none 4 ?_
          refine g_isub dX3_give_53 ?_
          refine s_iald (k := 40) E.1 hL rfl dX3_give_54 ?_
          intro v13 hL
          exact J_X3_give_r0_x40_55_ok hG E hr hL Hkh4 Hke142
        · rw [if_neg q14] at hL
          refine g_iload dX3_give_44 rfl ?_
          refine g_none 4 ?_
          refine g_goto (tgt := 55) dX3_give_46 (by decide) ?_
          exact J_X3_give_r0_x40_55_ok hG E hr hL Hkh4 Hke142
def P_X3_give_r0_x40_4 (o : wO) (ke142 : wS → Option (Int32 × wS)) (n : Nat) (x2 : Int32) (x3 : Int32) (w : wS) : Option (Int32 × wS) :=
  xLoop (fun (kk : Int32 × Int32 × wS → Option (Int32 × wS)) σ => B_X3_give_r0_x40_4 o (fun x2 x3 w => kk (x2, x3, w)) ke142 (σ.1) (σ.2.1) (σ.2.2)) n (x2, x3, w)
theorem P_X3_give_r0_x40_4_ok {G : aG} {Hf : wS → aH} {bx : Nat} {o : wO} {ke142 : wS → Option (Int32 × wS)} {n : Nat} {x2 : Int32} {x3 : Int32} {w : wS} {r : Int32 × wS} (hG : aGood G) (E : EX Hf bx o) (hr : oR o + 0 ≠ 0) (hL : P_X3_give_r0_x40_4 o ke142 n x2 x3 w = some r) (Hke142 : ∀ (w : wS), ke142  w = some r → AG G M_X3_give 142 [some (.ref (oR o + 0)), none, none, none, none] [] (Hf w) (.inl (some (.int r.1)), Hf r.2)) : AG G M_X3_give 4 [some (.ref (oR o + 0)), some (.ref (bx + 40)), some (.int (x2)), some (.int (x3)), none] [] (Hf w) (.inl (some (.int r.1)), Hf r.2) :=
  xLoop_ok (Q := fun (σ : Int32 × Int32 × wS) => AG G M_X3_give 4 [some (.ref (oR o + 0)), some (.ref (bx + 40)), some (.int (σ.1)), some (.int (σ.2.1)), none] [] (Hf σ.2.2) (.inl (some (.int r.1)), Hf r.2)) (fun kk hk σ hσ => B_X3_give_r0_x40_4_ok hG E hr hσ (fun x2 x3 w h9 => hk (x2, x3, w) h9) Hke142) n (x2, x3, w) hL
def L_X3_give_r0_x40 (o : wO) (w : wS) : Option (Int32 × wS) :=
  P_X3_give_r0_x40_4 o (fun w18 => xB (xAld w18 2002 64 (0)) fun v19 => some (v19, w18)) 5000 (0) (0) w
set_option maxRecDepth 20000 in
theorem C_X3_give_r0_x40 {G : aG} {Hf : wS → aH} {bx : Nat} {o : wO} {w : wS} {r : Int32 × wS} (hG : aGood G) (E : EX Hf bx o) (hr : oR o + 0 ≠ 0) (hL : L_X3_give_r0_x40 o  w = some r) : AC G M_X3_give [.ref (oR o + 0), .ref (bx + 40)] (Hf w) (.inl (some (.int r.1)), Hf r.2) := by
  unfold L_X3_give_r0_x40 at hL
  refine AC.of (by decide) rfl (Nat.le_of_ble_eq_true rfl) ?_
  show AG G M_X3_give 0 [some (.ref (oR o + 0)), some (.ref (bx + 40)), none, none, none] [] _ _
  refine g_iconst (v := 0) dX3_give_0 (by decide) ?_
  refine g_istore_n (i := 2) dX3_give_1 rfl (by decide) rfl ?_
  refine g_iconst (v := 0) dX3_give_2 (by decide) ?_
  refine g_istore_n (i := 3) dX3_give_3 rfl (by decide) rfl ?_
  refine P_X3_give_r0_x40_4_ok hG E hr hL ?_
  · intro w18 hL
    refine g_aload_n dX3_give_142 rfl rfl ?_
    refine g_none 0 ?_
    refine s_getR (k := 0) (j := 1) (E.2.2.1 hr) rfl rfl f_X3_9 dX3_give_143 ?_
    refine g_iconst (v := 0) dX3_give_146 (by decide) ?_
    refine s_iald (k := 2) (E.2.2.1 hr) hL rfl dX3_give_147 ?_
    intro v19 hL
    obtain rfl := Option.some.inj hL
    exact g_iret rfl dX3_give_148
def J_X1_ring_108 (o : wO) (w : wS) : Option (wS) :=
  some w
set_option maxRecDepth 20000 in
theorem J_X1_ring_108_ok {G : aG} {Hf : wS → aH} {bx : Nat} {o : wO} {w : wS} {r : wS} (hG : aGood G) (E : EX Hf bx o) (hL : J_X1_ring_108 o   w = some r) : AG G M_X1_ring 108 [none, none, none, none, none] [] (Hf w) (.inl none, Hf r) := by
  unfold J_X1_ring_108 at hL
  obtain rfl := Option.some.inj hL
  exact g_vret rfl dX1_ring_108
def J_X1_ring_62 (o : wO) (x1 : Int32) (x2 : Int32) (y0 : Int32) (w : wS) : Option (wS) :=
  xB (L_X9_within (y0) (0) (120)) fun v1 => xB (xAst w 38 6 (x1) (v1)) fun w2 => xB (L_X5_ringOnce_x31 o (x2) w2) fun w3 => xB (xAld w3 34 8 (x2)) fun v4 => xB (xAst w3 34 8 (x2) ((v4 + (1 : Int32)))) fun w5 => xB (xGet w5 3011) fun v6 => xB (xPut w5 3011 ((v6 ||| ((1 : Int32) <<< (x2 &&& 31))))) fun w7 => J_X1_ring_108 o   w7
set_option maxRecDepth 20000 in
theorem J_X1_ring_62_ok {G : aG} {Hf : wS → aH} {bx : Nat} {o : wO} {x1 : Int32} {x2 : Int32} {y0 : Int32} {w : wS} {r : wS} (hG : aGood G) (E : EX Hf bx o) (hL : J_X1_ring_62 o  x1 x2 y0 w = some r) : AG G M_X1_ring 62 [some (.ref (bx + 30)), some (.int (x1)), some (.int (x2)), none, none] [.int (y0)] (Hf w) (.inl none, Hf r) := by
  unfold J_X1_ring_62 at hL
  refine g_istore (i := 4) dX1_ring_62 (by decide) rfl ?_
  refine g_aload_n dX1_ring_64 rfl rfl ?_
  refine s_getR (k := 30) (j := 6) E.1 rfl rfl f_X1_34 dX1_ring_65 ?_
  refine g_iload_n dX1_ring_68 rfl rfl ?_
  refine g_none 1 ?_
  refine g_iload dX1_ring_69 rfl ?_
  refine g_none 4 ?_
  refine g_iconst (v := 0) dX1_ring_71 (by decide) ?_
  refine g_bipush (v := 120) dX1_ring_72 (by decide) ?_
  obtain ⟨v1, hc, hL⟩ := xB_some hL
  refine g_callS (M' := M_X9_within) (as := [.int (y0), .int (0), .int (120)]) (v := some (.int (v1))) l_X1_143 kS_X9_within (by decide) (C_X9_within hc) rfl (Nat.le_of_ble_eq_true rfl) dX1_ring_74 ?_
  refine s_iast (k := 38) E.1 hL rfl dX1_ring_77 ?_
  intro w2 hL
  refine g_aload_n dX1_ring_78 rfl rfl ?_
  refine s_getR (k := 30) (j := 0) E.1 rfl rfl f_X1_12 dX1_ring_79 ?_
  refine g_iload_n dX1_ring_82 rfl rfl ?_
  obtain ⟨w3, hc, hL⟩ := xB_some hL
  refine g_callV (M' := M_X5_ringOnce) (as := [.int (x2)]) (v := none) l_X1_147 kV_X5_ringOnce (by decide) (C_X5_ringOnce_x31 hG E hc) rfl (by have := E.1.1; omega) (E.1.2.1 _ 31 _ rfl) ⟨_, _, rfl⟩ (Nat.le_of_ble_eq_true rfl) dX1_ring_83 ?_
  refine g_aload_n dX1_ring_86 rfl rfl ?_
  refine s_getR (k := 30) (j := 2) E.1 rfl rfl f_X1_22 dX1_ring_87 ?_
  refine g_iload_n dX1_ring_90 rfl rfl ?_
  refine g_dup2 dX1_ring_91 rfl rfl ?_
  refine s_iald (k := 34) E.1 hL rfl dX1_ring_92 ?_
  intro v4 hL
  refine g_iconst (v := 1) dX1_ring_93 (by decide) ?_
  refine g_iadd dX1_ring_94 ?_
  refine s_iast (k := 34) E.1 hL rfl dX1_ring_95 ?_
  intro w5 hL
  refine g_aload_n dX1_ring_96 rfl rfl ?_
  refine g_none 0 ?_
  refine g_dup dX1_ring_97 rfl ?_
  refine s_getI (k := 30) (j := 11) E.1 hL rfl rfl f_X1_56 dX1_ring_98 ?_
  intro v6 hL
  refine g_iconst (v := 1) dX1_ring_101 (by decide) ?_
  refine g_iload_n dX1_ring_102 rfl rfl ?_
  refine g_none 2 ?_
  refine g_ishl dX1_ring_103 ?_
  refine g_ior dX1_ring_104 ?_
  refine s_putI (k := 30) (j := 11) E.1 hL rfl rfl (by decide) fw_X1_56 rfl rfl dX1_ring_105 ?_
  intro w7 hL
  exact J_X1_ring_108_ok hG E hL 
def L_X1_ring (o : wO) (a1 : Int32) (w : wS) : Option (wS) :=
  xB2 (L_X5_ringer_x31 o  w) fun v8 w9 => xB (xAst w9 37 6 (a1) (v8)) fun w10 => xB (xAst w10 38 6 (a1) (0)) fun w11 => if v8 = (-1) then J_X1_ring_108 o   w11 else xIf (xRef w11 3010 (oT o + 0)) (xNu w11 100009 (oR o + 0) (xB2 (L_X5_lateOf_x31 o (v8) w11) fun v12 w13 => xB (xDiv (v12) (2)) fun v14 => J_X1_ring_62 o  (a1) (v8) (v14) w13) (xB (L_X1_valuesOf o (v8) (a1) w11) fun w15 => xB2 (L_X3_give_r0_x40 o  w15) fun v16 w17 => J_X1_ring_62 o  (a1) (v8) (v16) w17))
set_option maxRecDepth 20000 in
theorem C_X1_ring {G : aG} {Hf : wS → aH} {bx : Nat} {o : wO} {a1 : Int32} {w : wS} {r : wS} (hG : aGood G) (E : EX Hf bx o) (hL : L_X1_ring o a1 w = some r) : AC G M_X1_ring [.ref (bx + 30), .int a1] (Hf w) (.inl none, Hf r) := by
  unfold L_X1_ring at hL
  refine AC.of (by decide) rfl (Nat.le_of_ble_eq_true rfl) ?_
  show AG G M_X1_ring 0 [some (.ref (bx + 30)), some (.int (a1)), none, none, none] [] _ _
  refine g_aload_n dX1_ring_0 rfl rfl ?_
  refine s_getR (k := 30) (j := 0) E.1 rfl rfl f_X1_12 dX1_ring_1 ?_
  obtain ⟨v8, w9, hc, hL⟩ := xB2_some hL
  refine g_callV (M' := M_X5_ringer) (as := []) (v := some (.int (v8))) l_X1_125 kV_X5_ringer (by decide) (C_X5_ringer_x31 hG E hc) rfl (by have := E.1.1; omega) (E.1.2.1 _ 31 _ rfl) ⟨_, _, rfl⟩ (Nat.le_of_ble_eq_true rfl) dX1_ring_4 ?_
  refine g_istore_n (i := 2) dX1_ring_7 rfl (by decide) rfl ?_
  refine g_aload_n dX1_ring_8 rfl rfl ?_
  refine s_getR (k := 30) (j := 5) E.1 rfl rfl f_X1_31 dX1_ring_9 ?_
  refine g_iload_n dX1_ring_12 rfl rfl ?_
  refine g_iload_n dX1_ring_13 rfl rfl ?_
  refine s_iast (k := 37) E.1 hL rfl dX1_ring_14 ?_
  intro w10 hL
  refine g_aload_n dX1_ring_15 rfl rfl ?_
  refine s_getR (k := 30) (j := 6) E.1 rfl rfl f_X1_34 dX1_ring_16 ?_
  refine g_iload_n dX1_ring_19 rfl rfl ?_
  refine g_iconst (v := 0) dX1_ring_20 (by decide) ?_
  refine s_iast (k := 38) E.1 hL rfl dX1_ring_21 ?_
  intro w11 hL
  refine g_iload_n dX1_ring_22 rfl rfl ?_
  refine g_iconst (v := (-1)) dX1_ring_23 (by decide) ?_
  refine g_icmp_eq (tgt := 108) dX1_ring_24 (by decide) (fun q18 => ?_) (fun q18 => ?_)
  · rw [if_pos q18] at hL
    refine g_none 0 ?_
    refine g_none 1 ?_
    refine g_none 2 ?_
    exact J_X1_ring_108_ok hG E hL 
  · rw [if_neg q18] at hL
    refine g_aload_n dX1_ring_27 rfl rfl ?_
    refine s_getT (k := 30) (j := 10) E.1 hL rfl rfl f_X1_52 dX1_ring_28 ?_
    intro hL
    refine s_getN (k := 0) (j := 9) E.2.1 hL rfl rfl f_X1_129 dX1_ring_31 ?_ ?_
    · intro hL
      refine g_astore_nN (i := 3) dX1_ring_34 rfl (by decide) rfl ?_
      refine g_aload_nN dX1_ring_35 rfl rfl ?_
      refine g_ifnonnullN dX1_ring_36 ?_
      refine g_none 3 ?_
      refine g_aload_n dX1_ring_39 rfl rfl ?_
      refine s_getR (k := 30) (j := 0) E.1 rfl rfl f_X1_12 dX1_ring_40 ?_
      refine g_iload_n dX1_ring_43 rfl rfl ?_
      obtain ⟨v12, w13, hc, hL⟩ := xB2_some hL
      refine g_callV (M' := M_X5_lateOf) (as := [.int (v8)]) (v := some (.int (v12))) l_X1_132 kV_X5_lateOf (by decide) (C_X5_lateOf_x31 hG E hc) rfl (by have := E.1.1; omega) (E.1.2.1 _ 31 _ rfl) ⟨_, _, rfl⟩ (Nat.le_of_ble_eq_true rfl) dX1_ring_44 ?_
      refine g_iconst (v := 2) dX1_ring_47 (by decide) ?_
      refine s_idiv hL dX1_ring_48 ?_
      intro v14 hL
      refine g_goto (tgt := 62) dX1_ring_49 (by decide) ?_
      exact J_X1_ring_62_ok hG E hL 
    · intro hr hL
      refine g_astore_n (i := 3) dX1_ring_34 rfl (by decide) rfl ?_
      refine g_aload_n dX1_ring_35 rfl rfl ?_
      refine g_ifnonnull (tgt := 52) dX1_ring_36 (by decide) ?_
      refine g_aload_n dX1_ring_52 rfl rfl ?_
      refine g_none 3 ?_
      refine g_aload_n dX1_ring_53 rfl rfl ?_
      refine g_iload_n dX1_ring_54 rfl rfl ?_
      refine g_iload_n dX1_ring_55 rfl rfl ?_
      obtain ⟨w15, hc, hL⟩ := xB_some hL
      refine g_callV (M' := M_X1_valuesOf) (as := [.int (v8), .int (a1)]) (v := some (.ref (bx + 40))) l_X1_135 kV_X1_valuesOf (by decide) (C_X1_valuesOf hG E hc) rfl (by have := E.1.1; omega) (E.1.2.1 _ 30 _ rfl) ⟨_, _, rfl⟩ (Nat.le_of_ble_eq_true rfl) dX1_ring_56 ?_
      obtain ⟨v16, w17, hc, hL⟩ := xB2_some hL
      refine g_callV (M' := M_X3_give) (as := [.ref (bx + 40)]) (v := some (.int (v16))) l_X1_139 kV_X3_give (by decide) (C_X3_give_r0_x40 hG E hr hc) rfl (by have := (E.2.2.1 hr).1; omega) ((E.2.2.1 hr).2.1 _ 0 _ rfl) ⟨_, _, rfl⟩ (Nat.le_of_ble_eq_true rfl) dX1_ring_59 ?_
      exact J_X1_ring_62_ok hG E hL 
def J_X1_canBeLast_28 (o : wO) (y0 : Int32) (w : wS) : Option (Int32 × wS) :=
  xB (xBool (y0)) fun v1 => some (v1, w)
set_option maxRecDepth 20000 in
theorem J_X1_canBeLast_28_ok {G : aG} {Hf : wS → aH} {bx : Nat} {o : wO} {y0 : Int32} {w : wS} {r : Int32 × wS} (hG : aGood G) (E : EX Hf bx o) (hL : J_X1_canBeLast_28 o  y0 w = some r) : AG G M_X1_canBeLast 28 [none, none] [.int (y0)] (Hf w) (.inl (some (.int r.1)), Hf r.2) := by
  unfold J_X1_canBeLast_28 at hL
  obtain ⟨v1, hb, hR⟩ := xB_some hL
  obtain ⟨hz, hb2⟩ := xBool_some hb
  clear hL
  subst hz
  obtain rfl := Option.some.inj hR
  exact g_zret rfl (narrow_bool hb2) dX1_canBeLast_28
def J_X1_canBeLast_27 (o : wO) (w : wS) : Option (Int32 × wS) :=
  J_X1_canBeLast_28 o  (0) w
set_option maxRecDepth 20000 in
theorem J_X1_canBeLast_27_ok {G : aG} {Hf : wS → aH} {bx : Nat} {o : wO} {w : wS} {r : Int32 × wS} (hG : aGood G) (E : EX Hf bx o) (hL : J_X1_canBeLast_27 o   w = some r) : AG G M_X1_canBeLast 27 [none, none] [] (Hf w) (.inl (some (.int r.1)), Hf r.2) := by
  unfold J_X1_canBeLast_27 at hL
  refine g_iconst (v := 0) dX1_canBeLast_27 (by decide) ?_
  exact J_X1_canBeLast_28_ok hG E hL 
def L_X1_canBeLast (o : wO) (a1 : Int32) (w : wS) : Option (Int32 × wS) :=
  xB (xAld w 35 8 (a1)) fun v2 => if v2 = (-1) then J_X1_canBeLast_27 o   w else xIf (xRef w 3010 (oT o + 0)) (xB (xAld w 1001 8 (a1)) fun v3 => if v3 = 1 then J_X1_canBeLast_27 o   w else J_X1_canBeLast_28 o  (1) w)
set_option maxRecDepth 20000 in
theorem C_X1_canBeLast {G : aG} {Hf : wS → aH} {bx : Nat} {o : wO} {a1 : Int32} {w : wS} {r : Int32 × wS} (hG : aGood G) (E : EX Hf bx o) (hL : L_X1_canBeLast o a1 w = some r) : AC G M_X1_canBeLast [.ref (bx + 30), .int a1] (Hf w) (.inl (some (.int r.1)), Hf r.2) := by
  unfold L_X1_canBeLast at hL
  refine AC.of (by decide) rfl (Nat.le_of_ble_eq_true rfl) ?_
  show AG G M_X1_canBeLast 0 [some (.ref (bx + 30)), some (.int (a1))] [] _ _
  refine g_aload_n dX1_canBeLast_0 rfl rfl ?_
  refine s_getR (k := 30) (j := 3) E.1 rfl rfl f_X1_25 dX1_canBeLast_1 ?_
  refine g_iload_n dX1_canBeLast_4 rfl rfl ?_
  refine s_iald (k := 35) E.1 hL rfl dX1_canBeLast_5 ?_
  intro v2 hL
  refine g_iconst (v := (-1)) dX1_canBeLast_6 (by decide) ?_
  refine g_icmp_eq (tgt := 27) dX1_canBeLast_7 (by decide) (fun q5 => ?_) (fun q5 => ?_)
  · rw [if_pos q5] at hL
    refine g_none 0 ?_
    refine g_none 1 ?_
    exact J_X1_canBeLast_27_ok hG E hL 
  · rw [if_neg q5] at hL
    refine g_aload_n dX1_canBeLast_10 rfl rfl ?_
    refine g_none 0 ?_
    refine s_getT (k := 30) (j := 10) E.1 hL rfl rfl f_X1_52 dX1_canBeLast_11 ?_
    intro hL
    refine s_getR (k := 0) (j := 0) E.2.1 rfl rfl f_X1_153 dX1_canBeLast_14 ?_
    refine g_iload_n dX1_canBeLast_17 rfl rfl ?_
    refine g_none 1 ?_
    refine s_iald (k := 1) E.2.1 hL rfl dX1_canBeLast_18 ?_
    intro v3 hL
    refine g_iconst (v := 1) dX1_canBeLast_19 (by decide) ?_
    refine g_icmp_eq (tgt := 27) dX1_canBeLast_20 (by decide) (fun q4 => ?_) (fun q4 => ?_)
    · rw [if_pos q4] at hL
      exact J_X1_canBeLast_27_ok hG E hL 
    · rw [if_neg q4] at hL
      refine g_iconst (v := 1) dX1_canBeLast_23 (by decide) ?_
      refine g_goto (tgt := 28) dX1_canBeLast_24 (by decide) ?_
      exact J_X1_canBeLast_28_ok hG E hL 
def J_X1_leads_40 (o : wO) (y0 : Int32) (w : wS) : Option (Int32 × wS) :=
  xB (xBool (y0)) fun v1 => some (v1, w)
set_option maxRecDepth 20000 in
theorem J_X1_leads_40_ok {G : aG} {Hf : wS → aH} {bx : Nat} {o : wO} {y0 : Int32} {w : wS} {r : Int32 × wS} (hG : aGood G) (E : EX Hf bx o) (hL : J_X1_leads_40 o  y0 w = some r) : AG G M_X1_leads 40 [none, none, none] [.int (y0)] (Hf w) (.inl (some (.int r.1)), Hf r.2) := by
  unfold J_X1_leads_40 at hL
  obtain ⟨v1, hb, hR⟩ := xB_some hL
  obtain ⟨hz, hb2⟩ := xBool_some hb
  clear hL
  subst hz
  obtain rfl := Option.some.inj hR
  exact g_zret rfl (narrow_bool hb2) dX1_leads_40
def J_X1_leads_39 (o : wO) (w : wS) : Option (Int32 × wS) :=
  J_X1_leads_40 o  (0) w
set_option maxRecDepth 20000 in
theorem J_X1_leads_39_ok {G : aG} {Hf : wS → aH} {bx : Nat} {o : wO} {w : wS} {r : Int32 × wS} (hG : aGood G) (E : EX Hf bx o) (hL : J_X1_leads_39 o   w = some r) : AG G M_X1_leads 39 [none, none, none] [] (Hf w) (.inl (some (.int r.1)), Hf r.2) := by
  unfold J_X1_leads_39 at hL
  refine g_iconst (v := 0) dX1_leads_39 (by decide) ?_
  exact J_X1_leads_40_ok hG E hL 
def J_X1_leads_35 (o : wO) (w : wS) : Option (Int32 × wS) :=
  J_X1_leads_40 o  (1) w
set_option maxRecDepth 20000 in
theorem J_X1_leads_35_ok {G : aG} {Hf : wS → aH} {bx : Nat} {o : wO} {w : wS} {r : Int32 × wS} (hG : aGood G) (E : EX Hf bx o) (hL : J_X1_leads_35 o   w = some r) : AG G M_X1_leads 35 [none, none, none] [] (Hf w) (.inl (some (.int r.1)), Hf r.2) := by
  unfold J_X1_leads_35 at hL
  refine g_iconst (v := 1) dX1_leads_35 (by decide) ?_
  refine g_goto (tgt := 40) dX1_leads_36 (by decide) ?_
  exact J_X1_leads_40_ok hG E hL 
def L_X1_leads (o : wO) (a1 : Int32) (a2 : Int32) (w : wS) : Option (Int32 × wS) :=
  xB (xAld w 36 8 (a1)) fun v2 => xB (xAld w 36 8 (a2)) fun v3 => if v2 < v3 then J_X1_leads_35 o   w else xB (xAld w 36 8 (a1)) fun v4 => xB (xAld w 36 8 (a2)) fun v5 => if v4 = v5 then if a2 ≤ a1 then J_X1_leads_39 o   w else J_X1_leads_35 o   w else J_X1_leads_39 o   w
set_option maxRecDepth 20000 in
theorem C_X1_leads {G : aG} {Hf : wS → aH} {bx : Nat} {o : wO} {a1 : Int32} {a2 : Int32} {w : wS} {r : Int32 × wS} (hG : aGood G) (E : EX Hf bx o) (hL : L_X1_leads o a1 a2 w = some r) : AC G M_X1_leads [.ref (bx + 30), .int a1, .int a2] (Hf w) (.inl (some (.int r.1)), Hf r.2) := by
  unfold L_X1_leads at hL
  refine AC.of (by decide) rfl (Nat.le_of_ble_eq_true rfl) ?_
  show AG G M_X1_leads 0 [some (.ref (bx + 30)), some (.int (a1)), some (.int (a2))] [] _ _
  refine g_aload_n dX1_leads_0 rfl rfl ?_
  refine s_getR (k := 30) (j := 4) E.1 rfl rfl f_X1_28 dX1_leads_1 ?_
  refine g_iload_n dX1_leads_4 rfl rfl ?_
  refine s_iald (k := 36) E.1 hL rfl dX1_leads_5 ?_
  intro v2 hL
  refine g_aload_n dX1_leads_6 rfl rfl ?_
  refine s_getR (k := 30) (j := 4) E.1 rfl rfl f_X1_28 dX1_leads_7 ?_
  refine g_iload_n dX1_leads_10 rfl rfl ?_
  refine s_iald (k := 36) E.1 hL rfl dX1_leads_11 ?_
  intro v3 hL
  refine g_icmp_lt (tgt := 35) dX1_leads_12 (by decide) (fun q8 => ?_) (fun q8 => ?_)
  · rw [if_pos q8] at hL
    refine g_none 0 ?_
    refine g_none 1 ?_
    refine g_none 2 ?_
    exact J_X1_leads_35_ok hG E hL 
  · rw [if_neg q8] at hL
    refine g_aload_n dX1_leads_15 rfl rfl ?_
    refine s_getR (k := 30) (j := 4) E.1 rfl rfl f_X1_28 dX1_leads_16 ?_
    refine g_iload_n dX1_leads_19 rfl rfl ?_
    refine s_iald (k := 36) E.1 hL rfl dX1_leads_20 ?_
    intro v4 hL
    refine g_aload_n dX1_leads_21 rfl rfl ?_
    refine g_none 0 ?_
    refine s_getR (k := 30) (j := 4) E.1 rfl rfl f_X1_28 dX1_leads_22 ?_
    refine g_iload_n dX1_leads_25 rfl rfl ?_
    refine s_iald (k := 36) E.1 hL rfl dX1_leads_26 ?_
    intro v5 hL
    refine g_icmp_ne (tgt := 39) dX1_leads_27 (by decide) (fun q7 => ?_) (fun q7 => ?_)
    · rw [if_neg q7] at hL
      refine g_none 1 ?_
      refine g_none 2 ?_
      exact J_X1_leads_39_ok hG E hL 
    · rw [if_pos q7] at hL
      refine g_iload_n dX1_leads_30 rfl rfl ?_
      refine g_none 1 ?_
      refine g_iload_n dX1_leads_31 rfl rfl ?_
      refine g_none 2 ?_
      refine g_icmp_ge (tgt := 39) dX1_leads_32 (by decide) (fun q6 => ?_) (fun q6 => ?_)
      · rw [if_pos q6] at hL
        exact J_X1_leads_39_ok hG E hL 
      · rw [if_neg q6] at hL
        exact J_X1_leads_35_ok hG E hL 
def J_X1_lastWithout_77 (o : wO) (kh4 : Int32 → Int32 → Int32 → wS → Option (Int32 × wS)) (ke83 : Int32 → wS → Option (Int32 × wS)) (x1 : Int32) (x2 : Int32) (x3 : Int32) (w : wS) : Option (Int32 × wS) :=
  kh4 (x1) (x2) ((x3 + 1)) w
set_option maxRecDepth 20000 in
theorem J_X1_lastWithout_77_ok {G : aG} {Hf : wS → aH} {bx : Nat} {o : wO} {kh4 : Int32 → Int32 → Int32 → wS → Option (Int32 × wS)} {ke83 : Int32 → wS → Option (Int32 × wS)} {x1 : Int32} {x2 : Int32} {x3 : Int32} {w : wS} {r : Int32 × wS} (hG : aGood G) (E : EX Hf bx o) (hL : J_X1_lastWithout_77 o kh4 ke83 x1 x2 x3 w = some r) (Hkh4 : ∀ (z0 : Int32) (z1 : Int32) (z2 : Int32) (w : wS), kh4 z0 z1 z2 w = some r → AG G M_X1_lastWithout 4 [some (.ref (bx + 30)), some (.int (z0)), some (.int (z1)), some (.int (z2))] [] (Hf w) (.inl (some (.int r.1)), Hf r.2)) (Hke83 : ∀ (z0 : Int32) (w : wS), ke83 z0 w = some r → AG G M_X1_lastWithout 83 [none, none, some (.int (z0)), none] [] (Hf w) (.inl (some (.int r.1)), Hf r.2)) : AG G M_X1_lastWithout 77 [some (.ref (bx + 30)), some (.int (x1)), some (.int (x2)), some (.int (x3))] [] (Hf w) (.inl (some (.int r.1)), Hf r.2) := by
  unfold J_X1_lastWithout_77 at hL
  refine g_iincV (v := (x3 + 1)) dX1_lastWithout_77 rfl rfl (by decide) rfl ?_
  refine g_goto (tgt := 4) dX1_lastWithout_80 (by decide) ?_
  exact Hkh4 _ _ _ _ hL
def J_X1_lastWithout_75 (o : wO) (kh4 : Int32 → Int32 → Int32 → wS → Option (Int32 × wS)) (ke83 : Int32 → wS → Option (Int32 × wS)) (x1 : Int32) (x3 : Int32) (w : wS) : Option (Int32 × wS) :=
  J_X1_lastWithout_77 o kh4 ke83 (x1) (x3) (x3) w
set_option maxRecDepth 20000 in
theorem J_X1_lastWithout_75_ok {G : aG} {Hf : wS → aH} {bx : Nat} {o : wO} {kh4 : Int32 → Int32 → Int32 → wS → Option (Int32 × wS)} {ke83 : Int32 → wS → Option (Int32 × wS)} {x1 : Int32} {x3 : Int32} {w : wS} {r : Int32 × wS} (hG : aGood G) (E : EX Hf bx o) (hL : J_X1_lastWithout_75 o kh4 ke83 x1 x3 w = some r) (Hkh4 : ∀ (z0 : Int32) (z1 : Int32) (z2 : Int32) (w : wS), kh4 z0 z1 z2 w = some r → AG G M_X1_lastWithout 4 [some (.ref (bx + 30)), some (.int (z0)), some (.int (z1)), some (.int (z2))] [] (Hf w) (.inl (some (.int r.1)), Hf r.2)) (Hke83 : ∀ (z0 : Int32) (w : wS), ke83 z0 w = some r → AG G M_X1_lastWithout 83 [none, none, some (.int (z0)), none] [] (Hf w) (.inl (some (.int r.1)), Hf r.2)) : AG G M_X1_lastWithout 75 [some (.ref (bx + 30)), some (.int (x1)), none, some (.int (x3))] [] (Hf w) (.inl (some (.int r.1)), Hf r.2) := by
  unfold J_X1_lastWithout_75 at hL
  refine g_iload_n dX1_lastWithout_75 rfl rfl ?_
  refine g_istore_n (i := 2) dX1_lastWithout_76 rfl (by decide) rfl ?_
  exact J_X1_lastWithout_77_ok hG E hL Hkh4 Hke83
def B_X1_lastWithout_4 (o : wO) (kh4 : Int32 → Int32 → Int32 → wS → Option (Int32 × wS)) (ke83 : Int32 → wS → Option (Int32 × wS)) (x1 : Int32) (x2 : Int32) (x3 : Int32) (w : wS) : Option (Int32 × wS) :=
  xIf (xRef w 3010 (oT o + 0)) (xB (xGet w 100006) fun v1 => if v1 ≤ x3 then ke83 (x2) w else if ((x1 >>> (x3 &&& 31)) &&& (1 : Int32)) = 0 then xB2 (L_X1_canBeLast o (x3) w) fun v2 w3 => if v2 = 0 then J_X1_lastWithout_77 o kh4 ke83 (x1) (x2) (x3) w3 else if x2 = (-1) then J_X1_lastWithout_75 o kh4 ke83 (x1) (x3) w3 else xB (xAld w3 35 8 (x3)) fun v4 => xB (xAld w3 35 8 (x2)) fun v5 => if v5 < v4 then J_X1_lastWithout_75 o kh4 ke83 (x1) (x3) w3 else xB (xAld w3 35 8 (x3)) fun v6 => xB (xAld w3 35 8 (x2)) fun v7 => if v6 = v7 then xB2 (L_X1_leads o (x3) (x2) w3) fun v8 w9 => if v8 = 0 then J_X1_lastWithout_77 o kh4 ke83 (x1) (x2) (x3) w9 else J_X1_lastWithout_75 o kh4 ke83 (x1) (x3) w9 else J_X1_lastWithout_77 o kh4 ke83 (x1) (x2) (x3) w3 else J_X1_lastWithout_77 o kh4 ke83 (x1) (x2) (x3) w)
set_option maxRecDepth 20000 in
theorem B_X1_lastWithout_4_ok {G : aG} {Hf : wS → aH} {bx : Nat} {o : wO} {kh4 : Int32 → Int32 → Int32 → wS → Option (Int32 × wS)} {ke83 : Int32 → wS → Option (Int32 × wS)} {x1 : Int32} {x2 : Int32} {x3 : Int32} {w : wS} {r : Int32 × wS} (hG : aGood G) (E : EX Hf bx o) (hL : B_X1_lastWithout_4 o kh4 ke83 x1 x2 x3 w = some r) (Hkh4 : ∀ (z0 : Int32) (z1 : Int32) (z2 : Int32) (w : wS), kh4 z0 z1 z2 w = some r → AG G M_X1_lastWithout 4 [some (.ref (bx + 30)), some (.int (z0)), some (.int (z1)), some (.int (z2))] [] (Hf w) (.inl (some (.int r.1)), Hf r.2)) (Hke83 : ∀ (z0 : Int32) (w : wS), ke83 z0 w = some r → AG G M_X1_lastWithout 83 [none, none, some (.int (z0)), none] [] (Hf w) (.inl (some (.int r.1)), Hf r.2)) : AG G M_X1_lastWithout 4 [some (.ref (bx + 30)), some (.int (x1)), some (.int (x2)), some (.int (x3))] [] (Hf w) (.inl (some (.int r.1)), Hf r.2) := by
  unfold B_X1_lastWithout_4 at hL
  refine g_iload_n dX1_lastWithout_4 rfl rfl ?_
  refine g_aload_n dX1_lastWithout_5 rfl rfl ?_
  refine s_getT (k := 30) (j := 10) E.1 hL rfl rfl f_X1_52 dX1_lastWithout_6 ?_
  intro hL
  refine s_getI (k := 0) (j := 6) E.2.1 hL rfl rfl f_X1_86 dX1_lastWithout_9 ?_
  intro v1 hL
  refine g_icmp_ge (tgt := 83) dX1_lastWithout_12 (by decide) (fun q16 => ?_) (fun q16 => ?_)
  · rw [if_pos q16] at hL
    refine g_none 0 ?_
    refine g_none 1 ?_
    refine g_none 3 ?_
    exact Hke83 _ _ hL
  · rw [if_neg q16] at hL
    refine g_iload_n dX1_lastWithout_15 rfl rfl ?_
    refine g_iload_n dX1_lastWithout_16 rfl rfl ?_
    refine g_ishr dX1_lastWithout_17 ?_
    refine g_iconst (v := 1) dX1_lastWithout_18 (by decide) ?_
    refine g_iand dX1_lastWithout_19 ?_
    refine g_if_ne (tgt := 77) dX1_lastWithout_20 (by decide) (fun q15 => ?_) (fun q15 => ?_)
    · rw [if_neg q15] at hL
      exact J_X1_lastWithout_77_ok hG E hL Hkh4 Hke83
    · rw [if_pos q15] at hL
      refine g_aload_n dX1_lastWithout_23 rfl rfl ?_
      refine g_iload_n dX1_lastWithout_24 rfl rfl ?_
      obtain ⟨v2, w3, hc, hL⟩ := xB2_some hL
      refine g_callV (M' := M_X1_canBeLast) (as := [.int (x3)]) (v := some (.int (v2))) l_X1_187 kV_X1_canBeLast (by decide) (C_X1_canBeLast hG E hc) rfl (by have := E.1.1; omega) (E.1.2.1 _ 30 _ rfl) ⟨_, _, rfl⟩ (Nat.le_of_ble_eq_true rfl) dX1_lastWithout_25 ?_
      refine g_if_eq (tgt := 77) dX1_lastWithout_28 (by decide) (fun q14 => ?_) (fun q14 => ?_)
      · rw [if_pos q14] at hL
        exact J_X1_lastWithout_77_ok hG E hL Hkh4 Hke83
      · rw [if_neg q14] at hL
        refine g_iload_n dX1_lastWithout_31 rfl rfl ?_
        refine g_iconst (v := (-1)) dX1_lastWithout_32 (by decide) ?_
        refine g_icmp_eq (tgt := 75) dX1_lastWithout_33 (by decide) (fun q13 => ?_) (fun q13 => ?_)
        · rw [if_pos q13] at hL
          refine g_none 2 ?_
          exact J_X1_lastWithout_75_ok hG E hL Hkh4 Hke83
        · rw [if_neg q13] at hL
          refine g_aload_n dX1_lastWithout_36 rfl rfl ?_
          refine s_getR (k := 30) (j := 3) E.1 rfl rfl f_X1_25 dX1_lastWithout_37 ?_
          refine g_iload_n dX1_lastWithout_40 rfl rfl ?_
          refine s_iald (k := 35) E.1 hL rfl dX1_lastWithout_41 ?_
          intro v4 hL
          refine g_aload_n dX1_lastWithout_42 rfl rfl ?_
          refine s_getR (k := 30) (j := 3) E.1 rfl rfl f_X1_25 dX1_lastWithout_43 ?_
          refine g_iload_n dX1_lastWithout_46 rfl rfl ?_
          refine s_iald (k := 35) E.1 hL rfl dX1_lastWithout_47 ?_
          intro v5 hL
          refine g_icmp_gt (tgt := 75) dX1_lastWithout_48 (by decide) (fun q12 => ?_) (fun q12 => ?_)
          · rw [if_pos q12] at hL
            refine g_none 2 ?_
            exact J_X1_lastWithout_75_ok hG E hL Hkh4 Hke83
          · rw [if_neg q12] at hL
            refine g_aload_n dX1_lastWithout_51 rfl rfl ?_
            refine s_getR (k := 30) (j := 3) E.1 rfl rfl f_X1_25 dX1_lastWithout_52 ?_
            refine g_iload_n dX1_lastWithout_55 rfl rfl ?_
            refine s_iald (k := 35) E.1 hL rfl dX1_lastWithout_56 ?_
            intro v6 hL
            refine g_aload_n dX1_lastWithout_57 rfl rfl ?_
            refine s_getR (k := 30) (j := 3) E.1 rfl rfl f_X1_25 dX1_lastWithout_58 ?_
            refine g_iload_n dX1_lastWithout_61 rfl rfl ?_
            refine s_iald (k := 35) E.1 hL rfl dX1_lastWithout_62 ?_
            intro v7 hL
            refine g_icmp_ne (tgt := 77) dX1_lastWithout_63 (by decide) (fun q11 => ?_) (fun q11 => ?_)
            · rw [if_neg q11] at hL
              exact J_X1_lastWithout_77_ok hG E hL Hkh4 Hke83
            · rw [if_pos q11] at hL
              refine g_aload_n dX1_lastWithout_66 rfl rfl ?_
              refine g_iload_n dX1_lastWithout_67 rfl rfl ?_
              refine g_iload_n dX1_lastWithout_68 rfl rfl ?_
              obtain ⟨v8, w9, hc, hL⟩ := xB2_some hL
              refine g_callV (M' := M_X1_leads) (as := [.int (x3), .int (x2)]) (v := some (.int (v8))) l_X1_190 kV_X1_leads (by decide) (C_X1_leads hG E hc) rfl (by have := E.1.1; omega) (E.1.2.1 _ 30 _ rfl) ⟨_, _, rfl⟩ (Nat.le_of_ble_eq_true rfl) dX1_lastWithout_69 ?_
              refine g_if_eq (tgt := 77) dX1_lastWithout_72 (by decide) (fun q10 => ?_) (fun q10 => ?_)
              · rw [if_pos q10] at hL
                exact J_X1_lastWithout_77_ok hG E hL Hkh4 Hke83
              · rw [if_neg q10] at hL
                refine g_none 2 ?_
                exact J_X1_lastWithout_75_ok hG E hL Hkh4 Hke83
def P_X1_lastWithout_4 (o : wO) (ke83 : Int32 → wS → Option (Int32 × wS)) (n : Nat) (x1 : Int32) (x2 : Int32) (x3 : Int32) (w : wS) : Option (Int32 × wS) :=
  xLoop (fun (kk : Int32 × Int32 × Int32 × wS → Option (Int32 × wS)) σ => B_X1_lastWithout_4 o (fun x1 x2 x3 w => kk (x1, x2, x3, w)) ke83 (σ.1) (σ.2.1) (σ.2.2.1) (σ.2.2.2)) n (x1, x2, x3, w)
theorem P_X1_lastWithout_4_ok {G : aG} {Hf : wS → aH} {bx : Nat} {o : wO} {ke83 : Int32 → wS → Option (Int32 × wS)} {n : Nat} {x1 : Int32} {x2 : Int32} {x3 : Int32} {w : wS} {r : Int32 × wS} (hG : aGood G) (E : EX Hf bx o) (hL : P_X1_lastWithout_4 o ke83 n x1 x2 x3 w = some r) (Hke83 : ∀ (z0 : Int32) (w : wS), ke83 z0 w = some r → AG G M_X1_lastWithout 83 [none, none, some (.int (z0)), none] [] (Hf w) (.inl (some (.int r.1)), Hf r.2)) : AG G M_X1_lastWithout 4 [some (.ref (bx + 30)), some (.int (x1)), some (.int (x2)), some (.int (x3))] [] (Hf w) (.inl (some (.int r.1)), Hf r.2) :=
  xLoop_ok (Q := fun (σ : Int32 × Int32 × Int32 × wS) => AG G M_X1_lastWithout 4 [some (.ref (bx + 30)), some (.int (σ.1)), some (.int (σ.2.1)), some (.int (σ.2.2.1))] [] (Hf σ.2.2.2) (.inl (some (.int r.1)), Hf r.2)) (fun kk hk σ hσ => B_X1_lastWithout_4_ok hG E hσ (fun x1 x2 x3 w h9 => hk (x1, x2, x3, w) h9) Hke83) n (x1, x2, x3, w) hL
def L_X1_lastWithout (o : wO) (a1 : Int32) (w : wS) : Option (Int32 × wS) :=
  P_X1_lastWithout_4 o (fun z17 w18 => some (z17, w18)) 5000 (a1) ((-1)) (0) w
set_option maxRecDepth 20000 in
theorem C_X1_lastWithout {G : aG} {Hf : wS → aH} {bx : Nat} {o : wO} {a1 : Int32} {w : wS} {r : Int32 × wS} (hG : aGood G) (E : EX Hf bx o) (hL : L_X1_lastWithout o a1 w = some r) : AC G M_X1_lastWithout [.ref (bx + 30), .int a1] (Hf w) (.inl (some (.int r.1)), Hf r.2) := by
  unfold L_X1_lastWithout at hL
  refine AC.of (by decide) rfl (Nat.le_of_ble_eq_true rfl) ?_
  show AG G M_X1_lastWithout 0 [some (.ref (bx + 30)), some (.int (a1)), none, none] [] _ _
  refine g_iconst (v := (-1)) dX1_lastWithout_0 (by decide) ?_
  refine g_istore_n (i := 2) dX1_lastWithout_1 rfl (by decide) rfl ?_
  refine g_iconst (v := 0) dX1_lastWithout_2 (by decide) ?_
  refine g_istore_n (i := 3) dX1_lastWithout_3 rfl (by decide) rfl ?_
  refine P_X1_lastWithout_4_ok hG E hL ?_
  · intro z17 w18 hL
    refine g_iload_n dX1_lastWithout_83 rfl rfl ?_
    refine g_none 2 ?_
    obtain rfl := Option.some.inj hL
    exact g_iret rfl dX1_lastWithout_84
def L_X5_setRinger_x31 (o : wO) (a1 : Int32) (w : wS) : Option (wS) :=
  xB (xAst w 32 33 (0) (a1)) fun w1 => some w1
set_option maxRecDepth 20000 in
theorem C_X5_setRinger_x31 {G : aG} {Hf : wS → aH} {bx : Nat} {o : wO} {a1 : Int32} {w : wS} {r : wS} (hG : aGood G) (E : EX Hf bx o) (hL : L_X5_setRinger_x31 o a1 w = some r) : AC G M_X5_setRinger [.ref (bx + 31), .int a1] (Hf w) (.inl none, Hf r) := by
  unfold L_X5_setRinger_x31 at hL
  refine AC.of (by decide) rfl (Nat.le_of_ble_eq_true rfl) ?_
  show AG G M_X5_setRinger 0 [some (.ref (bx + 31)), some (.int (a1))] [] _ _
  refine g_aload_n dX5_setRinger_0 rfl rfl ?_
  refine g_none 0 ?_
  refine s_getR (k := 31) (j := 0) E.1 rfl rfl f_X5_11 dX5_setRinger_1 ?_
  refine g_iconst (v := 0) dX5_setRinger_4 (by decide) ?_
  refine g_iload_n dX5_setRinger_5 rfl rfl ?_
  refine g_none 1 ?_
  refine s_iast (k := 32) E.1 hL rfl dX5_setRinger_6 ?_
  intro w1 hL
  obtain rfl := Option.some.inj hL
  exact g_vret rfl dX5_setRinger_7
def L_X1_hasten (o : wO) (a1 : Int32) (a2 : Int32) (w : wS) : Option (wS) :=
  xB2 (L_X5_hasteOf_x31 o (a1) w) fun v1 w2 => xB (L_X5_setHaste_x31 o (a1) ((xMin (60) ((v1 + a2)))) w2) fun w3 => some w3
set_option maxRecDepth 20000 in
theorem C_X1_hasten {G : aG} {Hf : wS → aH} {bx : Nat} {o : wO} {a1 : Int32} {a2 : Int32} {w : wS} {r : wS} (hG : aGood G) (E : EX Hf bx o) (hL : L_X1_hasten o a1 a2 w = some r) : AC G M_X1_hasten [.ref (bx + 30), .int a1, .int a2] (Hf w) (.inl none, Hf r) := by
  unfold L_X1_hasten at hL
  refine AC.of (by decide) rfl (Nat.le_of_ble_eq_true rfl) ?_
  show AG G M_X1_hasten 0 [some (.ref (bx + 30)), some (.int (a1)), some (.int (a2))] [] _ _
  refine g_aload_n dX1_hasten_0 rfl rfl ?_
  refine s_getR (k := 30) (j := 0) E.1 rfl rfl f_X1_12 dX1_hasten_1 ?_
  refine g_iload_n dX1_hasten_4 rfl rfl ?_
  refine g_bipush (v := 60) dX1_hasten_5 (by decide) ?_
  refine g_aload_n dX1_hasten_7 rfl rfl ?_
  refine g_none 0 ?_
  refine s_getR (k := 30) (j := 0) E.1 rfl rfl f_X1_12 dX1_hasten_8 ?_
  refine g_iload_n dX1_hasten_11 rfl rfl ?_
  refine g_none 1 ?_
  obtain ⟨v1, w2, hc, hL⟩ := xB2_some hL
  refine g_callV (M' := M_X5_hasteOf) (as := [.int (a1)]) (v := some (.int (v1))) l_X1_93 kV_X5_hasteOf (by decide) (C_X5_hasteOf_x31 hG E hc) rfl (by have := E.1.1; omega) (E.1.2.1 _ 31 _ rfl) ⟨_, _, rfl⟩ (Nat.le_of_ble_eq_true rfl) dX1_hasten_12 ?_
  refine g_iload_n dX1_hasten_15 rfl rfl ?_
  refine g_none 2 ?_
  refine g_iadd dX1_hasten_16 ?_
  refine g_mmin (aIn1 552 (by decide +kernel) rfl) mmin_1 mmin_2 mmin_3 (by decide) (Nat.le_of_ble_eq_true rfl) dX1_hasten_17 ?_
  obtain ⟨w3, hc, hL⟩ := xB_some hL
  refine g_callV (M' := M_X5_setHaste) (as := [.int (a1), .int ((xMin (60) ((v1 + a2))))]) (v := none) l_X1_103 kV_X5_setHaste (by decide) (C_X5_setHaste_x31 hG E hc) rfl (by have := E.1.1; omega) (E.1.2.1 _ 31 _ rfl) ⟨_, _, rfl⟩ (Nat.le_of_ble_eq_true rfl) dX1_hasten_20 ?_
  obtain rfl := Option.some.inj hL
  exact g_vret rfl dX1_hasten_23
def J_X3_give_s0_x40_136 (o : wO) (kh4 : Int32 → Int32 → wS → Option (Int32 × wS)) (ke142 : wS → Option (Int32 × wS)) (x2 : Int32) (x3 : Int32) (w : wS) : Option (Int32 × wS) :=
  kh4 (x2) ((x3 + 1)) w
set_option maxRecDepth 20000 in
theorem J_X3_give_s0_x40_136_ok {G : aG} {Hf : wS → aH} {bx : Nat} {o : wO} {kh4 : Int32 → Int32 → wS → Option (Int32 × wS)} {ke142 : wS → Option (Int32 × wS)} {x2 : Int32} {x3 : Int32} {w : wS} {r : Int32 × wS} (hG : aGood G) (E : EX Hf bx o) (hs : oS o + 0 ≠ 0) (hL : J_X3_give_s0_x40_136 o kh4 ke142 x2 x3 w = some r) (Hkh4 : ∀ (z0 : Int32) (z1 : Int32) (w : wS), kh4 z0 z1 w = some r → AG G M_X3_give 4 [some (.ref (oS o + 0)), some (.ref (bx + 40)), some (.int (z0)), some (.int (z1)), none] [] (Hf w) (.inl (some (.int r.1)), Hf r.2)) (Hke142 : ∀ (w : wS), ke142  w = some r → AG G M_X3_give 142 [some (.ref (oS o + 0)), none, none, none, none] [] (Hf w) (.inl (some (.int r.1)), Hf r.2)) : AG G M_X3_give 136 [some (.ref (oS o + 0)), some (.ref (bx + 40)), some (.int (x2)), some (.int (x3)), none] [] (Hf w) (.inl (some (.int r.1)), Hf r.2) := by
  unfold J_X3_give_s0_x40_136 at hL
  refine g_iincV (v := (x3 + 1)) dX3_give_136 rfl rfl (by decide) rfl ?_
  refine g_goto (tgt := 4) dX3_give_139 (by decide) ?_
  exact Hkh4 _ _ _ hL
def J_X3_give_s0_x40_97 (o : wO) (kh4 : Int32 → Int32 → wS → Option (Int32 × wS)) (ke142 : wS → Option (Int32 × wS)) (x2 : Int32) (x3 : Int32) (y1 : Int32) (y2 : Int32) (w : wS) : Option (Int32 × wS) :=
  xB (xAst w 3002 64 (y1) (y2)) fun w1 => J_X3_give_s0_x40_136 o kh4 ke142 (x2) (x3) w1
set_option maxRecDepth 20000 in
theorem J_X3_give_s0_x40_97_ok {G : aG} {Hf : wS → aH} {bx : Nat} {o : wO} {kh4 : Int32 → Int32 → wS → Option (Int32 × wS)} {ke142 : wS → Option (Int32 × wS)} {x2 : Int32} {x3 : Int32} {y1 : Int32} {y2 : Int32} {w : wS} {r : Int32 × wS} (hG : aGood G) (E : EX Hf bx o) (hs : oS o + 0 ≠ 0) (hL : J_X3_give_s0_x40_97 o kh4 ke142 x2 x3 y1 y2 w = some r) (Hkh4 : ∀ (z0 : Int32) (z1 : Int32) (w : wS), kh4 z0 z1 w = some r → AG G M_X3_give 4 [some (.ref (oS o + 0)), some (.ref (bx + 40)), some (.int (z0)), some (.int (z1)), none] [] (Hf w) (.inl (some (.int r.1)), Hf r.2)) (Hke142 : ∀ (w : wS), ke142  w = some r → AG G M_X3_give 142 [some (.ref (oS o + 0)), none, none, none, none] [] (Hf w) (.inl (some (.int r.1)), Hf r.2)) : AG G M_X3_give 97 [some (.ref (oS o + 0)), some (.ref (bx + 40)), some (.int (x2)), some (.int (x3)), none] [.int (y2), .int (y1), .ref (oS o + 2)] (Hf w) (.inl (some (.int r.1)), Hf r.2) := by
  unfold J_X3_give_s0_x40_97 at hL
  refine s_iast (k := 2) (E.2.2.2 hs) hL rfl dX3_give_97 ?_
  intro w1 hL
  refine g_goto (tgt := 136) dX3_give_98 (by decide) ?_
  exact J_X3_give_s0_x40_136_ok hG E hs hL Hkh4 Hke142
def J_X3_give_s0_x40_55 (o : wO) (kh4 : Int32 → Int32 → wS → Option (Int32 × wS)) (ke142 : wS → Option (Int32 × wS)) (x2 : Int32) (x3 : Int32) (y1 : Int32) (y2 : Int32) (w : wS) : Option (Int32 × wS) :=
  xB (xAst w 3002 64 (y1) (y2)) fun w2 => J_X3_give_s0_x40_136 o kh4 ke142 ((x2 + 1)) (x3) w2
set_option maxRecDepth 20000 in
theorem J_X3_give_s0_x40_55_ok {G : aG} {Hf : wS → aH} {bx : Nat} {o : wO} {kh4 : Int32 → Int32 → wS → Option (Int32 × wS)} {ke142 : wS → Option (Int32 × wS)} {x2 : Int32} {x3 : Int32} {y1 : Int32} {y2 : Int32} {w : wS} {r : Int32 × wS} (hG : aGood G) (E : EX Hf bx o) (hs : oS o + 0 ≠ 0) (hL : J_X3_give_s0_x40_55 o kh4 ke142 x2 x3 y1 y2 w = some r) (Hkh4 : ∀ (z0 : Int32) (z1 : Int32) (w : wS), kh4 z0 z1 w = some r → AG G M_X3_give 4 [some (.ref (oS o + 0)), some (.ref (bx + 40)), some (.int (z0)), some (.int (z1)), none] [] (Hf w) (.inl (some (.int r.1)), Hf r.2)) (Hke142 : ∀ (w : wS), ke142  w = some r → AG G M_X3_give 142 [some (.ref (oS o + 0)), none, none, none, none] [] (Hf w) (.inl (some (.int r.1)), Hf r.2)) : AG G M_X3_give 55 [some (.ref (oS o + 0)), some (.ref (bx + 40)), some (.int (x2)), some (.int (x3)), none] [.int (y2), .int (y1), .ref (oS o + 2)] (Hf w) (.inl (some (.int r.1)), Hf r.2) := by
  unfold J_X3_give_s0_x40_55 at hL
  refine s_iast (k := 2) (E.2.2.2 hs) hL rfl dX3_give_55 ?_
  intro w2 hL
  refine g_iincV (v := (x2 + 1)) dX3_give_56 rfl rfl (by decide) rfl ?_
  refine g_goto (tgt := 136) dX3_give_59 (by decide) ?_
  exact J_X3_give_s0_x40_136_ok hG E hs hL Hkh4 Hke142
def B_X3_give_s0_x40_4 (o : wO) (kh4 : Int32 → Int32 → wS → Option (Int32 × wS)) (ke142 : wS → Option (Int32 × wS)) (x2 : Int32) (x3 : Int32) (w : wS) : Option (Int32 × wS) :=
  if (Int32.ofNat (oSn o)) ≤ x3 then ke142  w else xB (xAld w 3001 (oSn o) (x3)) fun v3 => if v3 < (-7) then if v3 = (-103) then if x2 < 1 then J_X3_give_s0_x40_136 o kh4 ke142 (x2) (x3) w else xB (xAld w 3002 64 ((x2 - (1 : Int32)))) fun v9 => if v9 = 0 then J_X3_give_s0_x40_97 o kh4 ke142 (x2) (x3) ((x2 - (1 : Int32))) (1) w else J_X3_give_s0_x40_97 o kh4 ke142 (x2) (x3) ((x2 - (1 : Int32))) (0) w else if x2 < 2 then J_X3_give_s0_x40_136 o kh4 ke142 (x2) (x3) w else xB (xAld w 3002 64 (((x2 + (-1)) - (1 : Int32)))) fun v4 => xB (xAld w 3002 64 ((x2 + (-1)))) fun v5 => xB (L_X3_joined (v3) (v4) (v5)) fun v6 => xB (xAst w 3002 64 (((x2 + (-1)) - (1 : Int32))) (v6)) fun w7 => J_X3_give_s0_x40_136 o kh4 ke142 ((x2 + (-1))) (x3) w7 else if 64 ≤ x2 then J_X3_give_s0_x40_136 o kh4 ke142 (x2) (x3) w else if v3 < 0 then xB (xAld w 40 7 ((((-1) : Int32) - v3))) fun v13 => J_X3_give_s0_x40_55 o kh4 ke142 (x2) (x3) (x2) (v13) w else J_X3_give_s0_x40_55 o kh4 ke142 (x2) (x3) (x2) (v3) w
set_option maxRecDepth 20000 in
theorem B_X3_give_s0_x40_4_ok {G : aG} {Hf : wS → aH} {bx : Nat} {o : wO} {kh4 : Int32 → Int32 → wS → Option (Int32 × wS)} {ke142 : wS → Option (Int32 × wS)} {x2 : Int32} {x3 : Int32} {w : wS} {r : Int32 × wS} (hG : aGood G) (E : EX Hf bx o) (hs : oS o + 0 ≠ 0) (hL : B_X3_give_s0_x40_4 o kh4 ke142 x2 x3 w = some r) (Hkh4 : ∀ (z0 : Int32) (z1 : Int32) (w : wS), kh4 z0 z1 w = some r → AG G M_X3_give 4 [some (.ref (oS o + 0)), some (.ref (bx + 40)), some (.int (z0)), some (.int (z1)), none] [] (Hf w) (.inl (some (.int r.1)), Hf r.2)) (Hke142 : ∀ (w : wS), ke142  w = some r → AG G M_X3_give 142 [some (.ref (oS o + 0)), none, none, none, none] [] (Hf w) (.inl (some (.int r.1)), Hf r.2)) : AG G M_X3_give 4 [some (.ref (oS o + 0)), some (.ref (bx + 40)), some (.int (x2)), some (.int (x3)), none] [] (Hf w) (.inl (some (.int r.1)), Hf r.2) := by
  unfold B_X3_give_s0_x40_4 at hL
  refine g_iload_n dX3_give_4 rfl rfl ?_
  refine g_aload_n dX3_give_5 rfl rfl ?_
  refine s_getR (k := 0) (j := 0) (E.2.2.2 hs) rfl rfl f_X3_13 dX3_give_6 ?_
  refine g_alen (v := (Int32.ofNat (oSn o))) dX3_give_9 (by have := (E.2.2.2 hs).1; omega) (show 0 < 4 by decide) ((E.2.2.2 hs).2.1 _ 1 _ rfl) rfl ?_
  refine g_icmp_ge (tgt := 142) dX3_give_10 (by decide) (fun q17 => ?_) (fun q17 => ?_)
  · rw [if_pos q17] at hL
    refine g_none 1 ?_
    refine g_none 2 ?_
    refine g_none 3 ?_
    exact Hke142  _ hL
  · rw [if_neg q17] at hL
    refine g_aload_n dX3_give_13 rfl rfl ?_
    refine s_getR (k := 0) (j := 0) (E.2.2.2 hs) rfl rfl f_X3_13 dX3_give_14 ?_
    refine g_iload_n dX3_give_17 rfl rfl ?_
    refine s_iald (k := 1) (E.2.2.2 hs) hL rfl dX3_give_18 ?_
    intro v3 hL
    refine g_istore (i := 4) dX3_give_19 (by decide) rfl ?_
    refine g_iload dX3_give_21 rfl ?_
    refine g_bipush (v := (-7)) dX3_give_23 (by decide) ?_
    refine g_icmp_lt (tgt := 62) dX3_give_25 (by decide) (fun q16 => ?_) (fun q16 => ?_)
    · rw [if_pos q16] at hL
      refine g_iload dX3_give_62 rfl ?_
      refine g_bipush (v := (-103)) dX3_give_64 (by decide) ?_
      refine g_icmp_ne (tgt := 101) dX3_give_66 (by decide) (fun q12 => ?_) (fun q12 => ?_)
      · rw [if_neg q12] at hL
        refine g_iload_n dX3_give_101 rfl rfl ?_
        refine g_iconst (v := 2) dX3_give_102 (by decide) ?_
        refine g_icmp_lt (tgt := 136) dX3_give_103 (by decide) (fun q8 => ?_) (fun q8 => ?_)
        · rw [if_pos q8] at hL
          refine g_none 4 ?_
          exact J_X3_give_s0_x40_136_ok hG E hs hL Hkh4 Hke142
        · rw [if_neg q8] at hL
          refine g_iincV (v := (x2 + (-1))) dX3_give_106 rfl rfl (by decide) rfl ?_
          refine g_aload_n dX3_give_109 rfl rfl ?_
          refine s_getR (k := 0) (j := 1) (E.2.2.2 hs) rfl rfl f_X3_9 dX3_give_110 ?_
          refine g_iload_n dX3_give_113 rfl rfl ?_
          refine g_iconst (v := 1) dX3_give_114 (by decide) ?_
          refine g_isub dX3_give_115 ?_
          refine g_iload dX3_give_116 rfl ?_
          refine g_none 4 ?_
          refine g_aload_n dX3_give_118 rfl rfl ?_
          refine s_getR (k := 0) (j := 1) (E.2.2.2 hs) rfl rfl f_X3_9 dX3_give_119 ?_
          refine g_iload_n dX3_give_122 rfl rfl ?_
          refine g_iconst (v := 1) dX3_give_123 (by decide) ?_
          refine g_isub dX3_give_124 ?_
          refine s_iald (k := 2) (E.2.2.2 hs) hL rfl dX3_give_125 ?_
          intro v4 hL
          refine g_aload_n dX3_give_126 rfl rfl ?_
          refine s_getR (k := 0) (j := 1) (E.2.2.2 hs) rfl rfl f_X3_9 dX3_give_127 ?_
          refine g_iload_n dX3_give_130 rfl rfl ?_
          refine s_iald (k := 2) (E.2.2.2 hs) hL rfl dX3_give_131 ?_
          intro v5 hL
          obtain ⟨v6, hc, hL⟩ := xB_some hL
          refine g_callS (M' := M_X3_joined) (as := [.int (v3), .int (v4), .int (v5)]) (v := some (.int (v6))) l_X3_16 kS_X3_joined (by decide) (C_X3_joined hc) rfl (Nat.le_of_ble_eq_true rfl) dX3_give_132 ?_
          refine s_iast (k := 2) (E.2.2.2 hs) hL rfl dX3_give_135 ?_
          intro w7 hL
          exact J_X3_give_s0_x40_136_ok hG E hs hL Hkh4 Hke142
      · rw [if_pos q12] at hL
        refine g_none 4 ?_
        refine g_iload_n dX3_give_69 rfl rfl ?_
        refine g_iconst (v := 1) dX3_give_70 (by decide) ?_
        refine g_icmp_lt (tgt := 136) dX3_give_71 (by decide) (fun q11 => ?_) (fun q11 => ?_)
        · rw [if_pos q11] at hL
          exact J_X3_give_s0_x40_136_ok hG E hs hL Hkh4 Hke142
        · rw [if_neg q11] at hL
          refine g_aload_n dX3_give_74 rfl rfl ?_
          refine s_getR (k := 0) (j := 1) (E.2.2.2 hs) rfl rfl f_X3_9 dX3_give_75 ?_
          refine g_iload_n dX3_give_78 rfl rfl ?_
          refine g_iconst (v := 1) dX3_give_79 (by decide) ?_
          refine g_isub dX3_give_80 ?_
          refine g_aload_n dX3_give_81 rfl rfl ?_
          refine s_getR (k := 0) (j := 1) (E.2.2.2 hs) rfl rfl f_X3_9 dX3_give_82 ?_
          refine g_iload_n dX3_give_85 rfl rfl ?_
          refine g_iconst (v := 1) dX3_give_86 (by decide) ?_
          refine g_isub dX3_give_87 ?_
          refine s_iald (k := 2) (E.2.2.2 hs) hL rfl dX3_give_88 ?_
          intro v9 hL
          refine g_if_ne (tgt := 96) dX3_give_89 (by decide) (fun q10 => ?_) (fun q10 => ?_)
          · rw [if_neg q10] at hL
            refine g_iconst (v := 0) dX3_give_96 (by decide) ?_
            exact J_X3_give_s0_x40_97_ok hG E hs hL Hkh4 Hke142
          · rw [if_pos q10] at hL
            refine g_iconst (v := 1) dX3_give_92 (by decide) ?_
            refine g_goto (tgt := 97) dX3_give_93 (by decide) ?_
            exact J_X3_give_s0_x40_97_ok hG E hs hL Hkh4 Hke142
    · rw [if_neg q16] at hL
      refine g_iload_n dX3_give_28 rfl rfl ?_
      refine g_bipush (v := 64) dX3_give_29 (by decide) ?_
      refine g_icmp_ge (tgt := 136) dX3_give_31 (by decide) (fun q15 => ?_) (fun q15 => ?_)
      · rw [if_pos q15] at hL
        refine g_none 4 ?_
        exact J_X3_give_s0_x40_136_ok hG E hs hL Hkh4 Hke142
      · rw [if_neg q15] at hL
        refine g_aload_n dX3_give_34 rfl rfl ?_
        refine s_getR (k := 0) (j := 1) (E.2.2.2 hs) rfl rfl f_X3_9 dX3_give_35 ?_
        refine g_iload_n dX3_give_38 rfl rfl ?_
        refine g_iload dX3_give_39 rfl ?_
        refine g_if_lt (tgt := 49) dX3_give_41 (by decide) (fun q14 => ?_) (fun q14 => ?_)
        · rw [if_pos q14] at hL
          refine g_aload_n dX3_give_49 rfl rfl ?_
          refine g_iconst (v := (-1)) dX3_give_50 (by decide) ?_
          refine g_iload dX3_give_51 rfl ?_
          refine g_none 4 ?_
          refine g_isub dX3_give_53 ?_
          refine s_iald (k := 40) E.1 hL rfl dX3_give_54 ?_
          intro v13 hL
          exact J_X3_give_s0_x40_55_ok hG E hs hL Hkh4 Hke142
        · rw [if_neg q14] at hL
          refine g_iload dX3_give_44 rfl ?_
          refine g_none 4 ?_
          refine g_goto (tgt := 55) dX3_give_46 (by decide) ?_
          exact J_X3_give_s0_x40_55_ok hG E hs hL Hkh4 Hke142
def P_X3_give_s0_x40_4 (o : wO) (ke142 : wS → Option (Int32 × wS)) (n : Nat) (x2 : Int32) (x3 : Int32) (w : wS) : Option (Int32 × wS) :=
  xLoop (fun (kk : Int32 × Int32 × wS → Option (Int32 × wS)) σ => B_X3_give_s0_x40_4 o (fun x2 x3 w => kk (x2, x3, w)) ke142 (σ.1) (σ.2.1) (σ.2.2)) n (x2, x3, w)
theorem P_X3_give_s0_x40_4_ok {G : aG} {Hf : wS → aH} {bx : Nat} {o : wO} {ke142 : wS → Option (Int32 × wS)} {n : Nat} {x2 : Int32} {x3 : Int32} {w : wS} {r : Int32 × wS} (hG : aGood G) (E : EX Hf bx o) (hs : oS o + 0 ≠ 0) (hL : P_X3_give_s0_x40_4 o ke142 n x2 x3 w = some r) (Hke142 : ∀ (w : wS), ke142  w = some r → AG G M_X3_give 142 [some (.ref (oS o + 0)), none, none, none, none] [] (Hf w) (.inl (some (.int r.1)), Hf r.2)) : AG G M_X3_give 4 [some (.ref (oS o + 0)), some (.ref (bx + 40)), some (.int (x2)), some (.int (x3)), none] [] (Hf w) (.inl (some (.int r.1)), Hf r.2) :=
  xLoop_ok (Q := fun (σ : Int32 × Int32 × wS) => AG G M_X3_give 4 [some (.ref (oS o + 0)), some (.ref (bx + 40)), some (.int (σ.1)), some (.int (σ.2.1)), none] [] (Hf σ.2.2) (.inl (some (.int r.1)), Hf r.2)) (fun kk hk σ hσ => B_X3_give_s0_x40_4_ok hG E hs hσ (fun x2 x3 w h9 => hk (x2, x3, w) h9) Hke142) n (x2, x3, w) hL
def L_X3_give_s0_x40 (o : wO) (w : wS) : Option (Int32 × wS) :=
  P_X3_give_s0_x40_4 o (fun w18 => xB (xAld w18 3002 64 (0)) fun v19 => some (v19, w18)) 5000 (0) (0) w
set_option maxRecDepth 20000 in
theorem C_X3_give_s0_x40 {G : aG} {Hf : wS → aH} {bx : Nat} {o : wO} {w : wS} {r : Int32 × wS} (hG : aGood G) (E : EX Hf bx o) (hs : oS o + 0 ≠ 0) (hL : L_X3_give_s0_x40 o  w = some r) : AC G M_X3_give [.ref (oS o + 0), .ref (bx + 40)] (Hf w) (.inl (some (.int r.1)), Hf r.2) := by
  unfold L_X3_give_s0_x40 at hL
  refine AC.of (by decide) rfl (Nat.le_of_ble_eq_true rfl) ?_
  show AG G M_X3_give 0 [some (.ref (oS o + 0)), some (.ref (bx + 40)), none, none, none] [] _ _
  refine g_iconst (v := 0) dX3_give_0 (by decide) ?_
  refine g_istore_n (i := 2) dX3_give_1 rfl (by decide) rfl ?_
  refine g_iconst (v := 0) dX3_give_2 (by decide) ?_
  refine g_istore_n (i := 3) dX3_give_3 rfl (by decide) rfl ?_
  refine P_X3_give_s0_x40_4_ok hG E hs hL ?_
  · intro w18 hL
    refine g_aload_n dX3_give_142 rfl rfl ?_
    refine g_none 0 ?_
    refine s_getR (k := 0) (j := 1) (E.2.2.2 hs) rfl rfl f_X3_9 dX3_give_143 ?_
    refine g_iconst (v := 0) dX3_give_146 (by decide) ?_
    refine s_iald (k := 2) (E.2.2.2 hs) hL rfl dX3_give_147 ?_
    intro v19 hL
    obtain rfl := Option.some.inj hL
    exact g_iret rfl dX3_give_148
