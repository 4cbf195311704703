def J_X10_begins_18 (w : wS) : Option (Int32 × wS) :=
  xB2 (L_X10_isGood  w) fun v1 w2 => if v1 = 0 then some (0, w2) else xB (L_X10_goes  w2) fun w3 => some (1, w3)
set_option maxRecDepth 20000 in
theorem J_X10_begins_18_ok {G : aG} {Hf : wS → aH} {b : Nat} {w : wS} {r : Int32 × wS} (E : Emb Hf b 0 tbM) (hL : J_X10_begins_18   w = some r) : AG G M_X10_begins 18 [some (.ref (b + 0)), none, none] [] (Hf w) (.inl (some (.int r.1)), Hf r.2) := by
  unfold J_X10_begins_18 at hL
  refine g_aload_n dX10_begins_18 rfl rfl ?_
  obtain ⟨v1, w2, hc, hL⟩ := xB2_some hL
  refine g_callV (M' := M_X10_isGood) (as := []) (v := some (.int (v1))) l_X10_179 kV_X10_isGood (by decide) (C_X10_isGood E hc) rfl (by have := E.1; omega) (E.2.1 _ 0 _ rfl) ⟨_, _, rfl⟩ (Nat.le_of_ble_eq_true rfl) dX10_begins_19 ?_
  refine g_if_ne (tgt := 27) dX10_begins_22 (by decide) (fun q4 => ?_) (fun q4 => ?_)
  · rw [if_neg q4] at hL
    refine g_aload_n dX10_begins_27 rfl rfl ?_
    refine g_none 0 ?_
    obtain ⟨w3, hc, hL⟩ := xB_some hL
    refine g_callV (M' := M_X10_goes) (as := []) (v := none) l_X10_183 kV_X10_goes (by decide) (C_X10_goes E hc) rfl (by have := E.1; omega) (E.2.1 _ 0 _ rfl) ⟨_, _, rfl⟩ (Nat.le_of_ble_eq_true rfl) dX10_begins_28 ?_
    refine g_iconst (v := 1) dX10_begins_31 (by decide) ?_
    obtain rfl := Option.some.inj hL
    exact g_zret rfl (by decide) dX10_begins_32
  · rw [if_pos q4] at hL
    refine g_none 0 ?_
    refine g_iconst (v := 0) dX10_begins_25 (by decide) ?_
    obtain rfl := Option.some.inj hL
    exact g_zret rfl (by decide) dX10_begins_26
def J_X10_begins_9 (x2 : Int32) (w : wS) : Option (Int32 × wS) :=
  if x2 = 0 then J_X10_begins_18   w else xB (L_X10_wrong (5) w) fun w5 => J_X10_begins_18   w5
set_option maxRecDepth 20000 in
theorem J_X10_begins_9_ok {G : aG} {Hf : wS → aH} {b : Nat} {x2 : Int32} {w : wS} {r : Int32 × wS} (E : Emb Hf b 0 tbM) (hL : J_X10_begins_9  x2 w = some r) : AG G M_X10_begins 9 [some (.ref (b + 0)), none, some (.int (x2))] [] (Hf w) (.inl (some (.int r.1)), Hf r.2) := by
  unfold J_X10_begins_9 at hL
  refine g_iload_n dX10_begins_9 rfl rfl ?_
  refine g_none 2 ?_
  refine g_if_eq (tgt := 18) dX10_begins_10 (by decide) (fun q6 => ?_) (fun q6 => ?_)
  · rw [if_pos q6] at hL
    exact J_X10_begins_18_ok E hL 
  · rw [if_neg q6] at hL
    refine g_aload_n dX10_begins_13 rfl rfl ?_
    refine g_iconst (v := 5) dX10_begins_14 (by decide) ?_
    obtain ⟨w5, hc, hL⟩ := xB_some hL
    refine g_callV (M' := M_X10_wrong) (as := [.int (5)]) (v := none) l_X10_186 kV_X10_wrong (by decide) (C_X10_wrong E hc) rfl (by have := E.1; omega) (E.2.1 _ 0 _ rfl) ⟨_, _, rfl⟩ (Nat.le_of_ble_eq_true rfl) dX10_begins_15 ?_
    exact J_X10_begins_18_ok E hL 
def L_X10_begins (a1 : Int32) (a2 : Int32) (w : wS) : Option (Int32 × wS) :=
  if a1 = 0 then J_X10_begins_9  (a2) w else xB (L_X10_wrong (2) w) fun w7 => J_X10_begins_9  (a2) w7
set_option maxRecDepth 20000 in
theorem C_X10_begins {G : aG} {Hf : wS → aH} {b : Nat} {a1 : Int32} {a2 : Int32} {w : wS} {r : Int32 × wS} (E : Emb Hf b 0 tbM) (hL : L_X10_begins a1 a2 w = some r) : AC G M_X10_begins [.ref (b + 0), .int a1, .int a2] (Hf w) (.inl (some (.int r.1)), Hf r.2) := by
  unfold L_X10_begins at hL
  refine AC.of (by decide) rfl (Nat.le_of_ble_eq_true rfl) ?_
  show AG G M_X10_begins 0 [some (.ref (b + 0)), some (.int (a1)), some (.int (a2))] [] _ _
  refine g_iload_n dX10_begins_0 rfl rfl ?_
  refine g_none 1 ?_
  refine g_if_eq (tgt := 9) dX10_begins_1 (by decide) (fun q8 => ?_) (fun q8 => ?_)
  · rw [if_pos q8] at hL
    exact J_X10_begins_9_ok E hL 
  · rw [if_neg q8] at hL
    refine g_aload_n dX10_begins_4 rfl rfl ?_
    refine g_iconst (v := 2) dX10_begins_5 (by decide) ?_
    obtain ⟨w7, hc, hL⟩ := xB_some hL
    refine g_callV (M' := M_X10_wrong) (as := [.int (2)]) (v := none) l_X10_186 kV_X10_wrong (by decide) (C_X10_wrong E hc) rfl (by have := E.1; omega) (E.2.1 _ 0 _ rfl) ⟨_, _, rfl⟩ (Nat.le_of_ble_eq_true rfl) dX10_begins_6 ?_
    exact J_X10_begins_9_ok E hL 
def J_X10_readsPerson_70 (w : wS) : Option (wS) :=
  some w
set_option maxRecDepth 20000 in
theorem J_X10_readsPerson_70_ok {G : aG} {Hf : wS → aH} {b : Nat} {w : wS} {r : wS} (E : Emb Hf b 0 tbM) (hL : J_X10_readsPerson_70   w = some r) : AG G M_X10_readsPerson 70 [none, none, none] [] (Hf w) (.inl none, Hf r) := by
  unfold J_X10_readsPerson_70 at hL
  obtain rfl := Option.some.inj hL
  exact g_vret rfl dX10_readsPerson_70
def L_X10_readsPerson (a1 : Int32) (w : wS) : Option (wS) :=
  xB (xGet w 24) fun v1 => xB (xAst w 8 8 (v1) (a1)) fun w2 => xB2 (L_X10_number (0) (60) w2) fun v3 w4 => xB (xAst w4 9 8 (v1) (v3)) fun w5 => xB2 (L_X10_number (0) (60) w5) fun v6 w7 => xB (xAst w7 12 33 ((3 + v1)) (v6)) fun w8 => xB2 (L_X10_number (0) (30) w8) fun v9 w10 => xB (xAst w10 10 8 (v1) (v9)) fun w11 => xB2 (L_X10_isGood  w11) fun v12 w13 => if v12 = 0 then J_X10_readsPerson_70   w13 else xB (xGet w13 24) fun v14 => xB (xPut w13 24 ((v14 + 1))) fun w15 => J_X10_readsPerson_70   w15
set_option maxRecDepth 20000 in
theorem C_X10_readsPerson {G : aG} {Hf : wS → aH} {b : Nat} {a1 : Int32} {w : wS} {r : wS} (E : Emb Hf b 0 tbM) (hL : L_X10_readsPerson a1 w = some r) : AC G M_X10_readsPerson [.ref (b + 0), .int a1] (Hf w) (.inl none, Hf r) := by
  unfold L_X10_readsPerson at hL
  refine AC.of (by decide) rfl (Nat.le_of_ble_eq_true rfl) ?_
  show AG G M_X10_readsPerson 0 [some (.ref (b + 0)), some (.int (a1)), none] [] _ _
  refine g_aload_n dX10_readsPerson_0 rfl rfl ?_
  refine s_getI (k := 0) (j := 24) E hL rfl rfl f_X10_239 dX10_readsPerson_1 ?_
  intro v1 hL
  refine g_istore_n (i := 2) dX10_readsPerson_4 rfl (by decide) rfl ?_
  refine g_aload_n dX10_readsPerson_5 rfl rfl ?_
  refine s_getR (j := 33) E rfl rfl f_X10_44 dX10_readsPerson_6 ?_
  refine g_iload_n dX10_readsPerson_9 rfl rfl ?_
  refine g_iload_n dX10_readsPerson_10 rfl rfl ?_
  refine g_none 1 ?_
  refine s_iast (k := 8) E hL rfl dX10_readsPerson_11 ?_
  intro w2 hL
  refine g_aload_n dX10_readsPerson_12 rfl rfl ?_
  refine s_getR (j := 34) E rfl rfl f_X10_47 dX10_readsPerson_13 ?_
  refine g_iload_n dX10_readsPerson_16 rfl rfl ?_
  refine g_aload_n dX10_readsPerson_17 rfl rfl ?_
  refine g_iconst (v := 0) dX10_readsPerson_18 (by decide) ?_
  refine g_bipush (v := 60) dX10_readsPerson_19 (by decide) ?_
  obtain ⟨v3, w4, hc, hL⟩ := xB2_some hL
  refine g_callV (M' := M_X10_number) (as := [.int (0), .int (60)]) (v := some (.int (v3))) l_X10_242 kV_X10_number (by decide) (C_X10_number E hc) rfl (by have := E.1; omega) (E.2.1 _ 0 _ rfl) ⟨_, _, rfl⟩ (Nat.le_of_ble_eq_true rfl) dX10_readsPerson_21 ?_
  refine s_iast (k := 9) E hL rfl dX10_readsPerson_24 ?_
  intro w5 hL
  refine g_aload_n dX10_readsPerson_25 rfl rfl ?_
  refine s_getR (j := 37) E rfl rfl f_X10_56 dX10_readsPerson_26 ?_
  refine g_iconst (v := 3) dX10_readsPerson_29 (by decide) ?_
  refine g_iload_n dX10_readsPerson_30 rfl rfl ?_
  refine g_iadd dX10_readsPerson_31 ?_
  refine g_aload_n dX10_readsPerson_32 rfl rfl ?_
  refine g_iconst (v := 0) dX10_readsPerson_33 (by decide) ?_
  refine g_bipush (v := 60) dX10_readsPerson_34 (by decide) ?_
  obtain ⟨v6, w7, hc, hL⟩ := xB2_some hL
  refine g_callV (M' := M_X10_number) (as := [.int (0), .int (60)]) (v := some (.int (v6))) l_X10_242 kV_X10_number (by decide) (C_X10_number E hc) rfl (by have := E.1; omega) (E.2.1 _ 0 _ rfl) ⟨_, _, rfl⟩ (Nat.le_of_ble_eq_true rfl) dX10_readsPerson_36 ?_
  refine s_iast (k := 12) E hL rfl dX10_readsPerson_39 ?_
  intro w8 hL
  refine g_aload_n dX10_readsPerson_40 rfl rfl ?_
  refine s_getR (j := 35) E rfl rfl f_X10_50 dX10_readsPerson_41 ?_
  refine g_iload_n dX10_readsPerson_44 rfl rfl ?_
  refine g_none 2 ?_
  refine g_aload_n dX10_readsPerson_45 rfl rfl ?_
  refine g_iconst (v := 0) dX10_readsPerson_46 (by decide) ?_
  refine g_bipush (v := 30) dX10_readsPerson_47 (by decide) ?_
  obtain ⟨v9, w10, hc, hL⟩ := xB2_some hL
  refine g_callV (M' := M_X10_number) (as := [.int (0), .int (30)]) (v := some (.int (v9))) l_X10_242 kV_X10_number (by decide) (C_X10_number E hc) rfl (by have := E.1; omega) (E.2.1 _ 0 _ rfl) ⟨_, _, rfl⟩ (Nat.le_of_ble_eq_true rfl) dX10_readsPerson_49 ?_
  refine s_iast (k := 10) E hL rfl dX10_readsPerson_52 ?_
  intro w11 hL
  refine g_aload_n dX10_readsPerson_53 rfl rfl ?_
  obtain ⟨v12, w13, hc, hL⟩ := xB2_some hL
  refine g_callV (M' := M_X10_isGood) (as := []) (v := some (.int (v12))) l_X10_179 kV_X10_isGood (by decide) (C_X10_isGood E hc) rfl (by have := E.1; omega) (E.2.1 _ 0 _ rfl) ⟨_, _, rfl⟩ (Nat.le_of_ble_eq_true rfl) dX10_readsPerson_54 ?_
  refine g_if_eq (tgt := 70) dX10_readsPerson_57 (by decide) (fun q16 => ?_) (fun q16 => ?_)
  · rw [if_pos q16] at hL
    refine g_none 0 ?_
    exact J_X10_readsPerson_70_ok E hL 
  · rw [if_neg q16] at hL
    refine g_aload_n dX10_readsPerson_60 rfl rfl ?_
    refine g_none 0 ?_
    refine g_dup dX10_readsPerson_61 rfl ?_
    refine s_getI (k := 0) (j := 24) E hL rfl rfl f_X10_239 dX10_readsPerson_62 ?_
    intro v14 hL
    refine g_iconst (v := 1) dX10_readsPerson_65 (by decide) ?_
    refine g_iadd dX10_readsPerson_66 ?_
    refine s_putI (k := 0) (j := 24) E hL rfl rfl (by decide) fw_X10_239 rfl rfl dX10_readsPerson_67 ?_
    intro w15 hL
    exact J_X10_readsPerson_70_ok E hL 
def J_X10_line_272 (w : wS) : Option (wS) :=
  xB2 (L_X10_isSign (59) w) fun v1 w2 => xB (L_X10_need (v1) w2) fun w3 => some w3
set_option maxRecDepth 20000 in
theorem J_X10_line_272_ok {G : aG} {Hf : wS → aH} {b : Nat} {w : wS} {r : wS} (E : Emb Hf b 0 tbM) (hL : J_X10_line_272   w = some r) : AG G M_X10_line 272 [some (.ref (b + 0)), none] [] (Hf w) (.inl none, Hf r) := by
  unfold J_X10_line_272 at hL
  refine g_aload_n dX10_line_272 rfl rfl ?_
  refine g_aload_n dX10_line_273 rfl rfl ?_
  refine g_none 0 ?_
  refine g_bipush (v := 59) dX10_line_274 (by decide) ?_
  obtain ⟨v1, w2, hc, hL⟩ := xB2_some hL
  refine g_callV (M' := M_X10_isSign) (as := [.int (59)]) (v := some (.int (v1))) l_X10_214 kV_X10_isSign (by decide) (C_X10_isSign E hc) rfl (by have := E.1; omega) (E.2.1 _ 0 _ rfl) ⟨_, _, rfl⟩ (Nat.le_of_ble_eq_true rfl) dX10_line_276 ?_
  obtain ⟨w3, hc, hL⟩ := xB_some hL
  refine g_callV (M' := M_X10_need) (as := [.int (v1)]) (v := none) l_X10_268 kV_X10_need (by decide) (C_X10_need E hc) rfl (by have := E.1; omega) (E.2.1 _ 0 _ rfl) ⟨_, _, rfl⟩ (Nat.le_of_ble_eq_true rfl) dX10_line_279 ?_
  obtain rfl := Option.some.inj hL
  exact g_vret rfl dX10_line_282
def J_X10_line_244 (y1 : Int32) (y2 : Int32) (w : wS) : Option (wS) :=
  xB2 (L_X10_begins (y1) (y2) w) fun v4 w5 => if v4 = 0 then J_X10_line_272   w5 else xB (xGet w5 29) fun v6 => xB (xPut w5 28 (v6)) fun w7 => xB (L_X10_expression (6) w7) fun w8 => J_X10_line_272   w8
set_option maxRecDepth 20000 in
theorem J_X10_line_244_ok {G : aG} {Hf : wS → aH} {b : Nat} {y1 : Int32} {y2 : Int32} {w : wS} {r : wS} (E : Emb Hf b 0 tbM) (hL : J_X10_line_244  y1 y2 w = some r) : AG G M_X10_line 244 [some (.ref (b + 0)), none] [.int (y2), .int (y1), .ref (b + 0)] (Hf w) (.inl none, Hf r) := by
  unfold J_X10_line_244 at hL
  obtain ⟨v4, w5, hc, hL⟩ := xB2_some hL
  refine g_callV (M' := M_X10_begins) (as := [.int (y1), .int (y2)]) (v := some (.int (v4))) l_X10_246 kV_X10_begins (by decide) (C_X10_begins E hc) rfl (by have := E.1; omega) (E.2.1 _ 0 _ rfl) ⟨_, _, rfl⟩ (Nat.le_of_ble_eq_true rfl) dX10_line_244 ?_
  refine g_if_eq (tgt := 272) dX10_line_247 (by decide) (fun q9 => ?_) (fun q9 => ?_)
  · rw [if_pos q9] at hL
    exact J_X10_line_272_ok E hL 
  · rw [if_neg q9] at hL
    refine g_aload_n dX10_line_250 rfl rfl ?_
    refine g_aload_n dX10_line_251 rfl rfl ?_
    refine s_getI (k := 0) (j := 29) E hL rfl rfl f_X10_189 dX10_line_252 ?_
    intro v6 hL
    refine s_putI (k := 0) (j := 28) E hL rfl rfl (by decide) fw_X10_265 rfl rfl dX10_line_255 ?_
    intro w7 hL
    refine g_aload_n dX10_line_258 rfl rfl ?_
    refine g_bipush (v := 6) dX10_line_259 (by decide) ?_
    obtain ⟨w8, hc, hL⟩ := xB_some hL
    refine g_callV (M' := M_X10_expression) (as := [.int (6)]) (v := none) l_X10_262 kV_X10_expression (by decide) (C_X10_expression E hc) rfl (by have := E.1; omega) (E.2.1 _ 0 _ rfl) ⟨_, _, rfl⟩ (Nat.le_of_ble_eq_true rfl) dX10_line_261 ?_
    refine g_goto (tgt := 272) dX10_line_264 (by decide) ?_
    exact J_X10_line_272_ok E hL 
def J_X10_line_201 (y1 : Int32) (y2 : Int32) (w : wS) : Option (wS) :=
  xB2 (L_X10_begins (y1) (y2) w) fun v10 w11 => if v10 = 0 then J_X10_line_272   w11 else xB (xGet w11 29) fun v12 => xB (xPut w11 27 (v12)) fun w13 => xB (L_X10_expression (5) w13) fun w14 => J_X10_line_272   w14
set_option maxRecDepth 20000 in
theorem J_X10_line_201_ok {G : aG} {Hf : wS → aH} {b : Nat} {y1 : Int32} {y2 : Int32} {w : wS} {r : wS} (E : Emb Hf b 0 tbM) (hL : J_X10_line_201  y1 y2 w = some r) : AG G M_X10_line 201 [some (.ref (b + 0)), none] [.int (y2), .int (y1), .ref (b + 0)] (Hf w) (.inl none, Hf r) := by
  unfold J_X10_line_201 at hL
  obtain ⟨v10, w11, hc, hL⟩ := xB2_some hL
  refine g_callV (M' := M_X10_begins) (as := [.int (y1), .int (y2)]) (v := some (.int (v10))) l_X10_246 kV_X10_begins (by decide) (C_X10_begins E hc) rfl (by have := E.1; omega) (E.2.1 _ 0 _ rfl) ⟨_, _, rfl⟩ (Nat.le_of_ble_eq_true rfl) dX10_line_201 ?_
  refine g_if_eq (tgt := 272) dX10_line_204 (by decide) (fun q15 => ?_) (fun q15 => ?_)
  · rw [if_pos q15] at hL
    exact J_X10_line_272_ok E hL 
  · rw [if_neg q15] at hL
    refine g_aload_n dX10_line_207 rfl rfl ?_
    refine g_aload_n dX10_line_208 rfl rfl ?_
    refine s_getI (k := 0) (j := 29) E hL rfl rfl f_X10_189 dX10_line_209 ?_
    intro v12 hL
    refine s_putI (k := 0) (j := 27) E hL rfl rfl (by decide) fw_X10_259 rfl rfl dX10_line_212 ?_
    intro w13 hL
    refine g_aload_n dX10_line_215 rfl rfl ?_
    refine g_iconst (v := 5) dX10_line_216 (by decide) ?_
    obtain ⟨w14, hc, hL⟩ := xB_some hL
    refine g_callV (M' := M_X10_expression) (as := [.int (5)]) (v := none) l_X10_262 kV_X10_expression (by decide) (C_X10_expression E hc) rfl (by have := E.1; omega) (E.2.1 _ 0 _ rfl) ⟨_, _, rfl⟩ (Nat.le_of_ble_eq_true rfl) dX10_line_217 ?_
    refine g_goto (tgt := 272) dX10_line_220 (by decide) ?_
    exact J_X10_line_272_ok E hL 
def J_X10_line_160 (y1 : Int32) (y2 : Int32) (w : wS) : Option (wS) :=
  xB2 (L_X10_begins (y1) (y2) w) fun v16 w17 => if v16 = 0 then J_X10_line_272   w17 else xB2 (L_X10_number (1) (9) w17) fun v18 w19 => xB (xPut w19 26 (v18)) fun w20 => J_X10_line_272   w20
set_option maxRecDepth 20000 in
theorem J_X10_line_160_ok {G : aG} {Hf : wS → aH} {b : Nat} {y1 : Int32} {y2 : Int32} {w : wS} {r : wS} (E : Emb Hf b 0 tbM) (hL : J_X10_line_160  y1 y2 w = some r) : AG G M_X10_line 160 [some (.ref (b + 0)), none] [.int (y2), .int (y1), .ref (b + 0)] (Hf w) (.inl none, Hf r) := by
  unfold J_X10_line_160 at hL
  obtain ⟨v16, w17, hc, hL⟩ := xB2_some hL
  refine g_callV (M' := M_X10_begins) (as := [.int (y1), .int (y2)]) (v := some (.int (v16))) l_X10_246 kV_X10_begins (by decide) (C_X10_begins E hc) rfl (by have := E.1; omega) (E.2.1 _ 0 _ rfl) ⟨_, _, rfl⟩ (Nat.le_of_ble_eq_true rfl) dX10_line_160 ?_
  refine g_if_eq (tgt := 272) dX10_line_163 (by decide) (fun q21 => ?_) (fun q21 => ?_)
  · rw [if_pos q21] at hL
    exact J_X10_line_272_ok E hL 
  · rw [if_neg q21] at hL
    refine g_aload_n dX10_line_166 rfl rfl ?_
    refine g_aload_n dX10_line_167 rfl rfl ?_
    refine g_iconst (v := 1) dX10_line_168 (by decide) ?_
    refine g_bipush (v := 9) dX10_line_169 (by decide) ?_
    obtain ⟨v18, w19, hc, hL⟩ := xB2_some hL
    refine g_callV (M' := M_X10_number) (as := [.int (1), .int (9)]) (v := some (.int (v18))) l_X10_242 kV_X10_number (by decide) (C_X10_number E hc) rfl (by have := E.1; omega) (E.2.1 _ 0 _ rfl) ⟨_, _, rfl⟩ (Nat.le_of_ble_eq_true rfl) dX10_line_171 ?_
    refine s_putI (k := 0) (j := 26) E hL rfl rfl (by decide) fw_X10_256 rfl rfl dX10_line_174 ?_
    intro w20 hL
    refine g_goto (tgt := 272) dX10_line_177 (by decide) ?_
    exact J_X10_line_272_ok E hL 
def J_X10_line_76 (y1 : Int32) (w : wS) : Option (wS) :=
  xB2 (L_X10_begins (y1) (0) w) fun v22 w23 => if v22 = 0 then J_X10_line_272   w23 else xB (xGet w23 25) fun v24 => xB2 (L_X10_number (0) (999) w23) fun v25 w26 => xB (xAst w26 12 33 ((27 + v24)) (v25)) fun w27 => xB (xGet w27 25) fun v28 => xB2 (L_X10_number (0) (30) w27) fun v29 w30 => xB (xAst w30 11 6 (v28) (v29)) fun w31 => xB2 (L_X10_isGood  w31) fun v32 w33 => if v32 = 0 then J_X10_line_272   w33 else xB (xGet w33 25) fun v34 => xB (xPut w33 25 ((v34 + 1))) fun w35 => J_X10_line_272   w35
set_option maxRecDepth 20000 in
theorem J_X10_line_76_ok {G : aG} {Hf : wS → aH} {b : Nat} {y1 : Int32} {w : wS} {r : wS} (E : Emb Hf b 0 tbM) (hL : J_X10_line_76  y1 w = some r) : AG G M_X10_line 76 [some (.ref (b + 0)), none] [.int (y1), .ref (b + 0)] (Hf w) (.inl none, Hf r) := by
  unfold J_X10_line_76 at hL
  refine g_iconst (v := 0) dX10_line_76 (by decide) ?_
  obtain ⟨v22, w23, hc, hL⟩ := xB2_some hL
  refine g_callV (M' := M_X10_begins) (as := [.int (y1), .int (0)]) (v := some (.int (v22))) l_X10_246 kV_X10_begins (by decide) (C_X10_begins E hc) rfl (by have := E.1; omega) (E.2.1 _ 0 _ rfl) ⟨_, _, rfl⟩ (Nat.le_of_ble_eq_true rfl) dX10_line_77 ?_
  refine g_if_eq (tgt := 272) dX10_line_80 (by decide) (fun q37 => ?_) (fun q37 => ?_)
  · rw [if_pos q37] at hL
    exact J_X10_line_272_ok E hL 
  · rw [if_neg q37] at hL
    refine g_aload_n dX10_line_83 rfl rfl ?_
    refine s_getR (j := 37) E rfl rfl f_X10_56 dX10_line_84 ?_
    refine g_bipush (v := 27) dX10_line_87 (by decide) ?_
    refine g_aload_n dX10_line_89 rfl rfl ?_
    refine s_getI (k := 0) (j := 25) E hL rfl rfl f_X10_253 dX10_line_90 ?_
    intro v24 hL
    refine g_iadd dX10_line_93 ?_
    refine g_aload_n dX10_line_94 rfl rfl ?_
    refine g_iconst (v := 0) dX10_line_95 (by decide) ?_
    refine g_sipush (v := 999) dX10_line_96 (by decide) ?_
    obtain ⟨v25, w26, hc, hL⟩ := xB2_some hL
    refine g_callV (M' := M_X10_number) (as := [.int (0), .int (999)]) (v := some (.int (v25))) l_X10_242 kV_X10_number (by decide) (C_X10_number E hc) rfl (by have := E.1; omega) (E.2.1 _ 0 _ rfl) ⟨_, _, rfl⟩ (Nat.le_of_ble_eq_true rfl) dX10_line_99 ?_
    refine s_iast (k := 12) E hL rfl dX10_line_102 ?_
    intro w27 hL
    refine g_aload_n dX10_line_103 rfl rfl ?_
    refine s_getR (j := 36) E rfl rfl f_X10_53 dX10_line_104 ?_
    refine g_aload_n dX10_line_107 rfl rfl ?_
    refine s_getI (k := 0) (j := 25) E hL rfl rfl f_X10_253 dX10_line_108 ?_
    intro v28 hL
    refine g_aload_n dX10_line_111 rfl rfl ?_
    refine g_iconst (v := 0) dX10_line_112 (by decide) ?_
    refine g_bipush (v := 30) dX10_line_113 (by decide) ?_
    obtain ⟨v29, w30, hc, hL⟩ := xB2_some hL
    refine g_callV (M' := M_X10_number) (as := [.int (0), .int (30)]) (v := some (.int (v29))) l_X10_242 kV_X10_number (by decide) (C_X10_number E hc) rfl (by have := E.1; omega) (E.2.1 _ 0 _ rfl) ⟨_, _, rfl⟩ (Nat.le_of_ble_eq_true rfl) dX10_line_115 ?_
    refine s_iast (k := 11) E hL rfl dX10_line_118 ?_
    intro w31 hL
    refine g_aload_n dX10_line_119 rfl rfl ?_
    obtain ⟨v32, w33, hc, hL⟩ := xB2_some hL
    refine g_callV (M' := M_X10_isGood) (as := []) (v := some (.int (v32))) l_X10_179 kV_X10_isGood (by decide) (C_X10_isGood E hc) rfl (by have := E.1; omega) (E.2.1 _ 0 _ rfl) ⟨_, _, rfl⟩ (Nat.le_of_ble_eq_true rfl) dX10_line_120 ?_
    refine g_if_eq (tgt := 272) dX10_line_123 (by decide) (fun q36 => ?_) (fun q36 => ?_)
    · rw [if_pos q36] at hL
      exact J_X10_line_272_ok E hL 
    · rw [if_neg q36] at hL
      refine g_aload_n dX10_line_126 rfl rfl ?_
      refine g_dup dX10_line_127 rfl ?_
      refine s_getI (k := 0) (j := 25) E hL rfl rfl f_X10_253 dX10_line_128 ?_
      intro v34 hL
      refine g_iconst (v := 1) dX10_line_131 (by decide) ?_
      refine g_iadd dX10_line_132 ?_
      refine s_putI (k := 0) (j := 25) E hL rfl rfl (by decide) fw_X10_253 rfl rfl dX10_line_133 ?_
      intro w35 hL
      refine g_goto (tgt := 272) dX10_line_136 (by decide) ?_
      exact J_X10_line_272_ok E hL 
def J_X10_line_38 (x1 : Int32) (y1 : Int32) (w : wS) : Option (wS) :=
  xB2 (L_X10_begins (y1) (0) w) fun v38 w39 => if v38 = 0 then J_X10_line_272   w39 else xB (L_X10_readsPerson ((x1 - 7)) w39) fun w40 => J_X10_line_272   w40
set_option maxRecDepth 20000 in
theorem J_X10_line_38_ok {G : aG} {Hf : wS → aH} {b : Nat} {x1 : Int32} {y1 : Int32} {w : wS} {r : wS} (E : Emb Hf b 0 tbM) (hL : J_X10_line_38  x1 y1 w = some r) : AG G M_X10_line 38 [some (.ref (b + 0)), some (.int (x1))] [.int (y1), .ref (b + 0)] (Hf w) (.inl none, Hf r) := by
  unfold J_X10_line_38 at hL
  refine g_iconst (v := 0) dX10_line_38 (by decide) ?_
  obtain ⟨v38, w39, hc, hL⟩ := xB2_some hL
  refine g_callV (M' := M_X10_begins) (as := [.int (y1), .int (0)]) (v := some (.int (v38))) l_X10_246 kV_X10_begins (by decide) (C_X10_begins E hc) rfl (by have := E.1; omega) (E.2.1 _ 0 _ rfl) ⟨_, _, rfl⟩ (Nat.le_of_ble_eq_true rfl) dX10_line_39 ?_
  refine g_if_eq (tgt := 272) dX10_line_42 (by decide) (fun q41 => ?_) (fun q41 => ?_)
  · rw [if_pos q41] at hL
    refine g_none 1 ?_
    exact J_X10_line_272_ok E hL 
  · rw [if_neg q41] at hL
    refine g_aload_n dX10_line_45 rfl rfl ?_
    refine g_iload_n dX10_line_46 rfl rfl ?_
    refine g_none 1 ?_
    refine g_bipush (v := 7) dX10_line_47 (by decide) ?_
    refine g_isub dX10_line_49 ?_
    obtain ⟨w40, hc, hL⟩ := xB_some hL
    refine g_callV (M' := M_X10_readsPerson) (as := [.int ((x1 - 7))]) (v := none) l_X10_250 kV_X10_readsPerson (by decide) (C_X10_readsPerson E hc) rfl (by have := E.1; omega) (E.2.1 _ 0 _ rfl) ⟨_, _, rfl⟩ (Nat.le_of_ble_eq_true rfl) dX10_line_50 ?_
    refine g_goto (tgt := 272) dX10_line_53 (by decide) ?_
    exact J_X10_line_272_ok E hL 
def J_X10_line_23 (x1 : Int32) (w : wS) : Option (wS) :=
  xB (xGet w 24) fun v42 => if v42 = 8 then J_X10_line_38  (x1) (1) w else J_X10_line_38  (x1) (0) w
set_option maxRecDepth 20000 in
theorem J_X10_line_23_ok {G : aG} {Hf : wS → aH} {b : Nat} {x1 : Int32} {w : wS} {r : wS} (E : Emb Hf b 0 tbM) (hL : J_X10_line_23  x1 w = some r) : AG G M_X10_line 23 [some (.ref (b + 0)), some (.int (x1))] [] (Hf w) (.inl none, Hf r) := by
  unfold J_X10_line_23 at hL
  refine g_aload_n dX10_line_23 rfl rfl ?_
  refine g_aload_n dX10_line_24 rfl rfl ?_
  refine s_getI (k := 0) (j := 24) E hL rfl rfl f_X10_239 dX10_line_25 ?_
  intro v42 hL
  refine g_bipush (v := 8) dX10_line_28 (by decide) ?_
  refine g_icmp_ne (tgt := 37) dX10_line_30 (by decide) (fun q43 => ?_) (fun q43 => ?_)
  · rw [if_neg q43] at hL
    refine g_iconst (v := 0) dX10_line_37 (by decide) ?_
    exact J_X10_line_38_ok E hL 
  · rw [if_pos q43] at hL
    refine g_iconst (v := 1) dX10_line_33 (by decide) ?_
    refine g_goto (tgt := 38) dX10_line_34 (by decide) ?_
    exact J_X10_line_38_ok E hL 
def L_X10_line (w : wS) : Option (wS) :=
  xB2 (L_X10_knownWord  w) fun v44 w45 => if v44 = 7 then J_X10_line_23  (v44) w45 else if v44 = 8 then J_X10_line_23  (v44) w45 else if v44 = 9 then J_X10_line_23  (v44) w45 else if v44 = 4 then xB (xGet w45 25) fun v56 => if v56 = 6 then J_X10_line_76  (1) w45 else J_X10_line_76  (0) w45 else if v44 = 10 then xB (xGet w45 26) fun v53 => if v53 = (-1) then J_X10_line_160  (0) (0) w45 else J_X10_line_160  (0) (1) w45 else if v44 = 11 then xB (xGet w45 27) fun v50 => if v50 = (-1) then J_X10_line_201  (0) (0) w45 else J_X10_line_201  (0) (1) w45 else if v44 = 12 then xB (xGet w45 28) fun v47 => if v47 = (-1) then J_X10_line_244  (0) (0) w45 else J_X10_line_244  (0) (1) w45 else xB (L_X10_wrong (1) w45) fun w46 => J_X10_line_272   w46
set_option maxRecDepth 20000 in
theorem C_X10_line {G : aG} {Hf : wS → aH} {b : Nat} {w : wS} {r : wS} (E : Emb Hf b 0 tbM) (hL : L_X10_line  w = some r) : AC G M_X10_line [.ref (b + 0)] (Hf w) (.inl none, Hf r) := by
  unfold L_X10_line at hL
  refine AC.of (by decide) rfl (Nat.le_of_ble_eq_true rfl) ?_
  show AG G M_X10_line 0 [some (.ref (b + 0)), none] [] _ _
  refine g_aload_n dX10_line_0 rfl rfl ?_
  obtain ⟨v44, w45, hc, hL⟩ := xB2_some hL
  refine g_callV (M' := M_X10_knownWord) (as := []) (v := some (.int (v44))) l_X10_204 kV_X10_knownWord (by decide) (C_X10_knownWord E hc) rfl (by have := E.1; omega) (E.2.1 _ 0 _ rfl) ⟨_, _, rfl⟩ (Nat.le_of_ble_eq_true rfl) dX10_line_1 ?_
  refine g_istore_n (i := 1) dX10_line_4 rfl (by decide) rfl ?_
  refine g_iload_n dX10_line_5 rfl rfl ?_
  refine g_bipush (v := 7) dX10_line_6 (by decide) ?_
  refine g_icmp_eq (tgt := 23) dX10_line_8 (by decide) (fun q61 => ?_) (fun q61 => ?_)
  · rw [if_pos q61] at hL
    exact J_X10_line_23_ok E hL 
  · rw [if_neg q61] at hL
    refine g_iload_n dX10_line_11 rfl rfl ?_
    refine g_bipush (v := 8) dX10_line_12 (by decide) ?_
    refine g_icmp_eq (tgt := 23) dX10_line_14 (by decide) (fun q60 => ?_) (fun q60 => ?_)
    · rw [if_pos q60] at hL
      exact J_X10_line_23_ok E hL 
    · rw [if_neg q60] at hL
      refine g_iload_n dX10_line_17 rfl rfl ?_
      refine g_bipush (v := 9) dX10_line_18 (by decide) ?_
      refine g_icmp_ne (tgt := 56) dX10_line_20 (by decide) (fun q59 => ?_) (fun q59 => ?_)
      · rw [if_neg q59] at hL
        refine g_iload_n dX10_line_56 rfl rfl ?_
        refine g_iconst (v := 4) dX10_line_57 (by decide) ?_
        refine g_icmp_ne (tgt := 139) dX10_line_58 (by decide) (fun q58 => ?_) (fun q58 => ?_)
        · rw [if_neg q58] at hL
          refine g_iload_n dX10_line_139 rfl rfl ?_
          refine g_bipush (v := 10) dX10_line_140 (by decide) ?_
          refine g_icmp_ne (tgt := 180) dX10_line_142 (by decide) (fun q55 => ?_) (fun q55 => ?_)
          · rw [if_neg q55] at hL
            refine g_iload_n dX10_line_180 rfl rfl ?_
            refine g_bipush (v := 11) dX10_line_181 (by decide) ?_
            refine g_icmp_ne (tgt := 223) dX10_line_183 (by decide) (fun q52 => ?_) (fun q52 => ?_)
            · rw [if_neg q52] at hL
              refine g_iload_n dX10_line_223 rfl rfl ?_
              refine g_none 1 ?_
              refine g_bipush (v := 12) dX10_line_224 (by decide) ?_
              refine g_icmp_ne (tgt := 267) dX10_line_226 (by decide) (fun q49 => ?_) (fun q49 => ?_)
              · rw [if_neg q49] at hL
                refine g_aload_n dX10_line_267 rfl rfl ?_
                refine g_iconst (v := 1) dX10_line_268 (by decide) ?_
                obtain ⟨w46, hc, hL⟩ := xB_some hL
                refine g_callV (M' := M_X10_wrong) (as := [.int (1)]) (v := none) l_X10_186 kV_X10_wrong (by decide) (C_X10_wrong E hc) rfl (by have := E.1; omega) (E.2.1 _ 0 _ rfl) ⟨_, _, rfl⟩ (Nat.le_of_ble_eq_true rfl) dX10_line_269 ?_
                exact J_X10_line_272_ok E hL 
              · rw [if_pos q49] at hL
                refine g_aload_n dX10_line_229 rfl rfl ?_
                refine g_iconst (v := 0) dX10_line_230 (by decide) ?_
                refine g_aload_n dX10_line_231 rfl rfl ?_
                refine s_getI (k := 0) (j := 28) E hL rfl rfl f_X10_265 dX10_line_232 ?_
                intro v47 hL
                refine g_iconst (v := (-1)) dX10_line_235 (by decide) ?_
                refine g_icmp_eq (tgt := 243) dX10_line_236 (by decide) (fun q48 => ?_) (fun q48 => ?_)
                · rw [if_pos q48] at hL
                  refine g_iconst (v := 0) dX10_line_243 (by decide) ?_
                  exact J_X10_line_244_ok E hL 
                · rw [if_neg q48] at hL
                  refine g_iconst (v := 1) dX10_line_239 (by decide) ?_
                  refine g_goto (tgt := 244) dX10_line_240 (by decide) ?_
                  exact J_X10_line_244_ok E hL 
            · rw [if_pos q52] at hL
              refine g_none 1 ?_
              refine g_aload_n dX10_line_186 rfl rfl ?_
              refine g_iconst (v := 0) dX10_line_187 (by decide) ?_
              refine g_aload_n dX10_line_188 rfl rfl ?_
              refine s_getI (k := 0) (j := 27) E hL rfl rfl f_X10_259 dX10_line_189 ?_
              intro v50 hL
              refine g_iconst (v := (-1)) dX10_line_192 (by decide) ?_
              refine g_icmp_eq (tgt := 200) dX10_line_193 (by decide) (fun q51 => ?_) (fun q51 => ?_)
              · rw [if_pos q51] at hL
                refine g_iconst (v := 0) dX10_line_200 (by decide) ?_
                exact J_X10_line_201_ok E hL 
              · rw [if_neg q51] at hL
                refine g_iconst (v := 1) dX10_line_196 (by decide) ?_
                refine g_goto (tgt := 201) dX10_line_197 (by decide) ?_
                exact J_X10_line_201_ok E hL 
          · rw [if_pos q55] at hL
            refine g_none 1 ?_
            refine g_aload_n dX10_line_145 rfl rfl ?_
            refine g_iconst (v := 0) dX10_line_146 (by decide) ?_
            refine g_aload_n dX10_line_147 rfl rfl ?_
            refine s_getI (k := 0) (j := 26) E hL rfl rfl f_X10_256 dX10_line_148 ?_
            intro v53 hL
            refine g_iconst (v := (-1)) dX10_line_151 (by decide) ?_
            refine g_icmp_eq (tgt := 159) dX10_line_152 (by decide) (fun q54 => ?_) (fun q54 => ?_)
            · rw [if_pos q54] at hL
              refine g_iconst (v := 0) dX10_line_159 (by decide) ?_
              exact J_X10_line_160_ok E hL 
            · rw [if_neg q54] at hL
              refine g_iconst (v := 1) dX10_line_155 (by decide) ?_
              refine g_goto (tgt := 160) dX10_line_156 (by decide) ?_
              exact J_X10_line_160_ok E hL 
        · rw [if_pos q58] at hL
          refine g_none 1 ?_
          refine g_aload_n dX10_line_61 rfl rfl ?_
          refine g_aload_n dX10_line_62 rfl rfl ?_
          refine s_getI (k := 0) (j := 25) E hL rfl rfl f_X10_253 dX10_line_63 ?_
          intro v56 hL
          refine g_bipush (v := 6) dX10_line_66 (by decide) ?_
          refine g_icmp_ne (tgt := 75) dX10_line_68 (by decide) (fun q57 => ?_) (fun q57 => ?_)
          · rw [if_neg q57] at hL
            refine g_iconst (v := 0) dX10_line_75 (by decide) ?_
            exact J_X10_line_76_ok E hL 
          · rw [if_pos q57] at hL
            refine g_iconst (v := 1) dX10_line_71 (by decide) ?_
            refine g_goto (tgt := 76) dX10_line_72 (by decide) ?_
            exact J_X10_line_76_ok E hL 
      · rw [if_pos q59] at hL
        exact J_X10_line_23_ok E hL 
def B_X10_town_276 (kh276 : Int32 → wS → Option (Int32 × wS)) (ke300 : wS → Option (Int32 × wS)) (x2 : Int32) (w : wS) : Option (Int32 × wS) :=
  if 33 ≤ x2 then ke300  w else xB (xAld w 12 33 (x2)) fun v1 => xB (xAst w 16 66 (x2) (v1)) fun w2 => kh276 ((x2 + 1)) w2
set_option maxRecDepth 20000 in
theorem B_X10_town_276_ok {G : aG} {Hf : wS → aH} {b : Nat} {kh276 : Int32 → wS → Option (Int32 × wS)} {ke300 : wS → Option (Int32 × wS)} {x2 : Int32} {w : wS} {r : Int32 × wS} (E : Emb Hf b 0 tbM) (hL : B_X10_town_276 kh276 ke300 x2 w = some r) (Hkh276 : ∀ (z0 : Int32) (w : wS), kh276 z0 w = some r → AG G M_X10_town 276 [some (.ref (b + 0)), none, some (.int (z0))] [] (Hf w) (.inl (some (.int r.1)), Hf r.2)) (Hke300 : ∀ (w : wS), ke300  w = some r → AG G M_X10_town 300 [some (.ref (b + 0)), none, none] [] (Hf w) (.inl (some (.int r.1)), Hf r.2)) : AG G M_X10_town 276 [some (.ref (b + 0)), none, some (.int (x2))] [] (Hf w) (.inl (some (.int r.1)), Hf r.2) := by
  unfold B_X10_town_276 at hL
  refine g_iload_n dX10_town_276 rfl rfl ?_
  refine g_bipush (v := 33) dX10_town_277 (by decide) ?_
  refine g_icmp_ge (tgt := 300) dX10_town_279 (by decide) (fun q3 => ?_) (fun q3 => ?_)
  · rw [if_pos q3] at hL
    refine g_none 2 ?_
    exact Hke300  _ hL
  · rw [if_neg q3] at hL
    refine g_aload_n dX10_town_282 rfl rfl ?_
    refine s_getR (j := 41) E rfl rfl f_X10_69 dX10_town_283 ?_
    refine g_iload_n dX10_town_286 rfl rfl ?_
    refine g_aload_n dX10_town_287 rfl rfl ?_
    refine s_getR (j := 37) E rfl rfl f_X10_56 dX10_town_288 ?_
    refine g_iload_n dX10_town_291 rfl rfl ?_
    refine s_iald (k := 12) E hL rfl dX10_town_292 ?_
    intro v1 hL
    refine s_iast (k := 16) E hL rfl dX10_town_293 ?_
    intro w2 hL
    refine g_iincV (v := (x2 + 1)) dX10_town_294 rfl rfl (by decide) rfl ?_
    refine g_goto (tgt := 276) dX10_town_297 (by decide) ?_
    exact Hkh276 _ _ hL
def P_X10_town_276 (ke300 : wS → Option (Int32 × wS)) (n : Nat) (x2 : Int32) (w : wS) : Option (Int32 × wS) :=
  xLoop (fun (kk : Int32 × wS → Option (Int32 × wS)) σ => B_X10_town_276 (fun x2 w => kk (x2, w)) ke300 (σ.1) (σ.2)) n (x2, w)
theorem P_X10_town_276_ok {G : aG} {Hf : wS → aH} {b : Nat} {ke300 : wS → Option (Int32 × wS)} {n : Nat} {x2 : Int32} {w : wS} {r : Int32 × wS} (E : Emb Hf b 0 tbM) (hL : P_X10_town_276 ke300 n x2 w = some r) (Hke300 : ∀ (w : wS), ke300  w = some r → AG G M_X10_town 300 [some (.ref (b + 0)), none, none] [] (Hf w) (.inl (some (.int r.1)), Hf r.2)) : AG G M_X10_town 276 [some (.ref (b + 0)), none, some (.int (x2))] [] (Hf w) (.inl (some (.int r.1)), Hf r.2) :=
  xLoop_ok (Q := fun (σ : Int32 × wS) => AG G M_X10_town 276 [some (.ref (b + 0)), none, some (.int (σ.1))] [] (Hf σ.2) (.inl (some (.int r.1)), Hf r.2)) (fun kk hk σ hσ => B_X10_town_276_ok E hσ (fun x2 w h9 => hk (x2, w) h9) Hke300) n (x2, w) hL
def J_X10_town_195 (y1 : Int32) (w : wS) : Option (Int32 × wS) :=
  xB (xPut w 3 (y1)) fun w4 => xB (xGet w4 27) fun v5 => xB (xPut w4 4 (v5)) fun w6 => xB (xGet w6 28) fun v7 => xB (xPut w6 5 (v7)) fun w8 => xB (xCopies 8 1 8 w8) fun w9 => xB (xCopies 9 2 8 w9) fun w10 => xB (xCopies 10 3 8 w10) fun w11 => xB (xCopies 11 4 6 w11) fun w12 => xB (xCopies 13 5 1400 w12) fun w13 => P_X10_town_276 (fun w14 => xB (xPut w14 43 (0)) fun w15 => xB (xPut w15 58 (0)) fun w16 => xB (xPut w16 64 (0)) fun w17 => some (0, w17)) 5000 (0) w13
set_option maxRecDepth 20000 in
theorem J_X10_town_195_ok {G : aG} {Hf : wS → aH} {b : Nat} {y1 : Int32} {w : wS} {r : Int32 × wS} (E : Emb Hf b 0 tbM) (hL : J_X10_town_195  y1 w = some r) : AG G M_X10_town 195 [some (.ref (b + 0)), none, none] [.int (y1), .ref (b + 0)] (Hf w) (.inl (some (.int r.1)), Hf r.2) := by
  unfold J_X10_town_195 at hL
  refine s_putI (k := 0) (j := 3) E hL rfl rfl (by decide) fw_X10_7 rfl rfl dX10_town_195 ?_
  intro w4 hL
  refine g_aload_n dX10_town_198 rfl rfl ?_
  refine g_aload_n dX10_town_199 rfl rfl ?_
  refine s_getI (k := 0) (j := 27) E hL rfl rfl f_X10_259 dX10_town_200 ?_
  intro v5 hL
  refine s_putI (k := 0) (j := 4) E hL rfl rfl (by decide) fw_X10_13 rfl rfl dX10_town_203 ?_
  intro w6 hL
  refine g_aload_n dX10_town_206 rfl rfl ?_
  refine g_aload_n dX10_town_207 rfl rfl ?_
  refine s_getI (k := 0) (j := 28) E hL rfl rfl f_X10_265 dX10_town_208 ?_
  intro v7 hL
  refine s_putI (k := 0) (j := 5) E hL rfl rfl (by decide) fw_X10_16 rfl rfl dX10_town_211 ?_
  intro w8 hL
  refine g_aload_n dX10_town_214 rfl rfl ?_
  refine g_aload_n dX10_town_215 rfl rfl ?_
  refine s_getR (j := 33) E rfl rfl f_X10_44 dX10_town_216 ?_
  refine g_aload_n dX10_town_219 rfl rfl ?_
  refine s_getR (j := 6) E rfl rfl f_X10_19 dX10_town_220 ?_
  obtain ⟨w9, hc, hL⟩ := xB_some hL
  refine g_callV (M' := M_X10_copies) (as := [.ref (b + 8), .ref (b + 1)]) (v := none) l_X10_284 kV_X10_copies (by decide) (C_copies E (ka := 8) (kb := 1) (na := 8) (nb := 8) rfl rfl (by decide) hc) rfl (by have := E.1; omega) (E.2.1 _ 0 _ rfl) ⟨_, _, rfl⟩ (Nat.le_of_ble_eq_true rfl) dX10_town_223 ?_
  refine g_aload_n dX10_town_226 rfl rfl ?_
  refine g_aload_n dX10_town_227 rfl rfl ?_
  refine s_getR (j := 34) E rfl rfl f_X10_47 dX10_town_228 ?_
  refine g_aload_n dX10_town_231 rfl rfl ?_
  refine s_getR (j := 7) E rfl rfl f_X10_23 dX10_town_232 ?_
  obtain ⟨w10, hc, hL⟩ := xB_some hL
  refine g_callV (M' := M_X10_copies) (as := [.ref (b + 9), .ref (b + 2)]) (v := none) l_X10_284 kV_X10_copies (by decide) (C_copies E (ka := 9) (kb := 2) (na := 8) (nb := 8) rfl rfl (by decide) hc) rfl (by have := E.1; omega) (E.2.1 _ 0 _ rfl) ⟨_, _, rfl⟩ (Nat.le_of_ble_eq_true rfl) dX10_town_235 ?_
  refine g_aload_n dX10_town_238 rfl rfl ?_
  refine g_aload_n dX10_town_239 rfl rfl ?_
  refine s_getR (j := 35) E rfl rfl f_X10_50 dX10_town_240 ?_
  refine g_aload_n dX10_town_243 rfl rfl ?_
  refine s_getR (j := 8) E rfl rfl f_X10_26 dX10_town_244 ?_
  obtain ⟨w11, hc, hL⟩ := xB_some hL
  refine g_callV (M' := M_X10_copies) (as := [.ref (b + 10), .ref (b + 3)]) (v := none) l_X10_284 kV_X10_copies (by decide) (C_copies E (ka := 10) (kb := 3) (na := 8) (nb := 8) rfl rfl (by decide) hc) rfl (by have := E.1; omega) (E.2.1 _ 0 _ rfl) ⟨_, _, rfl⟩ (Nat.le_of_ble_eq_true rfl) dX10_town_247 ?_
  refine g_aload_n dX10_town_250 rfl rfl ?_
  refine g_aload_n dX10_town_251 rfl rfl ?_
  refine s_getR (j := 36) E rfl rfl f_X10_53 dX10_town_252 ?_
  refine g_aload_n dX10_town_255 rfl rfl ?_
  refine s_getR (j := 9) E rfl rfl f_X10_29 dX10_town_256 ?_
  obtain ⟨w12, hc, hL⟩ := xB_some hL
  refine g_callV (M' := M_X10_copies) (as := [.ref (b + 11), .ref (b + 4)]) (v := none) l_X10_284 kV_X10_copies (by decide) (C_copies E (ka := 11) (kb := 4) (na := 6) (nb := 6) rfl rfl (by decide) hc) rfl (by have := E.1; omega) (E.2.1 _ 0 _ rfl) ⟨_, _, rfl⟩ (Nat.le_of_ble_eq_true rfl) dX10_town_259 ?_
  refine g_aload_n dX10_town_262 rfl rfl ?_
  refine g_aload_n dX10_town_263 rfl rfl ?_
  refine s_getR (j := 38) E rfl rfl f_X10_59 dX10_town_264 ?_
  refine g_aload_n dX10_town_267 rfl rfl ?_
  refine s_getR (j := 10) E rfl rfl f_X10_32 dX10_town_268 ?_
  obtain ⟨w13, hc, hL⟩ := xB_some hL
  refine g_callV (M' := M_X10_copies) (as := [.ref (b + 13), .ref (b + 5)]) (v := none) l_X10_284 kV_X10_copies (by decide) (C_copies E (ka := 13) (kb := 5) (na := 1400) (nb := 1400) rfl rfl (by decide) hc) rfl (by have := E.1; omega) (E.2.1 _ 0 _ rfl) ⟨_, _, rfl⟩ (Nat.le_of_ble_eq_true rfl) dX10_town_271 ?_
  refine g_iconst (v := 0) dX10_town_274 (by decide) ?_
  refine g_istore_n (i := 2) dX10_town_275 rfl (by decide) rfl ?_
  refine P_X10_town_276_ok E hL ?_
  · intro w14 hL
    refine g_aload_n dX10_town_300 rfl rfl ?_
    refine g_iconst (v := 0) dX10_town_301 (by decide) ?_
    refine s_putI (k := 0) (j := 43) E hL rfl rfl (by decide) fw_X10_288 rfl rfl dX10_town_302 ?_
    intro w15 hL
    refine g_aload_n dX10_town_305 rfl rfl ?_
    refine g_iconst (v := 0) dX10_town_306 (by decide) ?_
    refine s_putI (k := 0) (j := 58) E hL rfl rfl (by decide) fw_X10_291 rfl rfl dX10_town_307 ?_
    intro w16 hL
    refine g_aload_n dX10_town_310 rfl rfl ?_
    refine g_none 0 ?_
    refine g_iconst (v := 0) dX10_town_311 (by decide) ?_
    refine s_putI (k := 0) (j := 64) E hL rfl rfl (by decide) fw_X10_294 rfl (by decide) dX10_town_312 ?_
    intro w17 hL
    refine g_iconst (v := 0) dX10_town_315 (by decide) ?_
    obtain rfl := Option.some.inj hL
    exact g_iret rfl dX10_town_316
def J_X10_town_140 (w : wS) : Option (Int32 × wS) :=
  xB2 (L_X10_isGood  w) fun v18 w19 => if v18 = 0 then xB (xAld w19 7 3 (0)) fun v27 => xB (xAst w19 7 3 (0) ((v27 + 1))) fun w28 => xB (xGet w28 13) fun v29 => some (v29, w28) else xB (xGet w19 24) fun v20 => xB (xPut w19 1 (v20)) fun w21 => xB (xGet w21 25) fun v22 => xB (xPut w21 2 (v22)) fun w23 => xB (xGet w23 26) fun v24 => if v24 = (-1) then J_X10_town_195  (2) w23 else xB (xGet w23 26) fun v25 => J_X10_town_195  (v25) w23
set_option maxRecDepth 20000 in
theorem J_X10_town_140_ok {G : aG} {Hf : wS → aH} {b : Nat} {w : wS} {r : Int32 × wS} (E : Emb Hf b 0 tbM) (hL : J_X10_town_140   w = some r) : AG G M_X10_town 140 [some (.ref (b + 0)), none, none] [] (Hf w) (.inl (some (.int r.1)), Hf r.2) := by
  unfold J_X10_town_140 at hL
  refine g_aload_n dX10_town_140 rfl rfl ?_
  obtain ⟨v18, w19, hc, hL⟩ := xB2_some hL
  refine g_callV (M' := M_X10_isGood) (as := []) (v := some (.int (v18))) l_X10_179 kV_X10_isGood (by decide) (C_X10_isGood E hc) rfl (by have := E.1; omega) (E.2.1 _ 0 _ rfl) ⟨_, _, rfl⟩ (Nat.le_of_ble_eq_true rfl) dX10_town_141 ?_
  refine g_if_ne (tgt := 162) dX10_town_144 (by decide) (fun q30 => ?_) (fun q30 => ?_)
  · rw [if_neg q30] at hL
    refine g_aload_n dX10_town_162 rfl rfl ?_
    refine g_aload_n dX10_town_163 rfl rfl ?_
    refine s_getI (k := 0) (j := 24) E hL rfl rfl f_X10_239 dX10_town_164 ?_
    intro v20 hL
    refine s_putI (k := 0) (j := 1) E hL rfl rfl (by decide) fw_X10_278 rfl rfl dX10_town_167 ?_
    intro w21 hL
    refine g_aload_n dX10_town_170 rfl rfl ?_
    refine g_aload_n dX10_town_171 rfl rfl ?_
    refine s_getI (k := 0) (j := 25) E hL rfl rfl f_X10_253 dX10_town_172 ?_
    intro v22 hL
    refine s_putI (k := 0) (j := 2) E hL rfl rfl (by decide) fw_X10_281 rfl rfl dX10_town_175 ?_
    intro w23 hL
    refine g_aload_n dX10_town_178 rfl rfl ?_
    refine g_aload_n dX10_town_179 rfl rfl ?_
    refine s_getI (k := 0) (j := 26) E hL rfl rfl f_X10_256 dX10_town_180 ?_
    intro v24 hL
    refine g_iconst (v := (-1)) dX10_town_183 (by decide) ?_
    refine g_icmp_ne (tgt := 191) dX10_town_184 (by decide) (fun q26 => ?_) (fun q26 => ?_)
    · rw [if_neg q26] at hL
      refine g_aload_n dX10_town_191 rfl rfl ?_
      refine s_getI (k := 0) (j := 26) E hL rfl rfl f_X10_256 dX10_town_192 ?_
      intro v25 hL
      exact J_X10_town_195_ok E hL 
    · rw [if_pos q26] at hL
      refine g_iconst (v := 2) dX10_town_187 (by decide) ?_
      refine g_goto (tgt := 195) dX10_town_188 (by decide) ?_
      exact J_X10_town_195_ok E hL 
  · rw [if_pos q30] at hL
    refine g_aload_n dX10_town_147 rfl rfl ?_
    refine s_getR (j := 15) E rfl rfl f_X10_41 dX10_town_148 ?_
    refine g_iconst (v := 0) dX10_town_151 (by decide) ?_
    refine g_dup2 dX10_town_152 rfl rfl ?_
    refine s_iald (k := 7) E hL rfl dX10_town_153 ?_
    intro v27 hL
    refine g_iconst (v := 1) dX10_town_154 (by decide) ?_
    refine g_iadd dX10_town_155 ?_
    refine s_iast (k := 7) E hL rfl dX10_town_156 ?_
    intro w28 hL
    refine g_aload_n dX10_town_157 rfl rfl ?_
    refine g_none 0 ?_
    refine s_getI (k := 0) (j := 13) E hL rfl rfl f_X10_176 dX10_town_158 ?_
    intro v29 hL
    obtain rfl := Option.some.inj hL
    exact g_iret rfl dX10_town_161
def B_X10_town_119 (kh119 : wS → Option (Int32 × wS)) (ke140 : wS → Option (Int32 × wS)) (w : wS) : Option (Int32 × wS) :=
  xB2 (L_X10_isGood  w) fun v31 w32 => if v31 = 0 then ke140  w32 else xB (xGet w32 18) fun v33 => if v33 = 0 then ke140  w32 else xB (L_X10_line  w32) fun w34 => kh119  w34
set_option maxRecDepth 20000 in
theorem B_X10_town_119_ok {G : aG} {Hf : wS → aH} {b : Nat} {kh119 : wS → Option (Int32 × wS)} {ke140 : wS → Option (Int32 × wS)} {w : wS} {r : Int32 × wS} (E : Emb Hf b 0 tbM) (hL : B_X10_town_119 kh119 ke140  w = some r) (Hkh119 : ∀ (w : wS), kh119  w = some r → AG G M_X10_town 119 [some (.ref (b + 0)), none, none] [] (Hf w) (.inl (some (.int r.1)), Hf r.2)) (Hke140 : ∀ (w : wS), ke140  w = some r → AG G M_X10_town 140 [some (.ref (b + 0)), none, none] [] (Hf w) (.inl (some (.int r.1)), Hf r.2)) : AG G M_X10_town 119 [some (.ref (b + 0)), none, none] [] (Hf w) (.inl (some (.int r.1)), Hf r.2) := by
  unfold B_X10_town_119 at hL
  refine g_aload_n dX10_town_119 rfl rfl ?_
  obtain ⟨v31, w32, hc, hL⟩ := xB2_some hL
  refine g_callV (M' := M_X10_isGood) (as := []) (v := some (.int (v31))) l_X10_179 kV_X10_isGood (by decide) (C_X10_isGood E hc) rfl (by have := E.1; omega) (E.2.1 _ 0 _ rfl) ⟨_, _, rfl⟩ (Nat.le_of_ble_eq_true rfl) dX10_town_120 ?_
  refine g_if_eq (tgt := 140) dX10_town_123 (by decide) (fun q36 => ?_) (fun q36 => ?_)
  · rw [if_pos q36] at hL
    exact Hke140  _ hL
  · rw [if_neg q36] at hL
    refine g_aload_n dX10_town_126 rfl rfl ?_
    refine s_getI (k := 0) (j := 18) E hL rfl rfl f_X10_153 dX10_town_127 ?_
    intro v33 hL
    refine g_if_eq (tgt := 140) dX10_town_130 (by decide) (fun q35 => ?_) (fun q35 => ?_)
    · rw [if_pos q35] at hL
      exact Hke140  _ hL
    · rw [if_neg q35] at hL
      refine g_aload_n dX10_town_133 rfl rfl ?_
      obtain ⟨w34, hc, hL⟩ := xB_some hL
      refine g_callV (M' := M_X10_line) (as := []) (v := none) l_X10_275 kV_X10_line (by decide) (C_X10_line E hc) rfl (by have := E.1; omega) (E.2.1 _ 0 _ rfl) ⟨_, _, rfl⟩ (Nat.le_of_ble_eq_true rfl) dX10_town_134 ?_
      refine g_goto (tgt := 119) dX10_town_137 (by decide) ?_
      exact Hkh119  _ hL
def P_X10_town_119 (ke140 : wS → Option (Int32 × wS)) (n : Nat) (w : wS) : Option (Int32 × wS) :=
  xLoop (fun (kk : wS → Option (Int32 × wS)) σ => B_X10_town_119 (fun w => kk (w)) ke140 (σ)) n (w)
theorem P_X10_town_119_ok {G : aG} {Hf : wS → aH} {b : Nat} {ke140 : wS → Option (Int32 × wS)} {n : Nat} {w : wS} {r : Int32 × wS} (E : Emb Hf b 0 tbM) (hL : P_X10_town_119 ke140 n  w = some r) (Hke140 : ∀ (w : wS), ke140  w = some r → AG G M_X10_town 140 [some (.ref (b + 0)), none, none] [] (Hf w) (.inl (some (.int r.1)), Hf r.2)) : AG G M_X10_town 119 [some (.ref (b + 0)), none, none] [] (Hf w) (.inl (some (.int r.1)), Hf r.2) :=
  xLoop_ok (Q := fun (σ : wS) => AG G M_X10_town 119 [some (.ref (b + 0)), none, none] [] (Hf σ) (.inl (some (.int r.1)), Hf r.2)) (fun kk hk σ hσ => B_X10_town_119_ok E hσ (fun w h9 => hk (w) h9) Hke140) n (w) hL
def B_X10_town_84 (kh84 : Int32 → wS → Option (Int32 × wS)) (ke103 : wS → Option (Int32 × wS)) (x2 : Int32) (w : wS) : Option (Int32 × wS) :=
  if 33 ≤ x2 then ke103  w else xB (xAst w 12 33 (x2) (0)) fun w37 => kh84 ((x2 + 1)) w37
set_option maxRecDepth 20000 in
theorem B_X10_town_84_ok {G : aG} {Hf : wS → aH} {b : Nat} {kh84 : Int32 → wS → Option (Int32 × wS)} {ke103 : wS → Option (Int32 × wS)} {x2 : Int32} {w : wS} {r : Int32 × wS} (E : Emb Hf b 0 tbM) (hL : B_X10_town_84 kh84 ke103 x2 w = some r) (Hkh84 : ∀ (z0 : Int32) (w : wS), kh84 z0 w = some r → AG G M_X10_town 84 [some (.ref (b + 0)), none, some (.int (z0))] [] (Hf w) (.inl (some (.int r.1)), Hf r.2)) (Hke103 : ∀ (w : wS), ke103  w = some r → AG G M_X10_town 103 [some (.ref (b + 0)), none, none] [] (Hf w) (.inl (some (.int r.1)), Hf r.2)) : AG G M_X10_town 84 [some (.ref (b + 0)), none, some (.int (x2))] [] (Hf w) (.inl (some (.int r.1)), Hf r.2) := by
  unfold B_X10_town_84 at hL
  refine g_iload_n dX10_town_84 rfl rfl ?_
  refine g_bipush (v := 33) dX10_town_85 (by decide) ?_
  refine g_icmp_ge (tgt := 103) dX10_town_87 (by decide) (fun q38 => ?_) (fun q38 => ?_)
  · rw [if_pos q38] at hL
    refine g_none 2 ?_
    exact Hke103  _ hL
  · rw [if_neg q38] at hL
    refine g_aload_n dX10_town_90 rfl rfl ?_
    refine s_getR (j := 37) E rfl rfl f_X10_56 dX10_town_91 ?_
    refine g_iload_n dX10_town_94 rfl rfl ?_
    refine g_iconst (v := 0) dX10_town_95 (by decide) ?_
    refine s_iast (k := 12) E hL rfl dX10_town_96 ?_
    intro w37 hL
    refine g_iincV (v := (x2 + 1)) dX10_town_97 rfl rfl (by decide) rfl ?_
    refine g_goto (tgt := 84) dX10_town_100 (by decide) ?_
    exact Hkh84 _ _ hL
def P_X10_town_84 (ke103 : wS → Option (Int32 × wS)) (n : Nat) (x2 : Int32) (w : wS) : Option (Int32 × wS) :=
  xLoop (fun (kk : Int32 × wS → Option (Int32 × wS)) σ => B_X10_town_84 (fun x2 w => kk (x2, w)) ke103 (σ.1) (σ.2)) n (x2, w)
theorem P_X10_town_84_ok {G : aG} {Hf : wS → aH} {b : Nat} {ke103 : wS → Option (Int32 × wS)} {n : Nat} {x2 : Int32} {w : wS} {r : Int32 × wS} (E : Emb Hf b 0 tbM) (hL : P_X10_town_84 ke103 n x2 w = some r) (Hke103 : ∀ (w : wS), ke103  w = some r → AG G M_X10_town 103 [some (.ref (b + 0)), none, none] [] (Hf w) (.inl (some (.int r.1)), Hf r.2)) : AG G M_X10_town 84 [some (.ref (b + 0)), none, some (.int (x2))] [] (Hf w) (.inl (some (.int r.1)), Hf r.2) :=
  xLoop_ok (Q := fun (σ : Int32 × wS) => AG G M_X10_town 84 [some (.ref (b + 0)), none, some (.int (σ.1))] [] (Hf σ.2) (.inl (some (.int r.1)), Hf r.2)) (fun kk hk σ hσ => B_X10_town_84_ok E hσ (fun x2 w h9 => hk (x2, w) h9) Hke103) n (x2, w) hL
def J_X10_town_23 (x1 : Int32) (y1 : Int32) (w : wS) : Option (Int32 × wS) :=
  xB2 (L_X10_right (y1) (1) w) fun v39 w40 => if v39 = 0 then some (0, w40) else xB (xPut w40 12 (0)) fun w41 => xB (xPut w41 14 ((-1))) fun w42 => xB (xPut w42 13 (0)) fun w43 => xB (xPut w43 16 (x1)) fun w44 => xB (xPut w44 17 (0)) fun w45 => xB (xPut w45 24 (0)) fun w46 => xB (xPut w46 25 (0)) fun w47 => xB (xPut w47 26 ((-1))) fun w48 => xB (xPut w48 27 ((-1))) fun w49 => xB (xPut w49 28 ((-1))) fun w50 => P_X10_town_84 (fun w51 => xB (xAst w51 12 33 (1) ((-1))) fun w52 => xB (xPut w52 29 (0)) fun w53 => xB (L_X10_goes  w53) fun w54 => P_X10_town_119 (fun w55 => J_X10_town_140   w55) 5000  w54) 5000 (0) w50
set_option maxRecDepth 20000 in
theorem J_X10_town_23_ok {G : aG} {Hf : wS → aH} {b : Nat} {x1 : Int32} {y1 : Int32} {w : wS} {r : Int32 × wS} (E : Emb Hf b 0 tbM) (hL : J_X10_town_23  x1 y1 w = some r) : AG G M_X10_town 23 [some (.ref (b + 0)), some (.int (x1)), none] [.int (y1), .ref (b + 0)] (Hf w) (.inl (some (.int r.1)), Hf r.2) := by
  unfold J_X10_town_23 at hL
  refine g_iconst (v := 1) dX10_town_23 (by decide) ?_
  obtain ⟨v39, w40, hc, hL⟩ := xB2_some hL
  refine g_callV (M' := M_X10_right) (as := [.int (y1), .int (1)]) (v := some (.int (v39))) l_X10_271 kV_X10_right (by decide) (C_X10_right E hc) rfl (by have := E.1; omega) (E.2.1 _ 0 _ rfl) ⟨_, _, rfl⟩ (Nat.le_of_ble_eq_true rfl) dX10_town_24 ?_
  refine g_if_ne (tgt := 32) dX10_town_27 (by decide) (fun q56 => ?_) (fun q56 => ?_)
  · rw [if_neg q56] at hL
    refine g_aload_n dX10_town_32 rfl rfl ?_
    refine g_iconst (v := 0) dX10_town_33 (by decide) ?_
    refine s_putI (k := 0) (j := 12) E hL rfl rfl (by decide) fw_X10_123 rfl rfl dX10_town_34 ?_
    intro w41 hL
    refine g_aload_n dX10_town_37 rfl rfl ?_
    refine g_iconst (v := (-1)) dX10_town_38 (by decide) ?_
    refine s_putI (k := 0) (j := 14) E hL rfl rfl (by decide) fw_X10_38 rfl rfl dX10_town_39 ?_
    intro w42 hL
    refine g_aload_n dX10_town_42 rfl rfl ?_
    refine g_iconst (v := 0) dX10_town_43 (by decide) ?_
    refine s_putI (k := 0) (j := 13) E hL rfl rfl (by decide) fw_X10_176 rfl rfl dX10_town_44 ?_
    intro w43 hL
    refine g_aload_n dX10_town_47 rfl rfl ?_
    refine g_iload_n dX10_town_48 rfl rfl ?_
    refine g_none 1 ?_
    refine s_putI (k := 0) (j := 16) E hL rfl rfl (by decide) fw_X10_130 rfl rfl dX10_town_49 ?_
    intro w44 hL
    refine g_aload_n dX10_town_52 rfl rfl ?_
    refine g_iconst (v := 0) dX10_town_53 (by decide) ?_
    refine s_putI (k := 0) (j := 17) E hL rfl rfl (by decide) fw_X10_133 rfl rfl dX10_town_54 ?_
    intro w45 hL
    refine g_aload_n dX10_town_57 rfl rfl ?_
    refine g_iconst (v := 0) dX10_town_58 (by decide) ?_
    refine s_putI (k := 0) (j := 24) E hL rfl rfl (by decide) fw_X10_239 rfl rfl dX10_town_59 ?_
    intro w46 hL
    refine g_aload_n dX10_town_62 rfl rfl ?_
    refine g_iconst (v := 0) dX10_town_63 (by decide) ?_
    refine s_putI (k := 0) (j := 25) E hL rfl rfl (by decide) fw_X10_253 rfl rfl dX10_town_64 ?_
    intro w47 hL
    refine g_aload_n dX10_town_67 rfl rfl ?_
    refine g_iconst (v := (-1)) dX10_town_68 (by decide) ?_
    refine s_putI (k := 0) (j := 26) E hL rfl rfl (by decide) fw_X10_256 rfl rfl dX10_town_69 ?_
    intro w48 hL
    refine g_aload_n dX10_town_72 rfl rfl ?_
    refine g_iconst (v := (-1)) dX10_town_73 (by decide) ?_
    refine s_putI (k := 0) (j := 27) E hL rfl rfl (by decide) fw_X10_259 rfl rfl dX10_town_74 ?_
    intro w49 hL
    refine g_aload_n dX10_town_77 rfl rfl ?_
    refine g_iconst (v := (-1)) dX10_town_78 (by decide) ?_
    refine s_putI (k := 0) (j := 28) E hL rfl rfl (by decide) fw_X10_265 rfl rfl dX10_town_79 ?_
    intro w50 hL
    refine g_iconst (v := 0) dX10_town_82 (by decide) ?_
    refine g_istore_n (i := 2) dX10_town_83 rfl (by decide) rfl ?_
    refine P_X10_town_84_ok E hL ?_
    · intro w51 hL
      refine g_aload_n dX10_town_103 rfl rfl ?_
      refine s_getR (j := 37) E rfl rfl f_X10_56 dX10_town_104 ?_
      refine g_iconst (v := 1) dX10_town_107 (by decide) ?_
      refine g_iconst (v := (-1)) dX10_town_108 (by decide) ?_
      refine s_iast (k := 12) E hL rfl dX10_town_109 ?_
      intro w52 hL
      refine g_aload_n dX10_town_110 rfl rfl ?_
      refine g_iconst (v := 0) dX10_town_111 (by decide) ?_
      refine s_putI (k := 0) (j := 29) E hL rfl rfl (by decide) fw_X10_189 rfl rfl dX10_town_112 ?_
      intro w53 hL
      refine g_aload_n dX10_town_115 rfl rfl ?_
      obtain ⟨w54, hc, hL⟩ := xB_some hL
      refine g_callV (M' := M_X10_goes) (as := []) (v := none) l_X10_183 kV_X10_goes (by decide) (C_X10_goes E hc) rfl (by have := E.1; omega) (E.2.1 _ 0 _ rfl) ⟨_, _, rfl⟩ (Nat.le_of_ble_eq_true rfl) dX10_town_116 ?_
      refine P_X10_town_119_ok E hL ?_
      · intro w55 hL
        exact J_X10_town_140_ok E hL 
  · rw [if_pos q56] at hL
    refine g_none 0 ?_
    refine g_none 1 ?_
    refine g_iconst (v := 0) dX10_town_30 (by decide) ?_
    obtain rfl := Option.some.inj hL
    exact g_iret rfl dX10_town_31
def J_X10_town_22 (x1 : Int32) (w : wS) : Option (Int32 × wS) :=
  J_X10_town_23  (x1) (0) w
set_option maxRecDepth 20000 in
theorem J_X10_town_22_ok {G : aG} {Hf : wS → aH} {b : Nat} {x1 : Int32} {w : wS} {r : Int32 × wS} (E : Emb Hf b 0 tbM) (hL : J_X10_town_22  x1 w = some r) : AG G M_X10_town 22 [some (.ref (b + 0)), some (.int (x1)), none] [.ref (b + 0)] (Hf w) (.inl (some (.int r.1)), Hf r.2) := by
  unfold J_X10_town_22 at hL
  refine g_iconst (v := 0) dX10_town_22 (by decide) ?_
  exact J_X10_town_23_ok E hL 
def L_X10_town (a1 : Int32) (w : wS) : Option (Int32 × wS) :=
  xB (xPut w 0 (0)) fun w57 => if a1 < 0 then J_X10_town_22  (a1) w57 else xB (xGet w57 12) fun v58 => if v58 < a1 then J_X10_town_22  (a1) w57 else J_X10_town_23  (a1) (1) w57
set_option maxRecDepth 20000 in
theorem C_X10_town {G : aG} {Hf : wS → aH} {b : Nat} {a1 : Int32} {w : wS} {r : Int32 × wS} (E : Emb Hf b 0 tbM) (hL : L_X10_town a1 w = some r) : AC G M_X10_town [.ref (b + 0), .int a1] (Hf w) (.inl (some (.int r.1)), Hf r.2) := by
  unfold L_X10_town at hL
  refine AC.of (by decide) rfl (Nat.le_of_ble_eq_true rfl) ?_
  show AG G M_X10_town 0 [some (.ref (b + 0)), some (.int (a1)), none] [] _ _
  refine g_aload_n dX10_town_0 rfl rfl ?_
  refine g_iconst (v := 0) dX10_town_1 (by decide) ?_
  refine s_putI (k := 0) (j := 0) E hL rfl rfl (by decide) fw_X10_120 rfl rfl dX10_town_2 ?_
  intro w57 hL
  refine g_aload_n dX10_town_5 rfl rfl ?_
  refine g_iload_n dX10_town_6 rfl rfl ?_
  refine g_if_lt (tgt := 22) dX10_town_7 (by decide) (fun q60 => ?_) (fun q60 => ?_)
  · rw [if_pos q60] at hL
    exact J_X10_town_22_ok E hL 
  · rw [if_neg q60] at hL
    refine g_iload_n dX10_town_10 rfl rfl ?_
    refine g_aload_n dX10_town_11 rfl rfl ?_
    refine s_getI (k := 0) (j := 12) E hL rfl rfl f_X10_123 dX10_town_12 ?_
    intro v58 hL
    refine g_icmp_gt (tgt := 22) dX10_town_15 (by decide) (fun q59 => ?_) (fun q59 => ?_)
    · rw [if_pos q59] at hL
      exact J_X10_town_22_ok E hL 
    · rw [if_neg q59] at hL
      refine g_iconst (v := 1) dX10_town_18 (by decide) ?_
      refine g_goto (tgt := 23) dX10_town_19 (by decide) ?_
      exact J_X10_town_23_ok E hL 
def L_X10_fault (w : wS) : Option (Int32 × wS) :=
  xB (xPut w 0 (0)) fun w1 => xB (xGet w1 14) fun v2 => some (v2, w1)
set_option maxRecDepth 20000 in
theorem C_X10_fault {G : aG} {Hf : wS → aH} {b : Nat} {w : wS} {r : Int32 × wS} (E : Emb Hf b 0 tbM) (hL : L_X10_fault  w = some r) : AC G M_X10_fault [.ref (b + 0)] (Hf w) (.inl (some (.int r.1)), Hf r.2) := by
  unfold L_X10_fault at hL
  refine AC.of (by decide) rfl (Nat.le_of_ble_eq_true rfl) ?_
  show AG G M_X10_fault 0 [some (.ref (b + 0))] [] _ _
  refine g_aload_n dX10_fault_0 rfl rfl ?_
  refine g_iconst (v := 0) dX10_fault_1 (by decide) ?_
  refine s_putI (k := 0) (j := 0) E hL rfl rfl (by decide) fw_X10_120 rfl rfl dX10_fault_2 ?_
  intro w1 hL
  refine g_aload_n dX10_fault_5 rfl rfl ?_
  refine g_none 0 ?_
  refine s_getI (k := 0) (j := 14) E hL rfl rfl f_X10_38 dX10_fault_6 ?_
  intro v2 hL
  obtain rfl := Option.some.inj hL
  exact g_iret rfl dX10_fault_9
def B_X10_keeps_52 (kh52 : Int32 → wS → Option (wS)) (ke84 : wS → Option (wS)) (x1 : Int32) (w : wS) : Option (wS) :=
  if 33 ≤ x1 then ke84  w else xB (xGet w 43) fun v1 => xB (xAld w 16 66 (x1)) fun v2 => xB (xAst w 17 1320 (((33 * v1) + x1)) (v2)) fun w3 => kh52 ((x1 + 1)) w3
set_option maxRecDepth 20000 in
theorem B_X10_keeps_52_ok {G : aG} {Hf : wS → aH} {b : Nat} {kh52 : Int32 → wS → Option (wS)} {ke84 : wS → Option (wS)} {x1 : Int32} {w : wS} {r : wS} (E : Emb Hf b 0 tbM) (hL : B_X10_keeps_52 kh52 ke84 x1 w = some r) (Hkh52 : ∀ (z0 : Int32) (w : wS), kh52 z0 w = some r → AG G M_X10_keeps 52 [some (.ref (b + 0)), some (.int (z0))] [] (Hf w) (.inl none, Hf r)) (Hke84 : ∀ (w : wS), ke84  w = some r → AG G M_X10_keeps 84 [some (.ref (b + 0)), none] [] (Hf w) (.inl none, Hf r)) : AG G M_X10_keeps 52 [some (.ref (b + 0)), some (.int (x1))] [] (Hf w) (.inl none, Hf r) := by
  unfold B_X10_keeps_52 at hL
  refine g_iload_n dX10_keeps_52 rfl rfl ?_
  refine g_bipush (v := 33) dX10_keeps_53 (by decide) ?_
  refine g_icmp_ge (tgt := 84) dX10_keeps_55 (by decide) (fun q4 => ?_) (fun q4 => ?_)
  · rw [if_pos q4] at hL
    refine g_none 1 ?_
    exact Hke84  _ hL
  · rw [if_neg q4] at hL
    refine g_aload_n dX10_keeps_58 rfl rfl ?_
    refine s_getR (j := 42) E rfl rfl f_X10_72 dX10_keeps_59 ?_
    refine g_bipush (v := 33) dX10_keeps_62 (by decide) ?_
    refine g_aload_n dX10_keeps_64 rfl rfl ?_
    refine s_getI (k := 0) (j := 43) E hL rfl rfl f_X10_288 dX10_keeps_65 ?_
    intro v1 hL
    refine g_imul dX10_keeps_68 ?_
    refine g_iload_n dX10_keeps_69 rfl rfl ?_
    refine g_iadd dX10_keeps_70 ?_
    refine g_aload_n dX10_keeps_71 rfl rfl ?_
    refine s_getR (j := 41) E rfl rfl f_X10_69 dX10_keeps_72 ?_
    refine g_iload_n dX10_keeps_75 rfl rfl ?_
    refine s_iald (k := 16) E hL rfl dX10_keeps_76 ?_
    intro v2 hL
    refine s_iast (k := 17) E hL rfl dX10_keeps_77 ?_
    intro w3 hL
    refine g_iincV (v := (x1 + 1)) dX10_keeps_78 rfl rfl (by decide) rfl ?_
    refine g_goto (tgt := 52) dX10_keeps_81 (by decide) ?_
    exact Hkh52 _ _ hL
def P_X10_keeps_52 (ke84 : wS → Option (wS)) (n : Nat) (x1 : Int32) (w : wS) : Option (wS) :=
  xLoop (fun (kk : Int32 × wS → Option (wS)) σ => B_X10_keeps_52 (fun x1 w => kk (x1, w)) ke84 (σ.1) (σ.2)) n (x1, w)
theorem P_X10_keeps_52_ok {G : aG} {Hf : wS → aH} {b : Nat} {ke84 : wS → Option (wS)} {n : Nat} {x1 : Int32} {w : wS} {r : wS} (E : Emb Hf b 0 tbM) (hL : P_X10_keeps_52 ke84 n x1 w = some r) (Hke84 : ∀ (w : wS), ke84  w = some r → AG G M_X10_keeps 84 [some (.ref (b + 0)), none] [] (Hf w) (.inl none, Hf r)) : AG G M_X10_keeps 52 [some (.ref (b + 0)), some (.int (x1))] [] (Hf w) (.inl none, Hf r) :=
  xLoop_ok (Q := fun (σ : Int32 × wS) => AG G M_X10_keeps 52 [some (.ref (b + 0)), some (.int (σ.1))] [] (Hf σ.2) (.inl none, Hf r)) (fun kk hk σ hσ => B_X10_keeps_52_ok E hσ (fun x1 w h9 => hk (x1, w) h9) Hke84) n (x1, w) hL
def J_X10_keeps_50 (w : wS) : Option (wS) :=
  P_X10_keeps_52 (fun w5 => xB (xGet w5 43) fun v6 => xB (xPut w5 43 ((v6 + 1))) fun w7 => some w7) 5000 (0) w
set_option maxRecDepth 20000 in
theorem J_X10_keeps_50_ok {G : aG} {Hf : wS → aH} {b : Nat} {w : wS} {r : wS} (E : Emb Hf b 0 tbM) (hL : J_X10_keeps_50   w = some r) : AG G M_X10_keeps 50 [some (.ref (b + 0)), none] [] (Hf w) (.inl none, Hf r) := by
  unfold J_X10_keeps_50 at hL
  refine g_iconst (v := 0) dX10_keeps_50 (by decide) ?_
  refine g_istore_n (i := 1) dX10_keeps_51 rfl (by decide) rfl ?_
  refine P_X10_keeps_52_ok E hL ?_
  · intro w5 hL
    refine g_aload_n dX10_keeps_84 rfl rfl ?_
    refine g_none 0 ?_
    refine g_dup dX10_keeps_85 rfl ?_
    refine s_getI (k := 0) (j := 43) E hL rfl rfl f_X10_288 dX10_keeps_86 ?_
    intro v6 hL
    refine g_iconst (v := 1) dX10_keeps_89 (by decide) ?_
    refine g_iadd dX10_keeps_90 ?_
    refine s_putI (k := 0) (j := 43) E hL rfl rfl (by decide) fw_X10_288 rfl rfl dX10_keeps_91 ?_
    intro w7 hL
    obtain rfl := Option.some.inj hL
    exact g_vret rfl dX10_keeps_94
def B_X10_keeps_12 (kh12 : Int32 → wS → Option (wS)) (ke40 : wS → Option (wS)) (x1 : Int32) (w : wS) : Option (wS) :=
  if 1320 ≤ x1 then ke40  w else xB (xAld w 17 1320 (x1)) fun v8 => xB (xAst w 17 1320 ((x1 - 33)) (v8)) fun w9 => kh12 ((x1 + 1)) w9
set_option maxRecDepth 20000 in
theorem B_X10_keeps_12_ok {G : aG} {Hf : wS → aH} {b : Nat} {kh12 : Int32 → wS → Option (wS)} {ke40 : wS → Option (wS)} {x1 : Int32} {w : wS} {r : wS} (E : Emb Hf b 0 tbM) (hL : B_X10_keeps_12 kh12 ke40 x1 w = some r) (Hkh12 : ∀ (z0 : Int32) (w : wS), kh12 z0 w = some r → AG G M_X10_keeps 12 [some (.ref (b + 0)), some (.int (z0))] [] (Hf w) (.inl none, Hf r)) (Hke40 : ∀ (w : wS), ke40  w = some r → AG G M_X10_keeps 40 [some (.ref (b + 0)), none] [] (Hf w) (.inl none, Hf r)) : AG G M_X10_keeps 12 [some (.ref (b + 0)), some (.int (x1))] [] (Hf w) (.inl none, Hf r) := by
  unfold B_X10_keeps_12 at hL
  refine g_iload_n dX10_keeps_12 rfl rfl ?_
  refine g_sipush (v := 1320) dX10_keeps_13 (by decide) ?_
  refine g_icmp_ge (tgt := 40) dX10_keeps_16 (by decide) (fun q10 => ?_) (fun q10 => ?_)
  · rw [if_pos q10] at hL
    refine g_none 1 ?_
    exact Hke40  _ hL
  · rw [if_neg q10] at hL
    refine g_aload_n dX10_keeps_19 rfl rfl ?_
    refine s_getR (j := 42) E rfl rfl f_X10_72 dX10_keeps_20 ?_
    refine g_iload_n dX10_keeps_23 rfl rfl ?_
    refine g_bipush (v := 33) dX10_keeps_24 (by decide) ?_
    refine g_isub dX10_keeps_26 ?_
    refine g_aload_n dX10_keeps_27 rfl rfl ?_
    refine s_getR (j := 42) E rfl rfl f_X10_72 dX10_keeps_28 ?_
    refine g_iload_n dX10_keeps_31 rfl rfl ?_
    refine s_iald (k := 17) E hL rfl dX10_keeps_32 ?_
    intro v8 hL
    refine s_iast (k := 17) E hL rfl dX10_keeps_33 ?_
    intro w9 hL
    refine g_iincV (v := (x1 + 1)) dX10_keeps_34 rfl rfl (by decide) rfl ?_
    refine g_goto (tgt := 12) dX10_keeps_37 (by decide) ?_
    exact Hkh12 _ _ hL
def P_X10_keeps_12 (ke40 : wS → Option (wS)) (n : Nat) (x1 : Int32) (w : wS) : Option (wS) :=
  xLoop (fun (kk : Int32 × wS → Option (wS)) σ => B_X10_keeps_12 (fun x1 w => kk (x1, w)) ke40 (σ.1) (σ.2)) n (x1, w)
theorem P_X10_keeps_12_ok {G : aG} {Hf : wS → aH} {b : Nat} {ke40 : wS → Option (wS)} {n : Nat} {x1 : Int32} {w : wS} {r : wS} (E : Emb Hf b 0 tbM) (hL : P_X10_keeps_12 ke40 n x1 w = some r) (Hke40 : ∀ (w : wS), ke40  w = some r → AG G M_X10_keeps 40 [some (.ref (b + 0)), none] [] (Hf w) (.inl none, Hf r)) : AG G M_X10_keeps 12 [some (.ref (b + 0)), some (.int (x1))] [] (Hf w) (.inl none, Hf r) :=
  xLoop_ok (Q := fun (σ : Int32 × wS) => AG G M_X10_keeps 12 [some (.ref (b + 0)), some (.int (σ.1))] [] (Hf σ.2) (.inl none, Hf r)) (fun kk hk σ hσ => B_X10_keeps_12_ok E hσ (fun x1 w h9 => hk (x1, w) h9) Hke40) n (x1, w) hL
def L_X10_keeps (w : wS) : Option (wS) :=
  xB (xGet w 43) fun v11 => if v11 = 40 then P_X10_keeps_12 (fun w12 => xB (xGet w12 43) fun v13 => xB (xPut w12 43 ((v13 - 1))) fun w14 => J_X10_keeps_50   w14) 5000 (33) w else J_X10_keeps_50   w
set_option maxRecDepth 20000 in
theorem C_X10_keeps {G : aG} {Hf : wS → aH} {b : Nat} {w : wS} {r : wS} (E : Emb Hf b 0 tbM) (hL : L_X10_keeps  w = some r) : AC G M_X10_keeps [.ref (b + 0)] (Hf w) (.inl none, Hf r) := by
  unfold L_X10_keeps at hL
  refine AC.of (by decide) rfl (Nat.le_of_ble_eq_true rfl) ?_
  show AG G M_X10_keeps 0 [some (.ref (b + 0)), none] [] _ _
  refine g_aload_n dX10_keeps_0 rfl rfl ?_
  refine s_getI (k := 0) (j := 43) E hL rfl rfl f_X10_288 dX10_keeps_1 ?_
  intro v11 hL
  refine g_bipush (v := 40) dX10_keeps_4 (by decide) ?_
  refine g_icmp_ne (tgt := 50) dX10_keeps_6 (by decide) (fun q15 => ?_) (fun q15 => ?_)
  · rw [if_neg q15] at hL
    exact J_X10_keeps_50_ok E hL 
  · rw [if_pos q15] at hL
    refine g_bipush (v := 33) dX10_keeps_9 (by decide) ?_
    refine g_istore_n (i := 1) dX10_keeps_11 rfl (by decide) rfl ?_
    refine P_X10_keeps_12_ok E hL ?_
    · intro w12 hL
      refine g_aload_n dX10_keeps_40 rfl rfl ?_
      refine g_dup dX10_keeps_41 rfl ?_
      refine s_getI (k := 0) (j := 43) E hL rfl rfl f_X10_288 dX10_keeps_42 ?_
      intro v13 hL
      refine g_iconst (v := 1) dX10_keeps_45 (by decide) ?_
      refine g_isub dX10_keeps_46 ?_
      refine s_putI (k := 0) (j := 43) E hL rfl rfl (by decide) fw_X10_288 rfl rfl dX10_keeps_47 ?_
      intro w14 hL
      exact J_X10_keeps_50_ok E hL 
def L_X10_refuses (a1 : Int32) (w : wS) : Option (Int32 × wS) :=
  xB (xAld w 7 3 (a1)) fun v1 => xB (xAst w 7 3 (a1) ((v1 + 1))) fun w2 => some ((-1), w2)
set_option maxRecDepth 20000 in
theorem C_X10_refuses {G : aG} {Hf : wS → aH} {b : Nat} {a1 : Int32} {w : wS} {r : Int32 × wS} (E : Emb Hf b 0 tbM) (hL : L_X10_refuses a1 w = some r) : AC G M_X10_refuses [.ref (b + 0), .int a1] (Hf w) (.inl (some (.int r.1)), Hf r.2) := by
  unfold L_X10_refuses at hL
  refine AC.of (by decide) rfl (Nat.le_of_ble_eq_true rfl) ?_
  show AG G M_X10_refuses 0 [some (.ref (b + 0)), some (.int (a1))] [] _ _
  refine g_aload_n dX10_refuses_0 rfl rfl ?_
  refine g_none 0 ?_
  refine s_getR (j := 15) E rfl rfl f_X10_41 dX10_refuses_1 ?_
  refine g_iload_n dX10_refuses_4 rfl rfl ?_
  refine g_none 1 ?_
  refine g_dup2 dX10_refuses_5 rfl rfl ?_
  refine s_iald (k := 7) E hL rfl dX10_refuses_6 ?_
  intro v1 hL
  refine g_iconst (v := 1) dX10_refuses_7 (by decide) ?_
  refine g_iadd dX10_refuses_8 ?_
  refine s_iast (k := 7) E hL rfl dX10_refuses_9 ?_
  intro w2 hL
  refine g_iconst (v := (-1)) dX10_refuses_10 (by decide) ?_
  obtain rfl := Option.some.inj hL
  exact g_iret rfl dX10_refuses_11
def B_X10_undo_26 (kh26 : Int32 → wS → Option (Int32 × wS)) (ke58 : wS → Option (Int32 × wS)) (x1 : Int32) (w : wS) : Option (Int32 × wS) :=
  if 33 ≤ x1 then ke58  w else xB (xGet w 43) fun v1 => xB (xAld w 17 1320 (((33 * v1) + x1))) fun v2 => xB (xAst w 16 66 (x1) (v2)) fun w3 => kh26 ((x1 + 1)) w3
set_option maxRecDepth 20000 in
theorem B_X10_undo_26_ok {G : aG} {Hf : wS → aH} {b : Nat} {kh26 : Int32 → wS → Option (Int32 × wS)} {ke58 : wS → Option (Int32 × wS)} {x1 : Int32} {w : wS} {r : Int32 × wS} (E : Emb Hf b 0 tbM) (hL : B_X10_undo_26 kh26 ke58 x1 w = some r) (Hkh26 : ∀ (z0 : Int32) (w : wS), kh26 z0 w = some r → AG G M_X10_undo 26 [some (.ref (b + 0)), some (.int (z0))] [] (Hf w) (.inl (some (.int r.1)), Hf r.2)) (Hke58 : ∀ (w : wS), ke58  w = some r → AG G M_X10_undo 58 [some (.ref (b + 0)), none] [] (Hf w) (.inl (some (.int r.1)), Hf r.2)) : AG G M_X10_undo 26 [some (.ref (b + 0)), some (.int (x1))] [] (Hf w) (.inl (some (.int r.1)), Hf r.2) := by
  unfold B_X10_undo_26 at hL
  refine g_iload_n dX10_undo_26 rfl rfl ?_
  refine g_bipush (v := 33) dX10_undo_27 (by decide) ?_
  refine g_icmp_ge (tgt := 58) dX10_undo_29 (by decide) (fun q4 => ?_) (fun q4 => ?_)
  · rw [if_pos q4] at hL
    refine g_none 1 ?_
    exact Hke58  _ hL
  · rw [if_neg q4] at hL
    refine g_aload_n dX10_undo_32 rfl rfl ?_
    refine s_getR (j := 41) E rfl rfl f_X10_69 dX10_undo_33 ?_
    refine g_iload_n dX10_undo_36 rfl rfl ?_
    refine g_aload_n dX10_undo_37 rfl rfl ?_
    refine s_getR (j := 42) E rfl rfl f_X10_72 dX10_undo_38 ?_
    refine g_bipush (v := 33) dX10_undo_41 (by decide) ?_
    refine g_aload_n dX10_undo_43 rfl rfl ?_
    refine s_getI (k := 0) (j := 43) E hL rfl rfl f_X10_288 dX10_undo_44 ?_
    intro v1 hL
    refine g_imul dX10_undo_47 ?_
    refine g_iload_n dX10_undo_48 rfl rfl ?_
    refine g_iadd dX10_undo_49 ?_
    refine s_iald (k := 17) E hL rfl dX10_undo_50 ?_
    intro v2 hL
    refine s_iast (k := 16) E hL rfl dX10_undo_51 ?_
    intro w3 hL
    refine g_iincV (v := (x1 + 1)) dX10_undo_52 rfl rfl (by decide) rfl ?_
    refine g_goto (tgt := 26) dX10_undo_55 (by decide) ?_
    exact Hkh26 _ _ hL
def P_X10_undo_26 (ke58 : wS → Option (Int32 × wS)) (n : Nat) (x1 : Int32) (w : wS) : Option (Int32 × wS) :=
  xLoop (fun (kk : Int32 × wS → Option (Int32 × wS)) σ => B_X10_undo_26 (fun x1 w => kk (x1, w)) ke58 (σ.1) (σ.2)) n (x1, w)
theorem P_X10_undo_26_ok {G : aG} {Hf : wS → aH} {b : Nat} {ke58 : wS → Option (Int32 × wS)} {n : Nat} {x1 : Int32} {w : wS} {r : Int32 × wS} (E : Emb Hf b 0 tbM) (hL : P_X10_undo_26 ke58 n x1 w = some r) (Hke58 : ∀ (w : wS), ke58  w = some r → AG G M_X10_undo 58 [some (.ref (b + 0)), none] [] (Hf w) (.inl (some (.int r.1)), Hf r.2)) : AG G M_X10_undo 26 [some (.ref (b + 0)), some (.int (x1))] [] (Hf w) (.inl (some (.int r.1)), Hf r.2) :=
  xLoop_ok (Q := fun (σ : Int32 × wS) => AG G M_X10_undo 26 [some (.ref (b + 0)), some (.int (σ.1))] [] (Hf σ.2) (.inl (some (.int r.1)), Hf r.2)) (fun kk hk σ hσ => B_X10_undo_26_ok E hσ (fun x1 w h9 => hk (x1, w) h9) Hke58) n (x1, w) hL
def L_X10_undo (w : wS) : Option (Int32 × wS) :=
  xB (xPut w 0 (0)) fun w5 => xB (xGet w5 43) fun v6 => if v6 = 0 then some ((-1), w5) else xB (xGet w5 43) fun v7 => xB (xPut w5 43 ((v7 - 1))) fun w8 => P_X10_undo_26 (fun w9 => xB (xGet w9 43) fun v10 => some (v10, w9)) 5000 (0) w8
set_option maxRecDepth 20000 in
theorem C_X10_undo {G : aG} {Hf : wS → aH} {b : Nat} {w : wS} {r : Int32 × wS} (E : Emb Hf b 0 tbM) (hL : L_X10_undo  w = some r) : AC G M_X10_undo [.ref (b + 0)] (Hf w) (.inl (some (.int r.1)), Hf r.2) := by
  unfold L_X10_undo at hL
  refine AC.of (by decide) rfl (Nat.le_of_ble_eq_true rfl) ?_
  show AG G M_X10_undo 0 [some (.ref (b + 0)), none] [] _ _
  refine g_aload_n dX10_undo_0 rfl rfl ?_
  refine g_iconst (v := 0) dX10_undo_1 (by decide) ?_
  refine s_putI (k := 0) (j := 0) E hL rfl rfl (by decide) fw_X10_120 rfl rfl dX10_undo_2 ?_
  intro w5 hL
  refine g_aload_n dX10_undo_5 rfl rfl ?_
  refine s_getI (k := 0) (j := 43) E hL rfl rfl f_X10_288 dX10_undo_6 ?_
  intro v6 hL
  refine g_if_ne (tgt := 14) dX10_undo_9 (by decide) (fun q11 => ?_) (fun q11 => ?_)
  · rw [if_neg q11] at hL
    refine g_aload_n dX10_undo_14 rfl rfl ?_
    refine g_dup dX10_undo_15 rfl ?_
    refine s_getI (k := 0) (j := 43) E hL rfl rfl f_X10_288 dX10_undo_16 ?_
    intro v7 hL
    refine g_iconst (v := 1) dX10_undo_19 (by decide) ?_
    refine g_isub dX10_undo_20 ?_
    refine s_putI (k := 0) (j := 43) E hL rfl rfl (by decide) fw_X10_288 rfl rfl dX10_undo_21 ?_
    intro w8 hL
    refine g_iconst (v := 0) dX10_undo_24 (by decide) ?_
    refine g_istore_n (i := 1) dX10_undo_25 rfl (by decide) rfl ?_
    refine P_X10_undo_26_ok E hL ?_
    · intro w9 hL
      refine g_aload_n dX10_undo_58 rfl rfl ?_
      refine g_none 0 ?_
      refine s_getI (k := 0) (j := 43) E hL rfl rfl f_X10_288 dX10_undo_59 ?_
      intro v10 hL
      obtain rfl := Option.some.inj hL
      exact g_iret rfl dX10_undo_62
  · rw [if_pos q11] at hL
    refine g_none 0 ?_
    refine g_iconst (v := (-1)) dX10_undo_12 (by decide) ?_
    obtain rfl := Option.some.inj hL
    exact g_iret rfl dX10_undo_13
def B_X10_tries_2 (kh2 : Int32 → wS → Option (wS)) (ke29 : wS → Option (wS)) (x1 : Int32) (w : wS) : Option (wS) :=
  if 33 ≤ x1 then ke29  w else xB (xAld w 16 66 (x1)) fun v1 => xB (xAst w 16 66 ((33 + x1)) (v1)) fun w2 => kh2 ((x1 + 1)) w2
set_option maxRecDepth 20000 in
theorem B_X10_tries_2_ok {G : aG} {Hf : wS → aH} {b : Nat} {kh2 : Int32 → wS → Option (wS)} {ke29 : wS → Option (wS)} {x1 : Int32} {w : wS} {r : wS} (E : Emb Hf b 0 tbM) (hL : B_X10_tries_2 kh2 ke29 x1 w = some r) (Hkh2 : ∀ (z0 : Int32) (w : wS), kh2 z0 w = some r → AG G M_X10_tries 2 [some (.ref (b + 0)), some (.int (z0))] [] (Hf w) (.inl none, Hf r)) (Hke29 : ∀ (w : wS), ke29  w = some r → AG G M_X10_tries 29 [none, none] [] (Hf w) (.inl none, Hf r)) : AG G M_X10_tries 2 [some (.ref (b + 0)), some (.int (x1))] [] (Hf w) (.inl none, Hf r) := by
  unfold B_X10_tries_2 at hL
  refine g_iload_n dX10_tries_2 rfl rfl ?_
  refine g_bipush (v := 33) dX10_tries_3 (by decide) ?_
  refine g_icmp_ge (tgt := 29) dX10_tries_5 (by decide) (fun q3 => ?_) (fun q3 => ?_)
  · rw [if_pos q3] at hL
    refine g_none 0 ?_
    refine g_none 1 ?_
    exact Hke29  _ hL
  · rw [if_neg q3] at hL
    refine g_aload_n dX10_tries_8 rfl rfl ?_
    refine s_getR (j := 41) E rfl rfl f_X10_69 dX10_tries_9 ?_
    refine g_bipush (v := 33) dX10_tries_12 (by decide) ?_
    refine g_iload_n dX10_tries_14 rfl rfl ?_
    refine g_iadd dX10_tries_15 ?_
    refine g_aload_n dX10_tries_16 rfl rfl ?_
    refine s_getR (j := 41) E rfl rfl f_X10_69 dX10_tries_17 ?_
    refine g_iload_n dX10_tries_20 rfl rfl ?_
    refine s_iald (k := 16) E hL rfl dX10_tries_21 ?_
    intro v1 hL
    refine s_iast (k := 16) E hL rfl dX10_tries_22 ?_
    intro w2 hL
    refine g_iincV (v := (x1 + 1)) dX10_tries_23 rfl rfl (by decide) rfl ?_
    refine g_goto (tgt := 2) dX10_tries_26 (by decide) ?_
    exact Hkh2 _ _ hL
def P_X10_tries_2 (ke29 : wS → Option (wS)) (n : Nat) (x1 : Int32) (w : wS) : Option (wS) :=
  xLoop (fun (kk : Int32 × wS → Option (wS)) σ => B_X10_tries_2 (fun x1 w => kk (x1, w)) ke29 (σ.1) (σ.2)) n (x1, w)
theorem P_X10_tries_2_ok {G : aG} {Hf : wS → aH} {b : Nat} {ke29 : wS → Option (wS)} {n : Nat} {x1 : Int32} {w : wS} {r : wS} (E : Emb Hf b 0 tbM) (hL : P_X10_tries_2 ke29 n x1 w = some r) (Hke29 : ∀ (w : wS), ke29  w = some r → AG G M_X10_tries 29 [none, none] [] (Hf w) (.inl none, Hf r)) : AG G M_X10_tries 2 [some (.ref (b + 0)), some (.int (x1))] [] (Hf w) (.inl none, Hf r) :=
  xLoop_ok (Q := fun (σ : Int32 × wS) => AG G M_X10_tries 2 [some (.ref (b + 0)), some (.int (σ.1))] [] (Hf σ.2) (.inl none, Hf r)) (fun kk hk σ hσ => B_X10_tries_2_ok E hσ (fun x1 w h9 => hk (x1, w) h9) Hke29) n (x1, w) hL
def L_X10_tries (w : wS) : Option (wS) :=
  P_X10_tries_2 (fun w4 => some w4) 5000 (0) w
set_option maxRecDepth 20000 in
theorem C_X10_tries {G : aG} {Hf : wS → aH} {b : Nat} {w : wS} {r : wS} (E : Emb Hf b 0 tbM) (hL : L_X10_tries  w = some r) : AC G M_X10_tries [.ref (b + 0)] (Hf w) (.inl none, Hf r) := by
  unfold L_X10_tries at hL
  refine AC.of (by decide) rfl (Nat.le_of_ble_eq_true rfl) ?_
  show AG G M_X10_tries 0 [some (.ref (b + 0)), none] [] _ _
  refine g_iconst (v := 0) dX10_tries_0 (by decide) ?_
  refine g_istore_n (i := 1) dX10_tries_1 rfl (by decide) rfl ?_
  refine P_X10_tries_2_ok E hL ?_
  · intro w4 hL
    obtain rfl := Option.some.inj hL
    exact g_vret rfl dX10_tries_29
def J_X10_works_117 (y0 : Int32) : Option (Int32) :=
  some (y0)
set_option maxRecDepth 20000 in
theorem J_X10_works_117_ok {G : aG} {h : aH} {y0 : Int32} {r : Int32} (hL : J_X10_works_117  y0 = some r) : AG G M_X10_works 117 [none, none, none] [.int (y0)] h (.inl (some (.int r)), h) := by
  unfold J_X10_works_117 at hL
  obtain rfl := Option.some.inj hL
  exact g_iret rfl dX10_works_117
def J_X10_works_93 (y0 : Int32) : Option (Int32) :=
  some (y0)
set_option maxRecDepth 20000 in
theorem J_X10_works_93_ok {G : aG} {h : aH} {y0 : Int32} {r : Int32} (hL : J_X10_works_93  y0 = some r) : AG G M_X10_works 93 [none, none, none] [.int (y0)] h (.inl (some (.int r)), h) := by
  unfold J_X10_works_93 at hL
  obtain rfl := Option.some.inj hL
  exact g_iret rfl dX10_works_93
def J_X10_works_82 (y0 : Int32) : Option (Int32) :=
  some (y0)
set_option maxRecDepth 20000 in
theorem J_X10_works_82_ok {G : aG} {h : aH} {y0 : Int32} {r : Int32} (hL : J_X10_works_82  y0 = some r) : AG G M_X10_works 82 [none, none, none] [.int (y0)] h (.inl (some (.int r)), h) := by
  unfold J_X10_works_82 at hL
  obtain rfl := Option.some.inj hL
  exact g_iret rfl dX10_works_82
def J_X10_works_71 (y0 : Int32) : Option (Int32) :=
  some (y0)
set_option maxRecDepth 20000 in
theorem J_X10_works_71_ok {G : aG} {h : aH} {y0 : Int32} {r : Int32} (hL : J_X10_works_71  y0 = some r) : AG G M_X10_works 71 [none, none, none] [.int (y0)] h (.inl (some (.int r)), h) := by
  unfold J_X10_works_71 at hL
  obtain rfl := Option.some.inj hL
  exact g_iret rfl dX10_works_71
def J_X10_works_66 : Option (Int32) :=
  J_X10_works_71  (1)
set_option maxRecDepth 20000 in
theorem J_X10_works_66_ok {G : aG} {h : aH} {r : Int32} (hL : J_X10_works_66   = some r) : AG G M_X10_works 66 [none, none, none] [] h (.inl (some (.int r)), h) := by
  unfold J_X10_works_66 at hL
  refine g_iconst (v := 1) dX10_works_66 (by decide) ?_
  refine g_goto (tgt := 71) dX10_works_67 (by decide) ?_
  exact J_X10_works_71_ok hL 
def J_X10_works_57 (y0 : Int32) : Option (Int32) :=
  some (y0)
set_option maxRecDepth 20000 in
theorem J_X10_works_57_ok {G : aG} {h : aH} {y0 : Int32} {r : Int32} (hL : J_X10_works_57  y0 = some r) : AG G M_X10_works 57 [none, none, none] [.int (y0)] h (.inl (some (.int r)), h) := by
  unfold J_X10_works_57 at hL
  obtain rfl := Option.some.inj hL
  exact g_iret rfl dX10_works_57
def J_X10_works_56 : Option (Int32) :=
  J_X10_works_57  (0)
set_option maxRecDepth 20000 in
theorem J_X10_works_56_ok {G : aG} {h : aH} {r : Int32} (hL : J_X10_works_56   = some r) : AG G M_X10_works 56 [none, none, none] [] h (.inl (some (.int r)), h) := by
  unfold J_X10_works_56 at hL
  refine g_iconst (v := 0) dX10_works_56 (by decide) ?_
  exact J_X10_works_57_ok hL 
def L_X10_works (a1 : Int32) (a2 : Int32) (a3 : Int32) : Option (Int32) :=
  if a1 = 4 then if a2 = 0 then J_X10_works_56   else if a3 = 0 then J_X10_works_56   else J_X10_works_57  (1) else if a1 = 5 then if a2 = 0 then if a3 = 0 then J_X10_works_71  (0) else J_X10_works_66   else J_X10_works_66   else if a1 = 6 then if a3 ≤ a2 then J_X10_works_82  (0) else J_X10_works_82  (1) else if a1 = 7 then if a2 = a3 then J_X10_works_93  (1) else J_X10_works_93  (0) else if a1 = 8 then some ((a2 + a3)) else if a1 = 9 then some ((a2 - a3)) else if a1 = 10 then some ((a2 * a3)) else if a3 = 0 then J_X10_works_117  (0) else xB (xDiv (a2) (a3)) fun v14 => J_X10_works_117  (v14)
set_option maxRecDepth 20000 in
theorem C_X10_works {G : aG} {h : aH} {a1 : Int32} {a2 : Int32} {a3 : Int32} {r : Int32} (hL : L_X10_works a1 a2 a3 = some r) : AC G M_X10_works [.int a1, .int a2, .int a3] h (.inl (some (.int r)), h) := by
  unfold L_X10_works at hL
  refine AC.of (by decide) rfl (Nat.le_of_ble_eq_true rfl) ?_
  show AG G M_X10_works 0 [some (.int (a1)), some (.int (a2)), some (.int (a3))] [] _ _
  refine g_iload_n dX10_works_0 rfl rfl ?_
  refine g_none 0 ?_
  by_cases q1 : a1 = 4
  · rw [if_pos q1] at hL
    refine g_tableIn (off := 43) (tgt := 44) dX10_works_1 (by rw [q1]; decide) (by rw [q1]; decide) (by rw [q1]; decide +kernel) (by decide) ?_
    refine g_iload_n dX10_works_44 rfl rfl ?_
    refine g_none 1 ?_
    refine g_if_eq (tgt := 56) dX10_works_45 (by decide) (fun q3 => ?_) (fun q3 => ?_)
    · rw [if_pos q3] at hL
      refine g_none 2 ?_
      exact J_X10_works_56_ok hL 
    · rw [if_neg q3] at hL
      refine g_iload_n dX10_works_48 rfl rfl ?_
      refine g_none 2 ?_
      refine g_if_eq (tgt := 56) dX10_works_49 (by decide) (fun q2 => ?_) (fun q2 => ?_)
      · rw [if_pos q2] at hL
        exact J_X10_works_56_ok hL 
      · rw [if_neg q2] at hL
        refine g_iconst (v := 1) dX10_works_52 (by decide) ?_
        refine g_goto (tgt := 57) dX10_works_53 (by decide) ?_
        exact J_X10_works_57_ok hL 
  rw [if_neg q1] at hL
  by_cases q4 : a1 = 5
  · rw [if_pos q4] at hL
    refine g_tableIn (off := 57) (tgt := 58) dX10_works_1 (by rw [q4]; decide) (by rw [q4]; decide) (by rw [q4]; decide +kernel) (by decide) ?_
    refine g_iload_n dX10_works_58 rfl rfl ?_
    refine g_none 1 ?_
    refine g_if_ne (tgt := 66) dX10_works_59 (by decide) (fun q6 => ?_) (fun q6 => ?_)
    · rw [if_neg q6] at hL
      refine g_none 2 ?_
      exact J_X10_works_66_ok hL 
    · rw [if_pos q6] at hL
      refine g_iload_n dX10_works_62 rfl rfl ?_
      refine g_none 2 ?_
      refine g_if_eq (tgt := 70) dX10_works_63 (by decide) (fun q5 => ?_) (fun q5 => ?_)
      · rw [if_pos q5] at hL
        refine g_iconst (v := 0) dX10_works_70 (by decide) ?_
        exact J_X10_works_71_ok hL 
      · rw [if_neg q5] at hL
        exact J_X10_works_66_ok hL 
  rw [if_neg q4] at hL
  by_cases q7 : a1 = 6
  · rw [if_pos q7] at hL
    refine g_tableIn (off := 71) (tgt := 72) dX10_works_1 (by rw [q7]; decide) (by rw [q7]; decide) (by rw [q7]; decide +kernel) (by decide) ?_
    refine g_iload_n dX10_works_72 rfl rfl ?_
    refine g_none 1 ?_
    refine g_iload_n dX10_works_73 rfl rfl ?_
    refine g_none 2 ?_
    refine g_icmp_ge (tgt := 81) dX10_works_74 (by decide) (fun q8 => ?_) (fun q8 => ?_)
    · rw [if_pos q8] at hL
      refine g_iconst (v := 0) dX10_works_81 (by decide) ?_
      exact J_X10_works_82_ok hL 
    · rw [if_neg q8] at hL
      refine g_iconst (v := 1) dX10_works_77 (by decide) ?_
      refine g_goto (tgt := 82) dX10_works_78 (by decide) ?_
      exact J_X10_works_82_ok hL 
  rw [if_neg q7] at hL
  by_cases q9 : a1 = 7
  · rw [if_pos q9] at hL
    refine g_tableIn (off := 82) (tgt := 83) dX10_works_1 (by rw [q9]; decide) (by rw [q9]; decide) (by rw [q9]; decide +kernel) (by decide) ?_
    refine g_iload_n dX10_works_83 rfl rfl ?_
    refine g_none 1 ?_
    refine g_iload_n dX10_works_84 rfl rfl ?_
    refine g_none 2 ?_
    refine g_icmp_ne (tgt := 92) dX10_works_85 (by decide) (fun q10 => ?_) (fun q10 => ?_)
    · rw [if_neg q10] at hL
      refine g_iconst (v := 0) dX10_works_92 (by decide) ?_
      exact J_X10_works_93_ok hL 
    · rw [if_pos q10] at hL
      refine g_iconst (v := 1) dX10_works_88 (by decide) ?_
      refine g_goto (tgt := 93) dX10_works_89 (by decide) ?_
      exact J_X10_works_93_ok hL 
  rw [if_neg q9] at hL
  by_cases q11 : a1 = 8
  · rw [if_pos q11] at hL
    refine g_tableIn (off := 93) (tgt := 94) dX10_works_1 (by rw [q11]; decide) (by rw [q11]; decide) (by rw [q11]; decide +kernel) (by decide) ?_
    refine g_iload_n dX10_works_94 rfl rfl ?_
    refine g_none 1 ?_
    refine g_iload_n dX10_works_95 rfl rfl ?_
    refine g_none 2 ?_
    refine g_iadd dX10_works_96 ?_
    obtain rfl := Option.some.inj hL
    exact g_iret rfl dX10_works_97
  rw [if_neg q11] at hL
  by_cases q12 : a1 = 9
  · rw [if_pos q12] at hL
    refine g_tableIn (off := 97) (tgt := 98) dX10_works_1 (by rw [q12]; decide) (by rw [q12]; decide) (by rw [q12]; decide +kernel) (by decide) ?_
    refine g_iload_n dX10_works_98 rfl rfl ?_
    refine g_none 1 ?_
    refine g_iload_n dX10_works_99 rfl rfl ?_
    refine g_none 2 ?_
    refine g_isub dX10_works_100 ?_
    obtain rfl := Option.some.inj hL
    exact g_iret rfl dX10_works_101
  rw [if_neg q12] at hL
  by_cases q13 : a1 = 10
  · rw [if_pos q13] at hL
    refine g_tableIn (off := 101) (tgt := 102) dX10_works_1 (by rw [q13]; decide) (by rw [q13]; decide) (by rw [q13]; decide +kernel) (by decide) ?_
    refine g_iload_n dX10_works_102 rfl rfl ?_
    refine g_none 1 ?_
    refine g_iload_n dX10_works_103 rfl rfl ?_
    refine g_none 2 ?_
    refine g_imul dX10_works_104 ?_
    obtain rfl := Option.some.inj hL
    exact g_iret rfl dX10_works_105
  rw [if_neg q13] at hL
  refine g_tableOut (tgt := 106) dX10_works_1 (i32_out (x := a1) (4) (10) (fun z hz1 hz2 => ?_)) (by decide) ?_
  · rcases (show z = 4 ∨ z = 5 ∨ z = 6 ∨ z = 7 ∨ z = 8 ∨ z = 9 ∨ z = 10 by omega) with rfl | rfl | rfl | rfl | rfl | rfl | rfl
    · exact q1
    · exact q4
    · exact q7
    · exact q9
    · exact q11
    · exact q12
    · exact q13
  · refine g_iload_n dX10_works_106 rfl rfl ?_
    refine g_if_ne (tgt := 114) dX10_works_107 (by decide) (fun q15 => ?_) (fun q15 => ?_)
    · rw [if_neg q15] at hL
      refine g_iload_n dX10_works_114 rfl rfl ?_
      refine g_none 1 ?_
      refine g_iload_n dX10_works_115 rfl rfl ?_
      refine g_none 2 ?_
      refine s_idiv hL dX10_works_116 ?_
      intro v14 hL
      exact J_X10_works_117_ok hL 
    · rw [if_pos q15] at hL
      refine g_none 1 ?_
      refine g_none 2 ?_
      refine g_iconst (v := 0) dX10_works_110 (by decide) ?_
      refine g_goto (tgt := 117) dX10_works_111 (by decide) ?_
      exact J_X10_works_117_ok hL 
def J_X10_reckons_140 (kh4 : Int32 → Int32 → wS → Option (Int32 × wS)) (ke143 : wS → Option (Int32 × wS)) (x2 : Int32) (x3 : Int32) (w : wS) : Option (Int32 × wS) :=
  kh4 (x2) (x3) w
set_option maxRecDepth 20000 in
theorem J_X10_reckons_140_ok {G : aG} {Hf : wS → aH} {b : Nat} {kh4 : Int32 → Int32 → wS → Option (Int32 × wS)} {ke143 : wS → Option (Int32 × wS)} {x2 : Int32} {x3 : Int32} {w : wS} {r : Int32 × wS} (E : Emb Hf b 0 tbM) (hL : J_X10_reckons_140 kh4 ke143 x2 x3 w = some r) (Hkh4 : ∀ (z0 : Int32) (z1 : Int32) (w : wS), kh4 z0 z1 w = some r → AG G M_X10_reckons 4 [some (.ref (b + 0)), none, some (.int (z0)), some (.int (z1)), none] [] (Hf w) (.inl (some (.int r.1)), Hf r.2)) (Hke143 : ∀ (w : wS), ke143  w = some r → AG G M_X10_reckons 143 [some (.ref (b + 0)), none, none, none, none] [] (Hf w) (.inl (some (.int r.1)), Hf r.2)) : AG G M_X10_reckons 140 [some (.ref (b + 0)), none, some (.int (x2)), some (.int (x3)), none] [] (Hf w) (.inl (some (.int r.1)), Hf r.2) := by
  unfold J_X10_reckons_140 at hL
  refine g_goto (tgt := 4) dX10_reckons_140 (by decide) ?_
  exact Hkh4 _ _ _ hL
def J_X10_reckons_106 (kh4 : Int32 → Int32 → wS → Option (Int32 × wS)) (ke143 : wS → Option (Int32 × wS)) (x2 : Int32) (x3 : Int32) (y1 : Int32) (y2 : Int32) (w : wS) : Option (Int32 × wS) :=
  xB (xAst w 19 950 (y1) (y2)) fun w1 => J_X10_reckons_140 kh4 ke143 (x2) (x3) w1
set_option maxRecDepth 20000 in
theorem J_X10_reckons_106_ok {G : aG} {Hf : wS → aH} {b : Nat} {kh4 : Int32 → Int32 → wS → Option (Int32 × wS)} {ke143 : wS → Option (Int32 × wS)} {x2 : Int32} {x3 : Int32} {y1 : Int32} {y2 : Int32} {w : wS} {r : Int32 × wS} (E : Emb Hf b 0 tbM) (hL : J_X10_reckons_106 kh4 ke143 x2 x3 y1 y2 w = some r) (Hkh4 : ∀ (z0 : Int32) (z1 : Int32) (w : wS), kh4 z0 z1 w = some r → AG G M_X10_reckons 4 [some (.ref (b + 0)), none, some (.int (z0)), some (.int (z1)), none] [] (Hf w) (.inl (some (.int r.1)), Hf r.2)) (Hke143 : ∀ (w : wS), ke143  w = some r → AG G M_X10_reckons 143 [some (.ref (b + 0)), none, none, none, none] [] (Hf w) (.inl (some (.int r.1)), Hf r.2)) : AG G M_X10_reckons 106 [some (.ref (b + 0)), none, some (.int (x2)), some (.int (x3)), none] [.int (y2), .int (y1), .ref (b + 19)] (Hf w) (.inl (some (.int r.1)), Hf r.2) := by
  unfold J_X10_reckons_106 at hL
  refine s_iast (k := 19) E hL rfl dX10_reckons_106 ?_
  intro w1 hL
  refine g_goto (tgt := 140) dX10_reckons_107 (by decide) ?_
  exact J_X10_reckons_140_ok E hL Hkh4 Hke143
def J_X10_reckons_67 (kh4 : Int32 → Int32 → wS → Option (Int32 × wS)) (ke143 : wS → Option (Int32 × wS)) (x2 : Int32) (x3 : Int32) (y1 : Int32) (y2 : Int32) (w : wS) : Option (Int32 × wS) :=
  xB (xAst w 19 950 (y1) (y2)) fun w2 => J_X10_reckons_140 kh4 ke143 ((x2 + 1)) ((x3 + 1)) w2
set_option maxRecDepth 20000 in
theorem J_X10_reckons_67_ok {G : aG} {Hf : wS → aH} {b : Nat} {kh4 : Int32 → Int32 → wS → Option (Int32 × wS)} {ke143 : wS → Option (Int32 × wS)} {x2 : Int32} {x3 : Int32} {y1 : Int32} {y2 : Int32} {w : wS} {r : Int32 × wS} (E : Emb Hf b 0 tbM) (hL : J_X10_reckons_67 kh4 ke143 x2 x3 y1 y2 w = some r) (Hkh4 : ∀ (z0 : Int32) (z1 : Int32) (w : wS), kh4 z0 z1 w = some r → AG G M_X10_reckons 4 [some (.ref (b + 0)), none, some (.int (z0)), some (.int (z1)), none] [] (Hf w) (.inl (some (.int r.1)), Hf r.2)) (Hke143 : ∀ (w : wS), ke143  w = some r → AG G M_X10_reckons 143 [some (.ref (b + 0)), none, none, none, none] [] (Hf w) (.inl (some (.int r.1)), Hf r.2)) : AG G M_X10_reckons 67 [some (.ref (b + 0)), none, some (.int (x2)), some (.int (x3)), none] [.int (y2), .int (y1), .ref (b + 19)] (Hf w) (.inl (some (.int r.1)), Hf r.2) := by
  unfold J_X10_reckons_67 at hL
  refine s_iast (k := 19) E hL rfl dX10_reckons_67 ?_
  intro w2 hL
  refine g_iincV (v := (x3 + 1)) dX10_reckons_68 rfl rfl (by decide) rfl ?_
  refine g_iincV (v := (x2 + 1)) dX10_reckons_71 rfl rfl (by decide) rfl ?_
  refine g_goto (tgt := 140) dX10_reckons_74 (by decide) ?_
  exact J_X10_reckons_140_ok E hL Hkh4 Hke143
def J_X10_reckons_36 (kh4 : Int32 → Int32 → wS → Option (Int32 × wS)) (ke143 : wS → Option (Int32 × wS)) (x2 : Int32) (x3 : Int32) (x4 : Int32) (w : wS) : Option (Int32 × wS) :=
  if x4 = 1 then xB (xAld w 5 1400 (x3)) fun v5 => J_X10_reckons_67 kh4 ke143 (x2) (x3) (x2) (v5) w else xB (xAld w 5 1400 (x3)) fun v3 => xB (xAld w 18 7 (v3)) fun v4 => J_X10_reckons_67 kh4 ke143 (x2) (x3) (x2) (v4) w
set_option maxRecDepth 20000 in
theorem J_X10_reckons_36_ok {G : aG} {Hf : wS → aH} {b : Nat} {kh4 : Int32 → Int32 → wS → Option (Int32 × wS)} {ke143 : wS → Option (Int32 × wS)} {x2 : Int32} {x3 : Int32} {x4 : Int32} {w : wS} {r : Int32 × wS} (E : Emb Hf b 0 tbM) (hL : J_X10_reckons_36 kh4 ke143 x2 x3 x4 w = some r) (Hkh4 : ∀ (z0 : Int32) (z1 : Int32) (w : wS), kh4 z0 z1 w = some r → AG G M_X10_reckons 4 [some (.ref (b + 0)), none, some (.int (z0)), some (.int (z1)), none] [] (Hf w) (.inl (some (.int r.1)), Hf r.2)) (Hke143 : ∀ (w : wS), ke143  w = some r → AG G M_X10_reckons 143 [some (.ref (b + 0)), none, none, none, none] [] (Hf w) (.inl (some (.int r.1)), Hf r.2)) : AG G M_X10_reckons 36 [some (.ref (b + 0)), none, some (.int (x2)), some (.int (x3)), some (.int (x4))] [] (Hf w) (.inl (some (.int r.1)), Hf r.2) := by
  unfold J_X10_reckons_36 at hL
  refine g_aload_n dX10_reckons_36 rfl rfl ?_
  refine s_getR (j := 45) E rfl rfl f_X10_78 dX10_reckons_37 ?_
  refine g_iload_n dX10_reckons_40 rfl rfl ?_
  refine g_iload dX10_reckons_41 rfl ?_
  refine g_none 4 ?_
  refine g_iconst (v := 1) dX10_reckons_43 (by decide) ?_
  refine g_icmp_ne (tgt := 56) dX10_reckons_44 (by decide) (fun q6 => ?_) (fun q6 => ?_)
  · rw [if_neg q6] at hL
    refine g_aload_n dX10_reckons_56 rfl rfl ?_
    refine s_getR (j := 44) E rfl rfl f_X10_75 dX10_reckons_57 ?_
    refine g_aload_n dX10_reckons_60 rfl rfl ?_
    refine s_getR (j := 10) E rfl rfl f_X10_32 dX10_reckons_61 ?_
    refine g_iload_n dX10_reckons_64 rfl rfl ?_
    refine s_iald (k := 5) E hL rfl dX10_reckons_65 ?_
    intro v3 hL
    refine s_iald (k := 18) E hL rfl dX10_reckons_66 ?_
    intro v4 hL
    exact J_X10_reckons_67_ok E hL Hkh4 Hke143
  · rw [if_pos q6] at hL
    refine g_aload_n dX10_reckons_47 rfl rfl ?_
    refine s_getR (j := 10) E rfl rfl f_X10_32 dX10_reckons_48 ?_
    refine g_iload_n dX10_reckons_51 rfl rfl ?_
    refine s_iald (k := 5) E hL rfl dX10_reckons_52 ?_
    intro v5 hL
    refine g_goto (tgt := 67) dX10_reckons_53 (by decide) ?_
    exact J_X10_reckons_67_ok E hL Hkh4 Hke143
def B_X10_reckons_4 (kh4 : Int32 → Int32 → wS → Option (Int32 × wS)) (ke143 : wS → Option (Int32 × wS)) (x2 : Int32) (x3 : Int32) (w : wS) : Option (Int32 × wS) :=
  xB (xAld w 5 1400 (x3)) fun v7 => if v7 = 0 then ke143  w else xB (xAld w 5 1400 (x3)) fun v8 => if v8 = 1 then J_X10_reckons_36 kh4 ke143 (x2) ((x3 + 1)) (v8) w else if v8 = 2 then J_X10_reckons_36 kh4 ke143 (x2) ((x3 + 1)) (v8) w else if v8 = 3 then xB (xAld w 19 950 ((x2 - 1))) fun v13 => if v13 = 0 then J_X10_reckons_106 kh4 ke143 (x2) ((x3 + 1)) ((x2 - 1)) (1) w else J_X10_reckons_106 kh4 ke143 (x2) ((x3 + 1)) ((x2 - 1)) (0) w else xB (xAld w 19 950 (((x2 + (-1)) - 1))) fun v9 => xB (xAld w 19 950 ((x2 + (-1)))) fun v10 => xB (L_X10_works (v8) (v9) (v10)) fun v11 => xB (xAst w 19 950 (((x2 + (-1)) - 1)) (v11)) fun w12 => J_X10_reckons_140 kh4 ke143 ((x2 + (-1))) ((x3 + 1)) w12
set_option maxRecDepth 20000 in
theorem B_X10_reckons_4_ok {G : aG} {Hf : wS → aH} {b : Nat} {kh4 : Int32 → Int32 → wS → Option (Int32 × wS)} {ke143 : wS → Option (Int32 × wS)} {x2 : Int32} {x3 : Int32} {w : wS} {r : Int32 × wS} (E : Emb Hf b 0 tbM) (hL : B_X10_reckons_4 kh4 ke143 x2 x3 w = some r) (Hkh4 : ∀ (z0 : Int32) (z1 : Int32) (w : wS), kh4 z0 z1 w = some r → AG G M_X10_reckons 4 [some (.ref (b + 0)), none, some (.int (z0)), some (.int (z1)), none] [] (Hf w) (.inl (some (.int r.1)), Hf r.2)) (Hke143 : ∀ (w : wS), ke143  w = some r → AG G M_X10_reckons 143 [some (.ref (b + 0)), none, none, none, none] [] (Hf w) (.inl (some (.int r.1)), Hf r.2)) : AG G M_X10_reckons 4 [some (.ref (b + 0)), none, some (.int (x2)), some (.int (x3)), none] [] (Hf w) (.inl (some (.int r.1)), Hf r.2) := by
  unfold B_X10_reckons_4 at hL
  refine g_aload_n dX10_reckons_4 rfl rfl ?_
  refine s_getR (j := 10) E rfl rfl f_X10_32 dX10_reckons_5 ?_
  refine g_iload_n dX10_reckons_8 rfl rfl ?_
  refine s_iald (k := 5) E hL rfl dX10_reckons_9 ?_
  intro v7 hL
  refine g_if_eq (tgt := 143) dX10_reckons_10 (by decide) (fun q18 => ?_) (fun q18 => ?_)
  · rw [if_pos q18] at hL
    refine g_none 2 ?_
    refine g_none 3 ?_
    exact Hke143  _ hL
  · rw [if_neg q18] at hL
    refine g_aload_n dX10_reckons_13 rfl rfl ?_
    refine s_getR (j := 10) E rfl rfl f_X10_32 dX10_reckons_14 ?_
    refine g_iload_n dX10_reckons_17 rfl rfl ?_
    refine s_iald (k := 5) E hL rfl dX10_reckons_18 ?_
    intro v8 hL
    refine g_istore (i := 4) dX10_reckons_19 (by decide) rfl ?_
    refine g_iincV (v := (x3 + 1)) dX10_reckons_21 rfl rfl (by decide) rfl ?_
    refine g_iload dX10_reckons_24 rfl ?_
    refine g_iconst (v := 1) dX10_reckons_26 (by decide) ?_
    refine g_icmp_eq (tgt := 36) dX10_reckons_27 (by decide) (fun q17 => ?_) (fun q17 => ?_)
    · rw [if_pos q17] at hL
      exact J_X10_reckons_36_ok E hL Hkh4 Hke143
    · rw [if_neg q17] at hL
      refine g_iload dX10_reckons_30 rfl ?_
      refine g_iconst (v := 2) dX10_reckons_32 (by decide) ?_
      refine g_icmp_ne (tgt := 77) dX10_reckons_33 (by decide) (fun q16 => ?_) (fun q16 => ?_)
      · rw [if_neg q16] at hL
        refine g_iload dX10_reckons_77 rfl ?_
        refine g_iconst (v := 3) dX10_reckons_79 (by decide) ?_
        refine g_icmp_ne (tgt := 110) dX10_reckons_80 (by decide) (fun q15 => ?_) (fun q15 => ?_)
        · rw [if_neg q15] at hL
          refine g_iincV (v := (x2 + (-1))) dX10_reckons_110 rfl rfl (by decide) rfl ?_
          refine g_aload_n dX10_reckons_113 rfl rfl ?_
          refine s_getR (j := 45) E rfl rfl f_X10_78 dX10_reckons_114 ?_
          refine g_iload_n dX10_reckons_117 rfl rfl ?_
          refine g_iconst (v := 1) dX10_reckons_118 (by decide) ?_
          refine g_isub dX10_reckons_119 ?_
          refine g_iload dX10_reckons_120 rfl ?_
          refine g_none 4 ?_
          refine g_aload_n dX10_reckons_122 rfl rfl ?_
          refine s_getR (j := 45) E rfl rfl f_X10_78 dX10_reckons_123 ?_
          refine g_iload_n dX10_reckons_126 rfl rfl ?_
          refine g_iconst (v := 1) dX10_reckons_127 (by decide) ?_
          refine g_isub dX10_reckons_128 ?_
          refine s_iald (k := 19) E hL rfl dX10_reckons_129 ?_
          intro v9 hL
          refine g_aload_n dX10_reckons_130 rfl rfl ?_
          refine s_getR (j := 45) E rfl rfl f_X10_78 dX10_reckons_131 ?_
          refine g_iload_n dX10_reckons_134 rfl rfl ?_
          refine s_iald (k := 19) E hL rfl dX10_reckons_135 ?_
          intro v10 hL
          obtain ⟨v11, hc, hL⟩ := xB_some hL
          refine g_callS (M' := M_X10_works) (as := [.int (v8), .int (v9), .int (v10)]) (v := some (.int (v11))) l_X10_298 kS_X10_works (by decide) (C_X10_works hc) rfl (Nat.le_of_ble_eq_true rfl) dX10_reckons_136 ?_
          refine s_iast (k := 19) E hL rfl dX10_reckons_139 ?_
          intro w12 hL
          exact J_X10_reckons_140_ok E hL Hkh4 Hke143
        · rw [if_pos q15] at hL
          refine g_none 4 ?_
          refine g_aload_n dX10_reckons_83 rfl rfl ?_
          refine s_getR (j := 45) E rfl rfl f_X10_78 dX10_reckons_84 ?_
          refine g_iload_n dX10_reckons_87 rfl rfl ?_
          refine g_iconst (v := 1) dX10_reckons_88 (by decide) ?_
          refine g_isub dX10_reckons_89 ?_
          refine g_aload_n dX10_reckons_90 rfl rfl ?_
          refine s_getR (j := 45) E rfl rfl f_X10_78 dX10_reckons_91 ?_
          refine g_iload_n dX10_reckons_94 rfl rfl ?_
          refine g_iconst (v := 1) dX10_reckons_95 (by decide) ?_
          refine g_isub dX10_reckons_96 ?_
          refine s_iald (k := 19) E hL rfl dX10_reckons_97 ?_
          intro v13 hL
          refine g_if_ne (tgt := 105) dX10_reckons_98 (by decide) (fun q14 => ?_) (fun q14 => ?_)
          · rw [if_neg q14] at hL
            refine g_iconst (v := 0) dX10_reckons_105 (by decide) ?_
            exact J_X10_reckons_106_ok E hL Hkh4 Hke143
          · rw [if_pos q14] at hL
            refine g_iconst (v := 1) dX10_reckons_101 (by decide) ?_
            refine g_goto (tgt := 106) dX10_reckons_102 (by decide) ?_
            exact J_X10_reckons_106_ok E hL Hkh4 Hke143
      · rw [if_pos q16] at hL
        exact J_X10_reckons_36_ok E hL Hkh4 Hke143
def P_X10_reckons_4 (ke143 : wS → Option (Int32 × wS)) (n : Nat) (x2 : Int32) (x3 : Int32) (w : wS) : Option (Int32 × wS) :=
  xLoop (fun (kk : Int32 × Int32 × wS → Option (Int32 × wS)) σ => B_X10_reckons_4 (fun x2 x3 w => kk (x2, x3, w)) ke143 (σ.1) (σ.2.1) (σ.2.2)) n (x2, x3, w)
theorem P_X10_reckons_4_ok {G : aG} {Hf : wS → aH} {b : Nat} {ke143 : wS → Option (Int32 × wS)} {n : Nat} {x2 : Int32} {x3 : Int32} {w : wS} {r : Int32 × wS} (E : Emb Hf b 0 tbM) (hL : P_X10_reckons_4 ke143 n x2 x3 w = some r) (Hke143 : ∀ (w : wS), ke143  w = some r → AG G M_X10_reckons 143 [some (.ref (b + 0)), none, none, none, none] [] (Hf w) (.inl (some (.int r.1)), Hf r.2)) : AG G M_X10_reckons 4 [some (.ref (b + 0)), none, some (.int (x2)), some (.int (x3)), none] [] (Hf w) (.inl (some (.int r.1)), Hf r.2) :=
  xLoop_ok (Q := fun (σ : Int32 × Int32 × wS) => AG G M_X10_reckons 4 [some (.ref (b + 0)), none, some (.int (σ.1)), some (.int (σ.2.1)), none] [] (Hf σ.2.2) (.inl (some (.int r.1)), Hf r.2)) (fun kk hk σ hσ => B_X10_reckons_4_ok E hσ (fun x2 x3 w h9 => hk (x2, x3, w) h9) Hke143) n (x2, x3, w) hL
def L_X10_reckons (a1 : Int32) (w : wS) : Option (Int32 × wS) :=
  P_X10_reckons_4 (fun w19 => xB (xAld w19 19 950 (0)) fun v20 => some (v20, w19)) 5000 (0) (a1) w
set_option maxRecDepth 20000 in
theorem C_X10_reckons {G : aG} {Hf : wS → aH} {b : Nat} {a1 : Int32} {w : wS} {r : Int32 × wS} (E : Emb Hf b 0 tbM) (hL : L_X10_reckons a1 w = some r) : AC G M_X10_reckons [.ref (b + 0), .int a1] (Hf w) (.inl (some (.int r.1)), Hf r.2) := by
  unfold L_X10_reckons at hL
  refine AC.of (by decide) rfl (Nat.le_of_ble_eq_true rfl) ?_
  show AG G M_X10_reckons 0 [some (.ref (b + 0)), some (.int (a1)), none, none, none] [] _ _
  refine g_iconst (v := 0) dX10_reckons_0 (by decide) ?_
  refine g_istore_n (i := 2) dX10_reckons_1 rfl (by decide) rfl ?_
  refine g_iload_n dX10_reckons_2 rfl rfl ?_
  refine g_none 1 ?_
  refine g_istore_n (i := 3) dX10_reckons_3 rfl (by decide) rfl ?_
  refine P_X10_reckons_4_ok E hL ?_
  · intro w19 hL
    refine g_aload_n dX10_reckons_143 rfl rfl ?_
    refine g_none 0 ?_
    refine s_getR (j := 45) E rfl rfl f_X10_78 dX10_reckons_144 ?_
    refine g_iconst (v := 0) dX10_reckons_147 (by decide) ?_
    refine s_iald (k := 19) E hL rfl dX10_reckons_148 ?_
    intro v20 hL
    obtain rfl := Option.some.inj hL
    exact g_iret rfl dX10_reckons_149
