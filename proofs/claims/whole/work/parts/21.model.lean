def J_X10_need_24 (w : wS) : Option (wS) :=
  some w
set_option maxRecDepth 20000 in
theorem J_X10_need_24_ok {G : aG} {Hf : wS → aH} {b : Nat} {w : wS} {r : wS} (E : Emb Hf b 0 tbM) (hL : J_X10_need_24   w = some r) : AG G M_X10_need 24 [none, none] [] (Hf w) (.inl none, Hf r) := by
  unfold J_X10_need_24 at hL
  obtain rfl := Option.some.inj hL
  exact g_vret rfl dX10_need_24
def L_X10_need (a1 : Int32) (w : wS) : Option (wS) :=
  xB2 (L_X10_isGood  w) fun v1 w2 => if v1 = 0 then some w2 else if a1 = 0 then xB (L_X10_wrong (1) w2) fun w3 => J_X10_need_24   w3 else xB (L_X10_goes  w2) fun w4 => J_X10_need_24   w4
set_option maxRecDepth 20000 in
theorem C_X10_need {G : aG} {Hf : wS → aH} {b : Nat} {a1 : Int32} {w : wS} {r : wS} (E : Emb Hf b 0 tbM) (hL : L_X10_need a1 w = some r) : AC G M_X10_need [.ref (b + 0), .int a1] (Hf w) (.inl none, Hf r) := by
  unfold L_X10_need at hL
  refine AC.of (by decide) rfl (Nat.le_of_ble_eq_true rfl) ?_
  show AG G M_X10_need 0 [some (.ref (b + 0)), some (.int (a1))] [] _ _
  refine g_aload_n dX10_need_0 rfl rfl ?_
  obtain ⟨v1, w2, hc, hL⟩ := xB2_some hL
  refine g_callV (M' := M_X10_isGood) (as := []) (v := some (.int (v1))) l_X10_179 kV_X10_isGood (by decide) (C_X10_isGood E hc) rfl (by have := E.1; omega) (E.2.1 _ 0 _ rfl) ⟨_, _, rfl⟩ (Nat.le_of_ble_eq_true rfl) dX10_need_1 ?_
  refine g_if_ne (tgt := 8) dX10_need_4 (by decide) (fun q6 => ?_) (fun q6 => ?_)
  · rw [if_neg q6] at hL
    refine g_iload_n dX10_need_8 rfl rfl ?_
    refine g_none 1 ?_
    refine g_if_eq (tgt := 19) dX10_need_9 (by decide) (fun q5 => ?_) (fun q5 => ?_)
    · rw [if_pos q5] at hL
      refine g_aload_n dX10_need_19 rfl rfl ?_
      refine g_none 0 ?_
      refine g_iconst (v := 1) dX10_need_20 (by decide) ?_
      obtain ⟨w3, hc, hL⟩ := xB_some hL
      refine g_callV (M' := M_X10_wrong) (as := [.int (1)]) (v := none) l_X10_186 kV_X10_wrong (by decide) (C_X10_wrong E hc) rfl (by have := E.1; omega) (E.2.1 _ 0 _ rfl) ⟨_, _, rfl⟩ (Nat.le_of_ble_eq_true rfl) dX10_need_21 ?_
      exact J_X10_need_24_ok E hL 
    · rw [if_neg q5] at hL
      refine g_aload_n dX10_need_12 rfl rfl ?_
      refine g_none 0 ?_
      obtain ⟨w4, hc, hL⟩ := xB_some hL
      refine g_callV (M' := M_X10_goes) (as := []) (v := none) l_X10_183 kV_X10_goes (by decide) (C_X10_goes E hc) rfl (by have := E.1; omega) (E.2.1 _ 0 _ rfl) ⟨_, _, rfl⟩ (Nat.le_of_ble_eq_true rfl) dX10_need_13 ?_
      refine g_goto (tgt := 24) dX10_need_16 (by decide) ?_
      exact J_X10_need_24_ok E hL 
  · rw [if_pos q6] at hL
    refine g_none 0 ?_
    refine g_none 1 ?_
    obtain rfl := Option.some.inj hL
    exact g_vret rfl dX10_need_7
def J_X10_number_70 (x3 : Int32) (w : wS) : Option (Int32 × wS) :=
  some (x3, w)
set_option maxRecDepth 20000 in
theorem J_X10_number_70_ok {G : aG} {Hf : wS → aH} {b : Nat} {x3 : Int32} {w : wS} {r : Int32 × wS} (E : Emb Hf b 0 tbM) (hL : J_X10_number_70  x3 w = some r) : AG G M_X10_number 70 [none, none, none, some (.int (x3))] [] (Hf w) (.inl (some (.int r.1)), Hf r.2) := by
  unfold J_X10_number_70 at hL
  refine g_iload_n dX10_number_70 rfl rfl ?_
  refine g_none 3 ?_
  obtain rfl := Option.some.inj hL
  exact g_iret rfl dX10_number_71
def J_X10_number_54 (w : wS) : Option (Int32 × wS) :=
  xB (xGet w 21) fun v1 => xB2 (L_X10_isGood  w) fun v2 w3 => if v2 = 0 then J_X10_number_70  (v1) w3 else xB (L_X10_goes  w3) fun w4 => J_X10_number_70  (v1) w4
set_option maxRecDepth 20000 in
theorem J_X10_number_54_ok {G : aG} {Hf : wS → aH} {b : Nat} {w : wS} {r : Int32 × wS} (E : Emb Hf b 0 tbM) (hL : J_X10_number_54   w = some r) : AG G M_X10_number 54 [some (.ref (b + 0)), none, none, none] [] (Hf w) (.inl (some (.int r.1)), Hf r.2) := by
  unfold J_X10_number_54 at hL
  refine g_aload_n dX10_number_54 rfl rfl ?_
  refine s_getI (k := 0) (j := 21) E hL rfl rfl f_X10_147 dX10_number_55 ?_
  intro v1 hL
  refine g_istore_n (i := 3) dX10_number_58 rfl (by decide) rfl ?_
  refine g_aload_n dX10_number_59 rfl rfl ?_
  obtain ⟨v2, w3, hc, hL⟩ := xB2_some hL
  refine g_callV (M' := M_X10_isGood) (as := []) (v := some (.int (v2))) l_X10_179 kV_X10_isGood (by decide) (C_X10_isGood E hc) rfl (by have := E.1; omega) (E.2.1 _ 0 _ rfl) ⟨_, _, rfl⟩ (Nat.le_of_ble_eq_true rfl) dX10_number_60 ?_
  refine g_if_eq (tgt := 70) dX10_number_63 (by decide) (fun q5 => ?_) (fun q5 => ?_)
  · rw [if_pos q5] at hL
    refine g_none 0 ?_
    exact J_X10_number_70_ok E hL 
  · rw [if_neg q5] at hL
    refine g_aload_n dX10_number_66 rfl rfl ?_
    refine g_none 0 ?_
    obtain ⟨w4, hc, hL⟩ := xB_some hL
    refine g_callV (M' := M_X10_goes) (as := []) (v := none) l_X10_183 kV_X10_goes (by decide) (C_X10_goes E hc) rfl (by have := E.1; omega) (E.2.1 _ 0 _ rfl) ⟨_, _, rfl⟩ (Nat.le_of_ble_eq_true rfl) dX10_number_67 ?_
    exact J_X10_number_70_ok E hL 
def J_X10_number_49 (w : wS) : Option (Int32 × wS) :=
  xB (L_X10_wrong (2) w) fun w6 => J_X10_number_54   w6
set_option maxRecDepth 20000 in
theorem J_X10_number_49_ok {G : aG} {Hf : wS → aH} {b : Nat} {w : wS} {r : Int32 × wS} (E : Emb Hf b 0 tbM) (hL : J_X10_number_49   w = some r) : AG G M_X10_number 49 [some (.ref (b + 0)), none, none, none] [] (Hf w) (.inl (some (.int r.1)), Hf r.2) := by
  unfold J_X10_number_49 at hL
  refine g_aload_n dX10_number_49 rfl rfl ?_
  refine g_iconst (v := 2) dX10_number_50 (by decide) ?_
  obtain ⟨w6, hc, hL⟩ := xB_some hL
  refine g_callV (M' := M_X10_wrong) (as := [.int (2)]) (v := none) l_X10_186 kV_X10_wrong (by decide) (C_X10_wrong E hc) rfl (by have := E.1; omega) (E.2.1 _ 0 _ rfl) ⟨_, _, rfl⟩ (Nat.le_of_ble_eq_true rfl) dX10_number_51 ?_
  exact J_X10_number_54_ok E hL 
def L_X10_number (a1 : Int32) (a2 : Int32) (w : wS) : Option (Int32 × wS) :=
  xB2 (L_X10_isGood  w) fun v7 w8 => if v7 = 0 then some (0, w8) else xB (xGet w8 18) fun v9 => if v9 = 2 then xB (xGet w8 20) fun v10 => if 4 < v10 then J_X10_number_49   w8 else xB (xGet w8 21) fun v11 => if v11 < a1 then J_X10_number_49   w8 else xB (xGet w8 21) fun v12 => if v12 ≤ a2 then J_X10_number_54   w8 else J_X10_number_49   w8 else xB (L_X10_wrong (1) w8) fun w16 => J_X10_number_54   w16
set_option maxRecDepth 20000 in
theorem C_X10_number {G : aG} {Hf : wS → aH} {b : Nat} {a1 : Int32} {a2 : Int32} {w : wS} {r : Int32 × wS} (E : Emb Hf b 0 tbM) (hL : L_X10_number a1 a2 w = some r) : AC G M_X10_number [.ref (b + 0), .int a1, .int a2] (Hf w) (.inl (some (.int r.1)), Hf r.2) := by
  unfold L_X10_number at hL
  refine AC.of (by decide) rfl (Nat.le_of_ble_eq_true rfl) ?_
  show AG G M_X10_number 0 [some (.ref (b + 0)), some (.int (a1)), some (.int (a2)), none] [] _ _
  refine g_aload_n dX10_number_0 rfl rfl ?_
  obtain ⟨v7, w8, hc, hL⟩ := xB2_some hL
  refine g_callV (M' := M_X10_isGood) (as := []) (v := some (.int (v7))) l_X10_179 kV_X10_isGood (by decide) (C_X10_isGood E hc) rfl (by have := E.1; omega) (E.2.1 _ 0 _ rfl) ⟨_, _, rfl⟩ (Nat.le_of_ble_eq_true rfl) dX10_number_1 ?_
  refine g_if_ne (tgt := 9) dX10_number_4 (by decide) (fun q18 => ?_) (fun q18 => ?_)
  · rw [if_neg q18] at hL
    refine g_aload_n dX10_number_9 rfl rfl ?_
    refine s_getI (k := 0) (j := 18) E hL rfl rfl f_X10_153 dX10_number_10 ?_
    intro v9 hL
    refine g_iconst (v := 2) dX10_number_13 (by decide) ?_
    refine g_icmp_eq (tgt := 25) dX10_number_14 (by decide) (fun q17 => ?_) (fun q17 => ?_)
    · rw [if_pos q17] at hL
      refine g_aload_n dX10_number_25 rfl rfl ?_
      refine s_getI (k := 0) (j := 20) E hL rfl rfl f_X10_163 dX10_number_26 ?_
      intro v10 hL
      refine g_iconst (v := 4) dX10_number_29 (by decide) ?_
      refine g_icmp_gt (tgt := 49) dX10_number_30 (by decide) (fun q15 => ?_) (fun q15 => ?_)
      · rw [if_pos q15] at hL
        refine g_none 1 ?_
        refine g_none 2 ?_
        exact J_X10_number_49_ok E hL 
      · rw [if_neg q15] at hL
        refine g_aload_n dX10_number_33 rfl rfl ?_
        refine s_getI (k := 0) (j := 21) E hL rfl rfl f_X10_147 dX10_number_34 ?_
        intro v11 hL
        refine g_iload_n dX10_number_37 rfl rfl ?_
        refine g_none 1 ?_
        refine g_icmp_lt (tgt := 49) dX10_number_38 (by decide) (fun q14 => ?_) (fun q14 => ?_)
        · rw [if_pos q14] at hL
          refine g_none 2 ?_
          exact J_X10_number_49_ok E hL 
        · rw [if_neg q14] at hL
          refine g_aload_n dX10_number_41 rfl rfl ?_
          refine s_getI (k := 0) (j := 21) E hL rfl rfl f_X10_147 dX10_number_42 ?_
          intro v12 hL
          refine g_iload_n dX10_number_45 rfl rfl ?_
          refine g_none 2 ?_
          refine g_icmp_le (tgt := 54) dX10_number_46 (by decide) (fun q13 => ?_) (fun q13 => ?_)
          · rw [if_pos q13] at hL
            exact J_X10_number_54_ok E hL 
          · rw [if_neg q13] at hL
            exact J_X10_number_49_ok E hL 
    · rw [if_neg q17] at hL
      refine g_none 1 ?_
      refine g_none 2 ?_
      refine g_aload_n dX10_number_17 rfl rfl ?_
      refine g_iconst (v := 1) dX10_number_18 (by decide) ?_
      obtain ⟨w16, hc, hL⟩ := xB_some hL
      refine g_callV (M' := M_X10_wrong) (as := [.int (1)]) (v := none) l_X10_186 kV_X10_wrong (by decide) (C_X10_wrong E hc) rfl (by have := E.1; omega) (E.2.1 _ 0 _ rfl) ⟨_, _, rfl⟩ (Nat.le_of_ble_eq_true rfl) dX10_number_19 ?_
      refine g_goto (tgt := 54) dX10_number_22 (by decide) ?_
      exact J_X10_number_54_ok E hL 
  · rw [if_pos q18] at hL
    refine g_none 0 ?_
    refine g_none 1 ?_
    refine g_none 2 ?_
    refine g_iconst (v := 0) dX10_number_7 (by decide) ?_
    obtain rfl := Option.some.inj hL
    exact g_iret rfl dX10_number_8
def L_X10_puts (a1 : Int32) (w : wS) : Option (wS) :=
  xB (xGet w 29) fun v1 => xB (xAst w 13 1400 (v1) (a1)) fun w2 => xB (xGet w2 29) fun v3 => xB (xPut w2 29 ((v3 + 1))) fun w4 => some w4
set_option maxRecDepth 20000 in
theorem C_X10_puts {G : aG} {Hf : wS → aH} {b : Nat} {a1 : Int32} {w : wS} {r : wS} (E : Emb Hf b 0 tbM) (hL : L_X10_puts a1 w = some r) : AC G M_X10_puts [.ref (b + 0), .int a1] (Hf w) (.inl none, Hf r) := by
  unfold L_X10_puts at hL
  refine AC.of (by decide) rfl (Nat.le_of_ble_eq_true rfl) ?_
  show AG G M_X10_puts 0 [some (.ref (b + 0)), some (.int (a1))] [] _ _
  refine g_aload_n dX10_puts_0 rfl rfl ?_
  refine s_getR (j := 38) E rfl rfl f_X10_59 dX10_puts_1 ?_
  refine g_aload_n dX10_puts_4 rfl rfl ?_
  refine s_getI (k := 0) (j := 29) E hL rfl rfl f_X10_189 dX10_puts_5 ?_
  intro v1 hL
  refine g_iload_n dX10_puts_8 rfl rfl ?_
  refine g_none 1 ?_
  refine s_iast (k := 13) E hL rfl dX10_puts_9 ?_
  intro w2 hL
  refine g_aload_n dX10_puts_10 rfl rfl ?_
  refine g_none 0 ?_
  refine g_dup dX10_puts_11 rfl ?_
  refine s_getI (k := 0) (j := 29) E hL rfl rfl f_X10_189 dX10_puts_12 ?_
  intro v3 hL
  refine g_iconst (v := 1) dX10_puts_15 (by decide) ?_
  refine g_iadd dX10_puts_16 ?_
  refine s_putI (k := 0) (j := 29) E hL rfl rfl (by decide) fw_X10_189 rfl rfl dX10_puts_17 ?_
  intro w4 hL
  obtain rfl := Option.some.inj hL
  exact g_vret rfl dX10_puts_20
def J_X10_isOpen_11 (y0 : Int32) : Option (Int32) :=
  xB (xBool (y0)) fun v1 => some v1
set_option maxRecDepth 20000 in
theorem J_X10_isOpen_11_ok {G : aG} {h : aH} {y0 : Int32} {r : Int32} (hL : J_X10_isOpen_11  y0 = some r) : AG G M_X10_isOpen 11 [none] [.int (y0)] h (.inl (some (.int r)), h) := by
  unfold J_X10_isOpen_11 at hL
  obtain ⟨v1, hb, hR⟩ := xB_some hL
  obtain ⟨hz, hb2⟩ := xBool_some hb
  clear hL
  subst hz
  obtain rfl := Option.some.inj hR
  exact g_zret rfl (narrow_bool hb2) dX10_isOpen_11
def L_X10_isOpen (a1 : Int32) : Option (Int32) :=
  if a1 < 14 then J_X10_isOpen_11  (0) else J_X10_isOpen_11  (1)
set_option maxRecDepth 20000 in
theorem C_X10_isOpen {G : aG} {h : aH} {a1 : Int32} {r : Int32} (hL : L_X10_isOpen a1 = some r) : AC G M_X10_isOpen [.int a1] h (.inl (some (.int r)), h) := by
  unfold L_X10_isOpen at hL
  refine AC.of (by decide) rfl (Nat.le_of_ble_eq_true rfl) ?_
  show AG G M_X10_isOpen 0 [some (.int (a1))] [] _ _
  refine g_iload_n dX10_isOpen_0 rfl rfl ?_
  refine g_none 0 ?_
  refine g_bipush (v := 14) dX10_isOpen_1 (by decide) ?_
  refine g_icmp_lt (tgt := 10) dX10_isOpen_3 (by decide) (fun q2 => ?_) (fun q2 => ?_)
  · rw [if_pos q2] at hL
    refine g_iconst (v := 0) dX10_isOpen_10 (by decide) ?_
    exact J_X10_isOpen_11_ok hL 
  · rw [if_neg q2] at hL
    refine g_iconst (v := 1) dX10_isOpen_6 (by decide) ?_
    refine g_goto (tgt := 11) dX10_isOpen_7 (by decide) ?_
    exact J_X10_isOpen_11_ok hL 
def J_X10_strength_61 (y0 : Int32) : Option (Int32) :=
  some (y0)
set_option maxRecDepth 20000 in
theorem J_X10_strength_61_ok {G : aG} {h : aH} {y0 : Int32} {r : Int32} (hL : J_X10_strength_61  y0 = some r) : AG G M_X10_strength 61 [none] [.int (y0)] h (.inl (some (.int r)), h) := by
  unfold J_X10_strength_61 at hL
  obtain rfl := Option.some.inj hL
  exact g_iret rfl dX10_strength_61
def J_X10_strength_55 : Option (Int32) :=
  J_X10_strength_61  (5)
set_option maxRecDepth 20000 in
theorem J_X10_strength_55_ok {G : aG} {h : aH} {r : Int32} (hL : J_X10_strength_55   = some r) : AG G M_X10_strength 55 [none] [] h (.inl (some (.int r)), h) := by
  unfold J_X10_strength_55 at hL
  refine g_iconst (v := 5) dX10_strength_55 (by decide) ?_
  refine g_goto (tgt := 61) dX10_strength_56 (by decide) ?_
  exact J_X10_strength_61_ok hL 
def J_X10_strength_39 : Option (Int32) :=
  J_X10_strength_61  (4)
set_option maxRecDepth 20000 in
theorem J_X10_strength_39_ok {G : aG} {h : aH} {r : Int32} (hL : J_X10_strength_39   = some r) : AG G M_X10_strength 39 [none] [] h (.inl (some (.int r)), h) := by
  unfold J_X10_strength_39 at hL
  refine g_iconst (v := 4) dX10_strength_39 (by decide) ?_
  refine g_goto (tgt := 61) dX10_strength_40 (by decide) ?_
  exact J_X10_strength_61_ok hL 
def L_X10_strength (a1 : Int32) : Option (Int32) :=
  if a1 = 5 then J_X10_strength_61  (1) else if a1 = 4 then J_X10_strength_61  (2) else if a1 = 3 then J_X10_strength_61  (3) else if a1 = 6 then J_X10_strength_39   else if a1 = 7 then J_X10_strength_39   else if a1 = 8 then J_X10_strength_55   else if a1 = 9 then J_X10_strength_55   else J_X10_strength_61  (6)
set_option maxRecDepth 20000 in
theorem C_X10_strength {G : aG} {h : aH} {a1 : Int32} {r : Int32} (hL : L_X10_strength a1 = some r) : AC G M_X10_strength [.int a1] h (.inl (some (.int r)), h) := by
  unfold L_X10_strength at hL
  refine AC.of (by decide) rfl (Nat.le_of_ble_eq_true rfl) ?_
  show AG G M_X10_strength 0 [some (.int (a1))] [] _ _
  refine g_iload_n dX10_strength_0 rfl rfl ?_
  refine g_iconst (v := 5) dX10_strength_1 (by decide) ?_
  refine g_icmp_ne (tgt := 9) dX10_strength_2 (by decide) (fun q7 => ?_) (fun q7 => ?_)
  · rw [if_neg q7] at hL
    refine g_iload_n dX10_strength_9 rfl rfl ?_
    refine g_iconst (v := 4) dX10_strength_10 (by decide) ?_
    refine g_icmp_ne (tgt := 18) dX10_strength_11 (by decide) (fun q6 => ?_) (fun q6 => ?_)
    · rw [if_neg q6] at hL
      refine g_iload_n dX10_strength_18 rfl rfl ?_
      refine g_iconst (v := 3) dX10_strength_19 (by decide) ?_
      refine g_icmp_ne (tgt := 27) dX10_strength_20 (by decide) (fun q5 => ?_) (fun q5 => ?_)
      · rw [if_neg q5] at hL
        refine g_iload_n dX10_strength_27 rfl rfl ?_
        refine g_bipush (v := 6) dX10_strength_28 (by decide) ?_
        refine g_icmp_eq (tgt := 39) dX10_strength_30 (by decide) (fun q4 => ?_) (fun q4 => ?_)
        · rw [if_pos q4] at hL
          refine g_none 0 ?_
          exact J_X10_strength_39_ok hL 
        · rw [if_neg q4] at hL
          refine g_iload_n dX10_strength_33 rfl rfl ?_
          refine g_bipush (v := 7) dX10_strength_34 (by decide) ?_
          refine g_icmp_ne (tgt := 43) dX10_strength_36 (by decide) (fun q3 => ?_) (fun q3 => ?_)
          · rw [if_neg q3] at hL
            refine g_iload_n dX10_strength_43 rfl rfl ?_
            refine g_bipush (v := 8) dX10_strength_44 (by decide) ?_
            refine g_icmp_eq (tgt := 55) dX10_strength_46 (by decide) (fun q2 => ?_) (fun q2 => ?_)
            · rw [if_pos q2] at hL
              refine g_none 0 ?_
              exact J_X10_strength_55_ok hL 
            · rw [if_neg q2] at hL
              refine g_iload_n dX10_strength_49 rfl rfl ?_
              refine g_none 0 ?_
              refine g_bipush (v := 9) dX10_strength_50 (by decide) ?_
              refine g_icmp_ne (tgt := 59) dX10_strength_52 (by decide) (fun q1 => ?_) (fun q1 => ?_)
              · rw [if_neg q1] at hL
                refine g_bipush (v := 6) dX10_strength_59 (by decide) ?_
                exact J_X10_strength_61_ok hL 
              · rw [if_pos q1] at hL
                exact J_X10_strength_55_ok hL 
          · rw [if_pos q3] at hL
            refine g_none 0 ?_
            exact J_X10_strength_39_ok hL 
      · rw [if_pos q5] at hL
        refine g_none 0 ?_
        refine g_iconst (v := 3) dX10_strength_23 (by decide) ?_
        refine g_goto (tgt := 61) dX10_strength_24 (by decide) ?_
        exact J_X10_strength_61_ok hL 
    · rw [if_pos q6] at hL
      refine g_none 0 ?_
      refine g_iconst (v := 2) dX10_strength_14 (by decide) ?_
      refine g_goto (tgt := 61) dX10_strength_15 (by decide) ?_
      exact J_X10_strength_61_ok hL 
  · rw [if_pos q7] at hL
    refine g_none 0 ?_
    refine g_iconst (v := 1) dX10_strength_5 (by decide) ?_
    refine g_goto (tgt := 61) dX10_strength_6 (by decide) ?_
    exact J_X10_strength_61_ok hL 
def J_X10_drops_68 (w : wS) : Option (wS) :=
  some w
set_option maxRecDepth 20000 in
theorem J_X10_drops_68_ok {G : aG} {Hf : wS → aH} {b : Nat} {w : wS} {r : wS} (E : Emb Hf b 0 tbM) (hL : J_X10_drops_68   w = some r) : AG G M_X10_drops 68 [none, none] [] (Hf w) (.inl none, Hf r) := by
  unfold J_X10_drops_68 at hL
  obtain rfl := Option.some.inj hL
  exact g_vret rfl dX10_drops_68
def B_X10_drops_0 (kh0 : Int32 → wS → Option (wS)) (ke68 : wS → Option (wS)) (x1 : Int32) (w : wS) : Option (wS) :=
  xB (xGet w 31) fun v1 => if v1 ≤ 0 then ke68  w else xB (xGet w 31) fun v2 => xB (xAld w 14 950 ((v2 - 1))) fun v3 => xB (L_X10_isOpen (v3)) fun v4 => if v4 = 0 then xB (xGet w 31) fun v5 => xB (xAld w 14 950 ((v5 - 1))) fun v6 => xB (L_X10_strength (v6)) fun v7 => if v7 < x1 then ke68  w else xB (xGet w 31) fun v8 => xB (xPut w 31 ((v8 - 1))) fun w9 => xB (xGet w9 31) fun v10 => xB (xAld w9 14 950 (v10)) fun v11 => xB (L_X10_puts (v11) w9) fun w12 => kh0 (x1) w12 else ke68  w
set_option maxRecDepth 20000 in
theorem B_X10_drops_0_ok {G : aG} {Hf : wS → aH} {b : Nat} {kh0 : Int32 → wS → Option (wS)} {ke68 : wS → Option (wS)} {x1 : Int32} {w : wS} {r : wS} (E : Emb Hf b 0 tbM) (hL : B_X10_drops_0 kh0 ke68 x1 w = some r) (Hkh0 : ∀ (z0 : Int32) (w : wS), kh0 z0 w = some r → AG G M_X10_drops 0 [some (.ref (b + 0)), some (.int (z0))] [] (Hf w) (.inl none, Hf r)) (Hke68 : ∀ (w : wS), ke68  w = some r → AG G M_X10_drops 68 [none, none] [] (Hf w) (.inl none, Hf r)) : AG G M_X10_drops 0 [some (.ref (b + 0)), some (.int (x1))] [] (Hf w) (.inl none, Hf r) := by
  unfold B_X10_drops_0 at hL
  refine g_aload_n dX10_drops_0 rfl rfl ?_
  refine s_getI (k := 0) (j := 31) E hL rfl rfl f_X10_192 dX10_drops_1 ?_
  intro v1 hL
  refine g_if_le (tgt := 68) dX10_drops_4 (by decide) (fun q15 => ?_) (fun q15 => ?_)
  · rw [if_pos q15] at hL
    refine g_none 0 ?_
    refine g_none 1 ?_
    exact Hke68  _ hL
  · rw [if_neg q15] at hL
    refine g_aload_n dX10_drops_7 rfl rfl ?_
    refine s_getR (j := 39) E rfl rfl f_X10_62 dX10_drops_8 ?_
    refine g_aload_n dX10_drops_11 rfl rfl ?_
    refine s_getI (k := 0) (j := 31) E hL rfl rfl f_X10_192 dX10_drops_12 ?_
    intro v2 hL
    refine g_iconst (v := 1) dX10_drops_15 (by decide) ?_
    refine g_isub dX10_drops_16 ?_
    refine s_iald (k := 14) E hL rfl dX10_drops_17 ?_
    intro v3 hL
    obtain ⟨v4, hc, hL⟩ := xB_some hL
    refine g_callS (M' := M_X10_isOpen) (as := [.int (v3)]) (v := some (.int (v4))) l_X10_195 kS_X10_isOpen (by decide) (C_X10_isOpen hc) rfl (Nat.le_of_ble_eq_true rfl) dX10_drops_18 ?_
    refine g_if_ne (tgt := 68) dX10_drops_21 (by decide) (fun q14 => ?_) (fun q14 => ?_)
    · rw [if_neg q14] at hL
      refine g_none 0 ?_
      refine g_none 1 ?_
      exact Hke68  _ hL
    · rw [if_pos q14] at hL
      refine g_aload_n dX10_drops_24 rfl rfl ?_
      refine s_getR (j := 39) E rfl rfl f_X10_62 dX10_drops_25 ?_
      refine g_aload_n dX10_drops_28 rfl rfl ?_
      refine s_getI (k := 0) (j := 31) E hL rfl rfl f_X10_192 dX10_drops_29 ?_
      intro v5 hL
      refine g_iconst (v := 1) dX10_drops_32 (by decide) ?_
      refine g_isub dX10_drops_33 ?_
      refine s_iald (k := 14) E hL rfl dX10_drops_34 ?_
      intro v6 hL
      obtain ⟨v7, hc, hL⟩ := xB_some hL
      refine g_callS (M' := M_X10_strength) (as := [.int (v6)]) (v := some (.int (v7))) l_X10_198 kS_X10_strength (by decide) (C_X10_strength hc) rfl (Nat.le_of_ble_eq_true rfl) dX10_drops_35 ?_
      refine g_iload_n dX10_drops_38 rfl rfl ?_
      refine g_icmp_lt (tgt := 68) dX10_drops_39 (by decide) (fun q13 => ?_) (fun q13 => ?_)
      · rw [if_pos q13] at hL
        refine g_none 0 ?_
        refine g_none 1 ?_
        exact Hke68  _ hL
      · rw [if_neg q13] at hL
        refine g_aload_n dX10_drops_42 rfl rfl ?_
        refine g_dup dX10_drops_43 rfl ?_
        refine s_getI (k := 0) (j := 31) E hL rfl rfl f_X10_192 dX10_drops_44 ?_
        intro v8 hL
        refine g_iconst (v := 1) dX10_drops_47 (by decide) ?_
        refine g_isub dX10_drops_48 ?_
        refine s_putI (k := 0) (j := 31) E hL rfl rfl (by decide) fw_X10_192 rfl rfl dX10_drops_49 ?_
        intro w9 hL
        refine g_aload_n dX10_drops_52 rfl rfl ?_
        refine g_aload_n dX10_drops_53 rfl rfl ?_
        refine s_getR (j := 39) E rfl rfl f_X10_62 dX10_drops_54 ?_
        refine g_aload_n dX10_drops_57 rfl rfl ?_
        refine s_getI (k := 0) (j := 31) E hL rfl rfl f_X10_192 dX10_drops_58 ?_
        intro v10 hL
        refine s_iald (k := 14) E hL rfl dX10_drops_61 ?_
        intro v11 hL
        obtain ⟨w12, hc, hL⟩ := xB_some hL
        refine g_callV (M' := M_X10_puts) (as := [.int (v11)]) (v := none) l_X10_201 kV_X10_puts (by decide) (C_X10_puts E hc) rfl (by have := E.1; omega) (E.2.1 _ 0 _ rfl) ⟨_, _, rfl⟩ (Nat.le_of_ble_eq_true rfl) dX10_drops_62 ?_
        refine g_goto (tgt := 0) dX10_drops_65 (by decide) ?_
        exact Hkh0 _ _ hL
def P_X10_drops_0 (ke68 : wS → Option (wS)) (n : Nat) (x1 : Int32) (w : wS) : Option (wS) :=
  xLoop (fun (kk : Int32 × wS → Option (wS)) σ => B_X10_drops_0 (fun x1 w => kk (x1, w)) ke68 (σ.1) (σ.2)) n (x1, w)
theorem P_X10_drops_0_ok {G : aG} {Hf : wS → aH} {b : Nat} {ke68 : wS → Option (wS)} {n : Nat} {x1 : Int32} {w : wS} {r : wS} (E : Emb Hf b 0 tbM) (hL : P_X10_drops_0 ke68 n x1 w = some r) (Hke68 : ∀ (w : wS), ke68  w = some r → AG G M_X10_drops 68 [none, none] [] (Hf w) (.inl none, Hf r)) : AG G M_X10_drops 0 [some (.ref (b + 0)), some (.int (x1))] [] (Hf w) (.inl none, Hf r) :=
  xLoop_ok (Q := fun (σ : Int32 × wS) => AG G M_X10_drops 0 [some (.ref (b + 0)), some (.int (σ.1))] [] (Hf σ.2) (.inl none, Hf r)) (fun kk hk σ hσ => B_X10_drops_0_ok E hσ (fun x1 w h9 => hk (x1, w) h9) Hke68) n (x1, w) hL
def L_X10_drops (a1 : Int32) (w : wS) : Option (wS) :=
  P_X10_drops_0 (fun w16 => J_X10_drops_68   w16) 5000 (a1) w
set_option maxRecDepth 20000 in
theorem C_X10_drops {G : aG} {Hf : wS → aH} {b : Nat} {a1 : Int32} {w : wS} {r : wS} (E : Emb Hf b 0 tbM) (hL : L_X10_drops a1 w = some r) : AC G M_X10_drops [.ref (b + 0), .int a1] (Hf w) (.inl none, Hf r) := by
  unfold L_X10_drops at hL
  refine AC.of (by decide) rfl (Nat.le_of_ble_eq_true rfl) ?_
  show AG G M_X10_drops 0 [some (.ref (b + 0)), some (.int (a1))] [] _ _
  refine P_X10_drops_0_ok E hL ?_
  · intro w16 hL
    exact J_X10_drops_68_ok E hL 
def L_X10_waitsFor (a1 : Int32) (w : wS) : Option (wS) :=
  xB (xGet w 31) fun v1 => xB (xAst w 14 950 (v1) (a1)) fun w2 => xB (xGet w2 31) fun v3 => xB (xPut w2 31 ((v3 + 1))) fun w4 => some w4
set_option maxRecDepth 20000 in
theorem C_X10_waitsFor {G : aG} {Hf : wS → aH} {b : Nat} {a1 : Int32} {w : wS} {r : wS} (E : Emb Hf b 0 tbM) (hL : L_X10_waitsFor a1 w = some r) : AC G M_X10_waitsFor [.ref (b + 0), .int a1] (Hf w) (.inl none, Hf r) := by
  unfold L_X10_waitsFor at hL
  refine AC.of (by decide) rfl (Nat.le_of_ble_eq_true rfl) ?_
  show AG G M_X10_waitsFor 0 [some (.ref (b + 0)), some (.int (a1))] [] _ _
  refine g_aload_n dX10_waitsFor_0 rfl rfl ?_
  refine s_getR (j := 39) E rfl rfl f_X10_62 dX10_waitsFor_1 ?_
  refine g_aload_n dX10_waitsFor_4 rfl rfl ?_
  refine s_getI (k := 0) (j := 31) E hL rfl rfl f_X10_192 dX10_waitsFor_5 ?_
  intro v1 hL
  refine g_iload_n dX10_waitsFor_8 rfl rfl ?_
  refine g_none 1 ?_
  refine s_iast (k := 14) E hL rfl dX10_waitsFor_9 ?_
  intro w2 hL
  refine g_aload_n dX10_waitsFor_10 rfl rfl ?_
  refine g_none 0 ?_
  refine g_dup dX10_waitsFor_11 rfl ?_
  refine s_getI (k := 0) (j := 31) E hL rfl rfl f_X10_192 dX10_waitsFor_12 ?_
  intro v3 hL
  refine g_iconst (v := 1) dX10_waitsFor_15 (by decide) ?_
  refine g_iadd dX10_waitsFor_16 ?_
  refine s_putI (k := 0) (j := 31) E hL rfl rfl (by decide) fw_X10_192 rfl rfl dX10_waitsFor_17 ?_
  intro w4 hL
  obtain rfl := Option.some.inj hL
  exact g_vret rfl dX10_waitsFor_20
def J_X10_part_104 (w : wS) : Option (wS) :=
  some w
set_option maxRecDepth 20000 in
theorem J_X10_part_104_ok {G : aG} {Hf : wS → aH} {b : Nat} {w : wS} {r : wS} (E : Emb Hf b 0 tbM) (hL : J_X10_part_104   w = some r) : AG G M_X10_part 104 [none, none] [] (Hf w) (.inl none, Hf r) := by
  unfold J_X10_part_104 at hL
  obtain rfl := Option.some.inj hL
  exact g_vret rfl dX10_part_104
def J_X10_part_93 (w : wS) : Option (wS) :=
  xB2 (L_X10_isGood  w) fun v1 w2 => if v1 = 0 then J_X10_part_104   w2 else xB (L_X10_goes  w2) fun w3 => J_X10_part_104   w3
set_option maxRecDepth 20000 in
theorem J_X10_part_93_ok {G : aG} {Hf : wS → aH} {b : Nat} {w : wS} {r : wS} (E : Emb Hf b 0 tbM) (hL : J_X10_part_93   w = some r) : AG G M_X10_part 93 [some (.ref (b + 0)), none] [] (Hf w) (.inl none, Hf r) := by
  unfold J_X10_part_93 at hL
  refine g_aload_n dX10_part_93 rfl rfl ?_
  obtain ⟨v1, w2, hc, hL⟩ := xB2_some hL
  refine g_callV (M' := M_X10_isGood) (as := []) (v := some (.int (v1))) l_X10_179 kV_X10_isGood (by decide) (C_X10_isGood E hc) rfl (by have := E.1; omega) (E.2.1 _ 0 _ rfl) ⟨_, _, rfl⟩ (Nat.le_of_ble_eq_true rfl) dX10_part_94 ?_
  refine g_if_eq (tgt := 104) dX10_part_97 (by decide) (fun q4 => ?_) (fun q4 => ?_)
  · rw [if_pos q4] at hL
    refine g_none 0 ?_
    exact J_X10_part_104_ok E hL 
  · rw [if_neg q4] at hL
    refine g_aload_n dX10_part_100 rfl rfl ?_
    refine g_none 0 ?_
    obtain ⟨w3, hc, hL⟩ := xB_some hL
    refine g_callV (M' := M_X10_goes) (as := []) (v := none) l_X10_183 kV_X10_goes (by decide) (C_X10_goes E hc) rfl (by have := E.1; omega) (E.2.1 _ 0 _ rfl) ⟨_, _, rfl⟩ (Nat.le_of_ble_eq_true rfl) dX10_part_101 ?_
    exact J_X10_part_104_ok E hL 
def J_X10_part_75 (x1 : Int32) (w : wS) : Option (wS) :=
  xB (L_X10_puts (2) w) fun w5 => xB (L_X10_puts (x1) w5) fun w6 => J_X10_part_93   w6
set_option maxRecDepth 20000 in
theorem J_X10_part_75_ok {G : aG} {Hf : wS → aH} {b : Nat} {x1 : Int32} {w : wS} {r : wS} (E : Emb Hf b 0 tbM) (hL : J_X10_part_75  x1 w = some r) : AG G M_X10_part 75 [some (.ref (b + 0)), some (.int (x1))] [] (Hf w) (.inl none, Hf r) := by
  unfold J_X10_part_75 at hL
  refine g_aload_n dX10_part_75 rfl rfl ?_
  refine g_iconst (v := 2) dX10_part_76 (by decide) ?_
  obtain ⟨w5, hc, hL⟩ := xB_some hL
  refine g_callV (M' := M_X10_puts) (as := [.int (2)]) (v := none) l_X10_201 kV_X10_puts (by decide) (C_X10_puts E hc) rfl (by have := E.1; omega) (E.2.1 _ 0 _ rfl) ⟨_, _, rfl⟩ (Nat.le_of_ble_eq_true rfl) dX10_part_77 ?_
  refine g_aload_n dX10_part_80 rfl rfl ?_
  refine g_iload_n dX10_part_81 rfl rfl ?_
  refine g_none 1 ?_
  obtain ⟨w6, hc, hL⟩ := xB_some hL
  refine g_callV (M' := M_X10_puts) (as := [.int (x1)]) (v := none) l_X10_201 kV_X10_puts (by decide) (C_X10_puts E hc) rfl (by have := E.1; omega) (E.2.1 _ 0 _ rfl) ⟨_, _, rfl⟩ (Nat.le_of_ble_eq_true rfl) dX10_part_82 ?_
  refine g_goto (tgt := 93) dX10_part_85 (by decide) ?_
  exact J_X10_part_93_ok E hL 
def J_X10_part_70 (x1 : Int32) (w : wS) : Option (wS) :=
  xB (L_X10_wrong (3) w) fun w7 => J_X10_part_75  (x1) w7
set_option maxRecDepth 20000 in
theorem J_X10_part_70_ok {G : aG} {Hf : wS → aH} {b : Nat} {x1 : Int32} {w : wS} {r : wS} (E : Emb Hf b 0 tbM) (hL : J_X10_part_70  x1 w = some r) : AG G M_X10_part 70 [some (.ref (b + 0)), some (.int (x1))] [] (Hf w) (.inl none, Hf r) := by
  unfold J_X10_part_70 at hL
  refine g_aload_n dX10_part_70 rfl rfl ?_
  refine g_iconst (v := 3) dX10_part_71 (by decide) ?_
  obtain ⟨w7, hc, hL⟩ := xB_some hL
  refine g_callV (M' := M_X10_wrong) (as := [.int (3)]) (v := none) l_X10_186 kV_X10_wrong (by decide) (C_X10_wrong E hc) rfl (by have := E.1; omega) (E.2.1 _ 0 _ rfl) ⟨_, _, rfl⟩ (Nat.le_of_ble_eq_true rfl) dX10_part_72 ?_
  exact J_X10_part_75_ok E hL 
def J_X10_part_29 (w : wS) : Option (wS) :=
  xB (L_X10_puts (1) w) fun w8 => xB (xGet w8 21) fun v9 => xB (L_X10_puts (v9) w8) fun w10 => J_X10_part_93   w10
set_option maxRecDepth 20000 in
theorem J_X10_part_29_ok {G : aG} {Hf : wS → aH} {b : Nat} {w : wS} {r : wS} (E : Emb Hf b 0 tbM) (hL : J_X10_part_29   w = some r) : AG G M_X10_part 29 [some (.ref (b + 0)), none] [] (Hf w) (.inl none, Hf r) := by
  unfold J_X10_part_29 at hL
  refine g_aload_n dX10_part_29 rfl rfl ?_
  refine g_iconst (v := 1) dX10_part_30 (by decide) ?_
  obtain ⟨w8, hc, hL⟩ := xB_some hL
  refine g_callV (M' := M_X10_puts) (as := [.int (1)]) (v := none) l_X10_201 kV_X10_puts (by decide) (C_X10_puts E hc) rfl (by have := E.1; omega) (E.2.1 _ 0 _ rfl) ⟨_, _, rfl⟩ (Nat.le_of_ble_eq_true rfl) dX10_part_31 ?_
  refine g_aload_n dX10_part_34 rfl rfl ?_
  refine g_aload_n dX10_part_35 rfl rfl ?_
  refine s_getI (k := 0) (j := 21) E hL rfl rfl f_X10_147 dX10_part_36 ?_
  intro v9 hL
  obtain ⟨w10, hc, hL⟩ := xB_some hL
  refine g_callV (M' := M_X10_puts) (as := [.int (v9)]) (v := none) l_X10_201 kV_X10_puts (by decide) (C_X10_puts E hc) rfl (by have := E.1; omega) (E.2.1 _ 0 _ rfl) ⟨_, _, rfl⟩ (Nat.le_of_ble_eq_true rfl) dX10_part_39 ?_
  refine g_goto (tgt := 93) dX10_part_42 (by decide) ?_
  exact J_X10_part_93_ok E hL 
def L_X10_part (w : wS) : Option (wS) :=
  xB2 (L_X10_isGood  w) fun v11 w12 => if v11 = 0 then some w12 else xB (xGet w12 18) fun v13 => if v13 = 2 then xB (xGet w12 20) fun v22 => if v22 ≤ 4 then J_X10_part_29   w12 else xB (L_X10_wrong (2) w12) fun w23 => J_X10_part_29   w23 else xB (xGet w12 18) fun v14 => if v14 = 1 then xB2 (L_X10_knownWord  w12) fun v16 w17 => if v16 < 0 then J_X10_part_70  (v16) w17 else xB (xGet w17 30) fun v18 => if v16 ≤ v18 then J_X10_part_75  (v16) w17 else J_X10_part_70  (v16) w17 else xB (L_X10_wrong (1) w12) fun w15 => J_X10_part_93   w15
set_option maxRecDepth 20000 in
theorem C_X10_part {G : aG} {Hf : wS → aH} {b : Nat} {w : wS} {r : wS} (E : Emb Hf b 0 tbM) (hL : L_X10_part  w = some r) : AC G M_X10_part [.ref (b + 0)] (Hf w) (.inl none, Hf r) := by
  unfold L_X10_part at hL
  refine AC.of (by decide) rfl (Nat.le_of_ble_eq_true rfl) ?_
  show AG G M_X10_part 0 [some (.ref (b + 0)), none] [] _ _
  refine g_aload_n dX10_part_0 rfl rfl ?_
  obtain ⟨v11, w12, hc, hL⟩ := xB2_some hL
  refine g_callV (M' := M_X10_isGood) (as := []) (v := some (.int (v11))) l_X10_179 kV_X10_isGood (by decide) (C_X10_isGood E hc) rfl (by have := E.1; omega) (E.2.1 _ 0 _ rfl) ⟨_, _, rfl⟩ (Nat.le_of_ble_eq_true rfl) dX10_part_1 ?_
  refine g_if_ne (tgt := 8) dX10_part_4 (by decide) (fun q26 => ?_) (fun q26 => ?_)
  · rw [if_neg q26] at hL
    refine g_aload_n dX10_part_8 rfl rfl ?_
    refine s_getI (k := 0) (j := 18) E hL rfl rfl f_X10_153 dX10_part_9 ?_
    intro v13 hL
    refine g_iconst (v := 2) dX10_part_12 (by decide) ?_
    refine g_icmp_ne (tgt := 45) dX10_part_13 (by decide) (fun q25 => ?_) (fun q25 => ?_)
    · rw [if_neg q25] at hL
      refine g_aload_n dX10_part_45 rfl rfl ?_
      refine s_getI (k := 0) (j := 18) E hL rfl rfl f_X10_153 dX10_part_46 ?_
      intro v14 hL
      refine g_iconst (v := 1) dX10_part_49 (by decide) ?_
      refine g_icmp_ne (tgt := 88) dX10_part_50 (by decide) (fun q21 => ?_) (fun q21 => ?_)
      · rw [if_neg q21] at hL
        refine g_aload_n dX10_part_88 rfl rfl ?_
        refine g_iconst (v := 1) dX10_part_89 (by decide) ?_
        obtain ⟨w15, hc, hL⟩ := xB_some hL
        refine g_callV (M' := M_X10_wrong) (as := [.int (1)]) (v := none) l_X10_186 kV_X10_wrong (by decide) (C_X10_wrong E hc) rfl (by have := E.1; omega) (E.2.1 _ 0 _ rfl) ⟨_, _, rfl⟩ (Nat.le_of_ble_eq_true rfl) dX10_part_90 ?_
        exact J_X10_part_93_ok E hL 
      · rw [if_pos q21] at hL
        refine g_aload_n dX10_part_53 rfl rfl ?_
        obtain ⟨v16, w17, hc, hL⟩ := xB2_some hL
        refine g_callV (M' := M_X10_knownWord) (as := []) (v := some (.int (v16))) l_X10_204 kV_X10_knownWord (by decide) (C_X10_knownWord E hc) rfl (by have := E.1; omega) (E.2.1 _ 0 _ rfl) ⟨_, _, rfl⟩ (Nat.le_of_ble_eq_true rfl) dX10_part_54 ?_
        refine g_istore_n (i := 1) dX10_part_57 rfl (by decide) rfl ?_
        refine g_iload_n dX10_part_58 rfl rfl ?_
        refine g_if_lt (tgt := 70) dX10_part_59 (by decide) (fun q20 => ?_) (fun q20 => ?_)
        · rw [if_pos q20] at hL
          exact J_X10_part_70_ok E hL 
        · rw [if_neg q20] at hL
          refine g_iload_n dX10_part_62 rfl rfl ?_
          refine g_aload_n dX10_part_63 rfl rfl ?_
          refine s_getI (k := 0) (j := 30) E hL rfl rfl f_X10_208 dX10_part_64 ?_
          intro v18 hL
          refine g_icmp_le (tgt := 75) dX10_part_67 (by decide) (fun q19 => ?_) (fun q19 => ?_)
          · rw [if_pos q19] at hL
            exact J_X10_part_75_ok E hL 
          · rw [if_neg q19] at hL
            exact J_X10_part_70_ok E hL 
    · rw [if_pos q25] at hL
      refine g_aload_n dX10_part_16 rfl rfl ?_
      refine s_getI (k := 0) (j := 20) E hL rfl rfl f_X10_163 dX10_part_17 ?_
      intro v22 hL
      refine g_iconst (v := 4) dX10_part_20 (by decide) ?_
      refine g_icmp_le (tgt := 29) dX10_part_21 (by decide) (fun q24 => ?_) (fun q24 => ?_)
      · rw [if_pos q24] at hL
        exact J_X10_part_29_ok E hL 
      · rw [if_neg q24] at hL
        refine g_aload_n dX10_part_24 rfl rfl ?_
        refine g_iconst (v := 2) dX10_part_25 (by decide) ?_
        obtain ⟨w23, hc, hL⟩ := xB_some hL
        refine g_callV (M' := M_X10_wrong) (as := [.int (2)]) (v := none) l_X10_186 kV_X10_wrong (by decide) (C_X10_wrong E hc) rfl (by have := E.1; omega) (E.2.1 _ 0 _ rfl) ⟨_, _, rfl⟩ (Nat.le_of_ble_eq_true rfl) dX10_part_26 ?_
        exact J_X10_part_29_ok E hL 
  · rw [if_pos q26] at hL
    refine g_none 0 ?_
    obtain rfl := Option.some.inj hL
    exact g_vret rfl dX10_part_7
def J_X10_deeper_61 (y1 : Int32) (w : wS) : Option (wS) :=
  xB (L_X10_wrong (y1) w) fun w1 => some w1
set_option maxRecDepth 20000 in
theorem J_X10_deeper_61_ok {G : aG} {Hf : wS → aH} {b : Nat} {y1 : Int32} {w : wS} {r : wS} (E : Emb Hf b 0 tbM) (hL : J_X10_deeper_61  y1 w = some r) : AG G M_X10_deeper 61 [none] [.int (y1), .ref (b + 0)] (Hf w) (.inl none, Hf r) := by
  unfold J_X10_deeper_61 at hL
  obtain ⟨w1, hc, hL⟩ := xB_some hL
  refine g_callV (M' := M_X10_wrong) (as := [.int (y1)]) (v := none) l_X10_186 kV_X10_wrong (by decide) (C_X10_wrong E hc) rfl (by have := E.1; omega) (E.2.1 _ 0 _ rfl) ⟨_, _, rfl⟩ (Nat.le_of_ble_eq_true rfl) dX10_deeper_61 ?_
  obtain rfl := Option.some.inj hL
  exact g_vret rfl dX10_deeper_64
def J_X10_deeper_56 (w : wS) : Option (wS) :=
  J_X10_deeper_61  (2) w
set_option maxRecDepth 20000 in
theorem J_X10_deeper_56_ok {G : aG} {Hf : wS → aH} {b : Nat} {w : wS} {r : wS} (E : Emb Hf b 0 tbM) (hL : J_X10_deeper_56   w = some r) : AG G M_X10_deeper 56 [none] [.ref (b + 0)] (Hf w) (.inl none, Hf r) := by
  unfold J_X10_deeper_56 at hL
  refine g_iconst (v := 2) dX10_deeper_56 (by decide) ?_
  refine g_goto (tgt := 61) dX10_deeper_57 (by decide) ?_
  exact J_X10_deeper_61_ok E hL 
def L_X10_deeper (w : wS) : Option (wS) :=
  xB (xGet w 32) fun v2 => if 6 ≤ v2 then xB (xGet w 18) fun v3 => if v3 = 2 then J_X10_deeper_56   w else xB (xGet w 18) fun v4 => if v4 = 1 then J_X10_deeper_56   w else xB2 (L_X10_isSign (40) w) fun v5 w6 => if v5 = 0 then J_X10_deeper_61  (1) w6 else J_X10_deeper_56   w6 else xB (xGet w 32) fun v10 => xB (xPut w 32 ((v10 + 1))) fun w11 => xB (xGet w11 32) fun v12 => xB (xAst w11 15 9 (v12) (vp_nar .boolean (0))) fun w13 => some w13
set_option maxRecDepth 20000 in
theorem C_X10_deeper {G : aG} {Hf : wS → aH} {b : Nat} {w : wS} {r : wS} (E : Emb Hf b 0 tbM) (hL : L_X10_deeper  w = some r) : AC G M_X10_deeper [.ref (b + 0)] (Hf w) (.inl none, Hf r) := by
  unfold L_X10_deeper at hL
  refine AC.of (by decide) rfl (Nat.le_of_ble_eq_true rfl) ?_
  show AG G M_X10_deeper 0 [some (.ref (b + 0))] [] _ _
  refine g_aload_n dX10_deeper_0 rfl rfl ?_
  refine s_getI (k := 0) (j := 32) E hL rfl rfl f_X10_211 dX10_deeper_1 ?_
  intro v2 hL
  refine g_bipush (v := 6) dX10_deeper_4 (by decide) ?_
  refine g_icmp_ge (tgt := 30) dX10_deeper_6 (by decide) (fun q14 => ?_) (fun q14 => ?_)
  · rw [if_pos q14] at hL
    refine g_aload_n dX10_deeper_30 rfl rfl ?_
    refine g_aload_n dX10_deeper_31 rfl rfl ?_
    refine s_getI (k := 0) (j := 18) E hL rfl rfl f_X10_153 dX10_deeper_32 ?_
    intro v3 hL
    refine g_iconst (v := 2) dX10_deeper_35 (by decide) ?_
    refine g_icmp_eq (tgt := 56) dX10_deeper_36 (by decide) (fun q9 => ?_) (fun q9 => ?_)
    · rw [if_pos q9] at hL
      refine g_none 0 ?_
      exact J_X10_deeper_56_ok E hL 
    · rw [if_neg q9] at hL
      refine g_aload_n dX10_deeper_39 rfl rfl ?_
      refine s_getI (k := 0) (j := 18) E hL rfl rfl f_X10_153 dX10_deeper_40 ?_
      intro v4 hL
      refine g_iconst (v := 1) dX10_deeper_43 (by decide) ?_
      refine g_icmp_eq (tgt := 56) dX10_deeper_44 (by decide) (fun q8 => ?_) (fun q8 => ?_)
      · rw [if_pos q8] at hL
        refine g_none 0 ?_
        exact J_X10_deeper_56_ok E hL 
      · rw [if_neg q8] at hL
        refine g_aload_n dX10_deeper_47 rfl rfl ?_
        refine g_none 0 ?_
        refine g_bipush (v := 40) dX10_deeper_48 (by decide) ?_
        obtain ⟨v5, w6, hc, hL⟩ := xB2_some hL
        refine g_callV (M' := M_X10_isSign) (as := [.int (40)]) (v := some (.int (v5))) l_X10_214 kV_X10_isSign (by decide) (C_X10_isSign E hc) rfl (by have := E.1; omega) (E.2.1 _ 0 _ rfl) ⟨_, _, rfl⟩ (Nat.le_of_ble_eq_true rfl) dX10_deeper_50 ?_
        refine g_if_eq (tgt := 60) dX10_deeper_53 (by decide) (fun q7 => ?_) (fun q7 => ?_)
        · rw [if_pos q7] at hL
          refine g_iconst (v := 1) dX10_deeper_60 (by decide) ?_
          exact J_X10_deeper_61_ok E hL 
        · rw [if_neg q7] at hL
          exact J_X10_deeper_56_ok E hL 
  · rw [if_neg q14] at hL
    refine g_aload_n dX10_deeper_9 rfl rfl ?_
    refine g_dup dX10_deeper_10 rfl ?_
    refine s_getI (k := 0) (j := 32) E hL rfl rfl f_X10_211 dX10_deeper_11 ?_
    intro v10 hL
    refine g_iconst (v := 1) dX10_deeper_14 (by decide) ?_
    refine g_iadd dX10_deeper_15 ?_
    refine s_putI (k := 0) (j := 32) E hL rfl rfl (by decide) fw_X10_211 rfl rfl dX10_deeper_16 ?_
    intro w11 hL
    refine g_aload_n dX10_deeper_19 rfl rfl ?_
    refine s_getR (j := 40) E rfl rfl f_X10_65 dX10_deeper_20 ?_
    refine g_aload_n dX10_deeper_23 rfl rfl ?_
    refine g_none 0 ?_
    refine s_getI (k := 0) (j := 32) E hL rfl rfl f_X10_211 dX10_deeper_24 ?_
    intro v12 hL
    refine g_iconst (v := 0) dX10_deeper_27 (by decide) ?_
    refine s_zast (k := 15) E hL rfl dX10_deeper_28 ?_
    intro w13 hL
    obtain rfl := Option.some.inj hL
    exact g_vret rfl dX10_deeper_29
def J_X10_operand_120 (w : wS) : Option (wS) :=
  xB (L_X10_part  w) fun w1 => some w1
set_option maxRecDepth 20000 in
theorem J_X10_operand_120_ok {G : aG} {Hf : wS → aH} {b : Nat} {w : wS} {r : wS} (E : Emb Hf b 0 tbM) (hL : J_X10_operand_120   w = some r) : AG G M_X10_operand 120 [some (.ref (b + 0)), none, none, none, none] [] (Hf w) (.inl none, Hf r) := by
  unfold J_X10_operand_120 at hL
  refine g_aload_n dX10_operand_120 rfl rfl ?_
  refine g_none 0 ?_
  obtain ⟨w1, hc, hL⟩ := xB_some hL
  refine g_callV (M' := M_X10_part) (as := []) (v := none) l_X10_223 kV_X10_part (by decide) (C_X10_part E hc) rfl (by have := E.1; omega) (E.2.1 _ 0 _ rfl) ⟨_, _, rfl⟩ (Nat.le_of_ble_eq_true rfl) dX10_operand_121 ?_
  obtain rfl := Option.some.inj hL
  exact g_vret rfl dX10_operand_124
def J_X10_operand_117 (kh4 : Int32 → Int32 → wS → Option (wS)) (ke120 : wS → Option (wS)) (x2 : Int32) (x3 : Int32) (w : wS) : Option (wS) :=
  kh4 (x2) (x3) w
set_option maxRecDepth 20000 in
theorem J_X10_operand_117_ok {G : aG} {Hf : wS → aH} {b : Nat} {kh4 : Int32 → Int32 → wS → Option (wS)} {ke120 : wS → Option (wS)} {x2 : Int32} {x3 : Int32} {w : wS} {r : wS} (E : Emb Hf b 0 tbM) (hL : J_X10_operand_117 kh4 ke120 x2 x3 w = some r) (Hkh4 : ∀ (z0 : Int32) (z1 : Int32) (w : wS), kh4 z0 z1 w = some r → AG G M_X10_operand 4 [some (.ref (b + 0)), none, some (.int (z0)), some (.int (z1)), none] [] (Hf w) (.inl none, Hf r)) (Hke120 : ∀ (w : wS), ke120  w = some r → AG G M_X10_operand 120 [some (.ref (b + 0)), none, none, none, none] [] (Hf w) (.inl none, Hf r)) : AG G M_X10_operand 117 [some (.ref (b + 0)), none, some (.int (x2)), some (.int (x3)), none] [] (Hf w) (.inl none, Hf r) := by
  unfold J_X10_operand_117 at hL
  refine g_goto (tgt := 4) dX10_operand_117 (by decide) ?_
  exact Hkh4 _ _ _ hL
def J_X10_operand_96 (kh4 : Int32 → Int32 → wS → Option (wS)) (ke120 : wS → Option (wS)) (x2 : Int32) (y0 : Int32) (w : wS) : Option (wS) :=
  if y0 = 0 then J_X10_operand_117 kh4 ke120 (x2) (y0) w else xB (L_X10_waitsFor (14) w) fun w2 => xB (L_X10_goes  w2) fun w3 => xB (L_X10_deeper  w3) fun w4 => J_X10_operand_117 kh4 ke120 (1) (y0) w4
set_option maxRecDepth 20000 in
theorem J_X10_operand_96_ok {G : aG} {Hf : wS → aH} {b : Nat} {kh4 : Int32 → Int32 → wS → Option (wS)} {ke120 : wS → Option (wS)} {x2 : Int32} {y0 : Int32} {w : wS} {r : wS} (E : Emb Hf b 0 tbM) (hL : J_X10_operand_96 kh4 ke120 x2 y0 w = some r) (Hkh4 : ∀ (z0 : Int32) (z1 : Int32) (w : wS), kh4 z0 z1 w = some r → AG G M_X10_operand 4 [some (.ref (b + 0)), none, some (.int (z0)), some (.int (z1)), none] [] (Hf w) (.inl none, Hf r)) (Hke120 : ∀ (w : wS), ke120  w = some r → AG G M_X10_operand 120 [some (.ref (b + 0)), none, none, none, none] [] (Hf w) (.inl none, Hf r)) : AG G M_X10_operand 96 [some (.ref (b + 0)), none, some (.int (x2)), none, none] [.int (y0)] (Hf w) (.inl none, Hf r) := by
  unfold J_X10_operand_96 at hL
  refine g_istore_n (i := 3) dX10_operand_96 rfl (by decide) rfl ?_
  refine g_iload_n dX10_operand_97 rfl rfl ?_
  refine g_if_eq (tgt := 117) dX10_operand_98 (by decide) (fun q5 => ?_) (fun q5 => ?_)
  · rw [if_pos q5] at hL
    exact J_X10_operand_117_ok E hL Hkh4 Hke120
  · rw [if_neg q5] at hL
    refine g_none 2 ?_
    refine g_aload_n dX10_operand_101 rfl rfl ?_
    refine g_bipush (v := 14) dX10_operand_102 (by decide) ?_
    obtain ⟨w2, hc, hL⟩ := xB_some hL
    refine g_callV (M' := M_X10_waitsFor) (as := [.int (14)]) (v := none) l_X10_217 kV_X10_waitsFor (by decide) (C_X10_waitsFor E hc) rfl (by have := E.1; omega) (E.2.1 _ 0 _ rfl) ⟨_, _, rfl⟩ (Nat.le_of_ble_eq_true rfl) dX10_operand_104 ?_
    refine g_aload_n dX10_operand_107 rfl rfl ?_
    obtain ⟨w3, hc, hL⟩ := xB_some hL
    refine g_callV (M' := M_X10_goes) (as := []) (v := none) l_X10_183 kV_X10_goes (by decide) (C_X10_goes E hc) rfl (by have := E.1; omega) (E.2.1 _ 0 _ rfl) ⟨_, _, rfl⟩ (Nat.le_of_ble_eq_true rfl) dX10_operand_108 ?_
    refine g_aload_n dX10_operand_111 rfl rfl ?_
    obtain ⟨w4, hc, hL⟩ := xB_some hL
    refine g_callV (M' := M_X10_deeper) (as := []) (v := none) l_X10_220 kV_X10_deeper (by decide) (C_X10_deeper E hc) rfl (by have := E.1; omega) (E.2.1 _ 0 _ rfl) ⟨_, _, rfl⟩ (Nat.le_of_ble_eq_true rfl) dX10_operand_112 ?_
    refine g_iconst (v := 1) dX10_operand_115 (by decide) ?_
    refine g_istore_n (i := 2) dX10_operand_116 rfl (by decide) rfl ?_
    exact J_X10_operand_117_ok E hL Hkh4 Hke120
def J_X10_operand_95 (kh4 : Int32 → Int32 → wS → Option (wS)) (ke120 : wS → Option (wS)) (x2 : Int32) (w : wS) : Option (wS) :=
  J_X10_operand_96 kh4 ke120 (x2) (0) w
set_option maxRecDepth 20000 in
theorem J_X10_operand_95_ok {G : aG} {Hf : wS → aH} {b : Nat} {kh4 : Int32 → Int32 → wS → Option (wS)} {ke120 : wS → Option (wS)} {x2 : Int32} {w : wS} {r : wS} (E : Emb Hf b 0 tbM) (hL : J_X10_operand_95 kh4 ke120 x2 w = some r) (Hkh4 : ∀ (z0 : Int32) (z1 : Int32) (w : wS), kh4 z0 z1 w = some r → AG G M_X10_operand 4 [some (.ref (b + 0)), none, some (.int (z0)), some (.int (z1)), none] [] (Hf w) (.inl none, Hf r)) (Hke120 : ∀ (w : wS), ke120  w = some r → AG G M_X10_operand 120 [some (.ref (b + 0)), none, none, none, none] [] (Hf w) (.inl none, Hf r)) : AG G M_X10_operand 95 [some (.ref (b + 0)), none, some (.int (x2)), none, none] [] (Hf w) (.inl none, Hf r) := by
  unfold J_X10_operand_95 at hL
  refine g_iconst (v := 0) dX10_operand_95 (by decide) ?_
  exact J_X10_operand_96_ok E hL Hkh4 Hke120
def J_X10_operand_75 (kh4 : Int32 → Int32 → wS → Option (wS)) (ke120 : wS → Option (wS)) (x2 : Int32) (w : wS) : Option (wS) :=
  xB2 (L_X10_isGood  w) fun v6 w7 => if v6 = 0 then J_X10_operand_95 kh4 ke120 (x2) w7 else xB2 (L_X10_isSign (40) w7) fun v8 w9 => if v8 = 0 then J_X10_operand_95 kh4 ke120 (x2) w9 else J_X10_operand_96 kh4 ke120 (x2) (1) w9
set_option maxRecDepth 20000 in
theorem J_X10_operand_75_ok {G : aG} {Hf : wS → aH} {b : Nat} {kh4 : Int32 → Int32 → wS → Option (wS)} {ke120 : wS → Option (wS)} {x2 : Int32} {w : wS} {r : wS} (E : Emb Hf b 0 tbM) (hL : J_X10_operand_75 kh4 ke120 x2 w = some r) (Hkh4 : ∀ (z0 : Int32) (z1 : Int32) (w : wS), kh4 z0 z1 w = some r → AG G M_X10_operand 4 [some (.ref (b + 0)), none, some (.int (z0)), some (.int (z1)), none] [] (Hf w) (.inl none, Hf r)) (Hke120 : ∀ (w : wS), ke120  w = some r → AG G M_X10_operand 120 [some (.ref (b + 0)), none, none, none, none] [] (Hf w) (.inl none, Hf r)) : AG G M_X10_operand 75 [some (.ref (b + 0)), none, some (.int (x2)), none, none] [] (Hf w) (.inl none, Hf r) := by
  unfold J_X10_operand_75 at hL
  refine g_aload_n dX10_operand_75 rfl rfl ?_
  obtain ⟨v6, w7, hc, hL⟩ := xB2_some hL
  refine g_callV (M' := M_X10_isGood) (as := []) (v := some (.int (v6))) l_X10_179 kV_X10_isGood (by decide) (C_X10_isGood E hc) rfl (by have := E.1; omega) (E.2.1 _ 0 _ rfl) ⟨_, _, rfl⟩ (Nat.le_of_ble_eq_true rfl) dX10_operand_76 ?_
  refine g_if_eq (tgt := 95) dX10_operand_79 (by decide) (fun q11 => ?_) (fun q11 => ?_)
  · rw [if_pos q11] at hL
    exact J_X10_operand_95_ok E hL Hkh4 Hke120
  · rw [if_neg q11] at hL
    refine g_aload_n dX10_operand_82 rfl rfl ?_
    refine g_bipush (v := 40) dX10_operand_83 (by decide) ?_
    obtain ⟨v8, w9, hc, hL⟩ := xB2_some hL
    refine g_callV (M' := M_X10_isSign) (as := [.int (40)]) (v := some (.int (v8))) l_X10_214 kV_X10_isSign (by decide) (C_X10_isSign E hc) rfl (by have := E.1; omega) (E.2.1 _ 0 _ rfl) ⟨_, _, rfl⟩ (Nat.le_of_ble_eq_true rfl) dX10_operand_85 ?_
    refine g_if_eq (tgt := 95) dX10_operand_88 (by decide) (fun q10 => ?_) (fun q10 => ?_)
    · rw [if_pos q10] at hL
      exact J_X10_operand_95_ok E hL Hkh4 Hke120
    · rw [if_neg q10] at hL
      refine g_iconst (v := 1) dX10_operand_91 (by decide) ?_
      refine g_goto (tgt := 96) dX10_operand_92 (by decide) ?_
      exact J_X10_operand_96_ok E hL Hkh4 Hke120
def J_X10_operand_50 (kh18 : Int32 → Int32 → wS → Option (wS)) (ke75 : Int32 → wS → Option (wS)) (x2 : Int32) (x4 : Int32) (w : wS) : Option (wS) :=
  xB2 (L_X10_isGood  w) fun v12 w13 => if v12 = 0 then kh18 (x2) ((x4 + 1)) w13 else xB (L_X10_waitsFor (3) w13) fun w14 => xB (L_X10_goes  w14) fun w15 => kh18 (x2) ((x4 + 1)) w15
set_option maxRecDepth 20000 in
theorem J_X10_operand_50_ok {G : aG} {Hf : wS → aH} {b : Nat} {kh18 : Int32 → Int32 → wS → Option (wS)} {ke75 : Int32 → wS → Option (wS)} {x2 : Int32} {x4 : Int32} {w : wS} {r : wS} (E : Emb Hf b 0 tbM) (hL : J_X10_operand_50 kh18 ke75 x2 x4 w = some r) (Hkh18 : ∀ (z0 : Int32) (z1 : Int32) (w : wS), kh18 z0 z1 w = some r → AG G M_X10_operand 18 [some (.ref (b + 0)), none, some (.int (z0)), none, some (.int (z1))] [] (Hf w) (.inl none, Hf r)) (Hke75 : ∀ (z0 : Int32) (w : wS), ke75 z0 w = some r → AG G M_X10_operand 75 [some (.ref (b + 0)), none, some (.int (z0)), none, none] [] (Hf w) (.inl none, Hf r)) : AG G M_X10_operand 50 [some (.ref (b + 0)), none, some (.int (x2)), none, some (.int (x4))] [] (Hf w) (.inl none, Hf r) := by
  unfold J_X10_operand_50 at hL
  refine g_iincV (v := (x4 + 1)) dX10_operand_50 rfl rfl (by decide) rfl ?_
  refine g_aload_n dX10_operand_53 rfl rfl ?_
  obtain ⟨v12, w13, hc, hL⟩ := xB2_some hL
  refine g_callV (M' := M_X10_isGood) (as := []) (v := some (.int (v12))) l_X10_179 kV_X10_isGood (by decide) (C_X10_isGood E hc) rfl (by have := E.1; omega) (E.2.1 _ 0 _ rfl) ⟨_, _, rfl⟩ (Nat.le_of_ble_eq_true rfl) dX10_operand_54 ?_
  refine g_if_ne (tgt := 63) dX10_operand_57 (by decide) (fun q16 => ?_) (fun q16 => ?_)
  · rw [if_neg q16] at hL
    refine g_aload_n dX10_operand_63 rfl rfl ?_
    refine g_iconst (v := 3) dX10_operand_64 (by decide) ?_
    obtain ⟨w14, hc, hL⟩ := xB_some hL
    refine g_callV (M' := M_X10_waitsFor) (as := [.int (3)]) (v := none) l_X10_217 kV_X10_waitsFor (by decide) (C_X10_waitsFor E hc) rfl (by have := E.1; omega) (E.2.1 _ 0 _ rfl) ⟨_, _, rfl⟩ (Nat.le_of_ble_eq_true rfl) dX10_operand_65 ?_
    refine g_aload_n dX10_operand_68 rfl rfl ?_
    obtain ⟨w15, hc, hL⟩ := xB_some hL
    refine g_callV (M' := M_X10_goes) (as := []) (v := none) l_X10_183 kV_X10_goes (by decide) (C_X10_goes E hc) rfl (by have := E.1; omega) (E.2.1 _ 0 _ rfl) ⟨_, _, rfl⟩ (Nat.le_of_ble_eq_true rfl) dX10_operand_69 ?_
    refine g_goto (tgt := 18) dX10_operand_72 (by decide) ?_
    exact Hkh18 _ _ _ hL
  · rw [if_pos q16] at hL
    refine g_goto (tgt := 18) dX10_operand_60 (by decide) ?_
    exact Hkh18 _ _ _ hL
def B_X10_operand_18 (kh18 : Int32 → Int32 → wS → Option (wS)) (ke75 : Int32 → wS → Option (wS)) (x2 : Int32) (x4 : Int32) (w : wS) : Option (wS) :=
  xB2 (L_X10_isGood  w) fun v17 w18 => if v17 = 0 then ke75 (x2) w18 else if x2 = 0 then ke75 (x2) w18 else xB2 (L_X10_knownWord  w18) fun v19 w20 => if v19 = 15 then if x4 = 6 then xB (L_X10_wrong (2) w20) fun w21 => J_X10_operand_50 kh18 ke75 (x2) (x4) w21 else J_X10_operand_50 kh18 ke75 (x2) (x4) w20 else ke75 (x2) w20
set_option maxRecDepth 20000 in
theorem B_X10_operand_18_ok {G : aG} {Hf : wS → aH} {b : Nat} {kh18 : Int32 → Int32 → wS → Option (wS)} {ke75 : Int32 → wS → Option (wS)} {x2 : Int32} {x4 : Int32} {w : wS} {r : wS} (E : Emb Hf b 0 tbM) (hL : B_X10_operand_18 kh18 ke75 x2 x4 w = some r) (Hkh18 : ∀ (z0 : Int32) (z1 : Int32) (w : wS), kh18 z0 z1 w = some r → AG G M_X10_operand 18 [some (.ref (b + 0)), none, some (.int (z0)), none, some (.int (z1))] [] (Hf w) (.inl none, Hf r)) (Hke75 : ∀ (z0 : Int32) (w : wS), ke75 z0 w = some r → AG G M_X10_operand 75 [some (.ref (b + 0)), none, some (.int (z0)), none, none] [] (Hf w) (.inl none, Hf r)) : AG G M_X10_operand 18 [some (.ref (b + 0)), none, some (.int (x2)), none, some (.int (x4))] [] (Hf w) (.inl none, Hf r) := by
  unfold B_X10_operand_18 at hL
  refine g_aload_n dX10_operand_18 rfl rfl ?_
  obtain ⟨v17, w18, hc, hL⟩ := xB2_some hL
  refine g_callV (M' := M_X10_isGood) (as := []) (v := some (.int (v17))) l_X10_179 kV_X10_isGood (by decide) (C_X10_isGood E hc) rfl (by have := E.1; omega) (E.2.1 _ 0 _ rfl) ⟨_, _, rfl⟩ (Nat.le_of_ble_eq_true rfl) dX10_operand_19 ?_
  refine g_if_eq (tgt := 75) dX10_operand_22 (by decide) (fun q25 => ?_) (fun q25 => ?_)
  · rw [if_pos q25] at hL
    refine g_none 4 ?_
    exact Hke75 _ _ hL
  · rw [if_neg q25] at hL
    refine g_iload_n dX10_operand_25 rfl rfl ?_
    refine g_if_eq (tgt := 75) dX10_operand_26 (by decide) (fun q24 => ?_) (fun q24 => ?_)
    · rw [if_pos q24] at hL
      refine g_none 4 ?_
      exact Hke75 _ _ hL
    · rw [if_neg q24] at hL
      refine g_aload_n dX10_operand_29 rfl rfl ?_
      obtain ⟨v19, w20, hc, hL⟩ := xB2_some hL
      refine g_callV (M' := M_X10_knownWord) (as := []) (v := some (.int (v19))) l_X10_204 kV_X10_knownWord (by decide) (C_X10_knownWord E hc) rfl (by have := E.1; omega) (E.2.1 _ 0 _ rfl) ⟨_, _, rfl⟩ (Nat.le_of_ble_eq_true rfl) dX10_operand_30 ?_
      refine g_bipush (v := 15) dX10_operand_33 (by decide) ?_
      refine g_icmp_ne (tgt := 75) dX10_operand_35 (by decide) (fun q23 => ?_) (fun q23 => ?_)
      · rw [if_neg q23] at hL
        refine g_none 4 ?_
        exact Hke75 _ _ hL
      · rw [if_pos q23] at hL
        refine g_iload dX10_operand_38 rfl ?_
        refine g_bipush (v := 6) dX10_operand_40 (by decide) ?_
        refine g_icmp_ne (tgt := 50) dX10_operand_42 (by decide) (fun q22 => ?_) (fun q22 => ?_)
        · rw [if_neg q22] at hL
          exact J_X10_operand_50_ok E hL Hkh18 Hke75
        · rw [if_pos q22] at hL
          refine g_aload_n dX10_operand_45 rfl rfl ?_
          refine g_iconst (v := 2) dX10_operand_46 (by decide) ?_
          obtain ⟨w21, hc, hL⟩ := xB_some hL
          refine g_callV (M' := M_X10_wrong) (as := [.int (2)]) (v := none) l_X10_186 kV_X10_wrong (by decide) (C_X10_wrong E hc) rfl (by have := E.1; omega) (E.2.1 _ 0 _ rfl) ⟨_, _, rfl⟩ (Nat.le_of_ble_eq_true rfl) dX10_operand_47 ?_
          exact J_X10_operand_50_ok E hL Hkh18 Hke75
def P_X10_operand_18 (ke75 : Int32 → wS → Option (wS)) (n : Nat) (x2 : Int32) (x4 : Int32) (w : wS) : Option (wS) :=
  xLoop (fun (kk : Int32 × Int32 × wS → Option (wS)) σ => B_X10_operand_18 (fun x2 x4 w => kk (x2, x4, w)) ke75 (σ.1) (σ.2.1) (σ.2.2)) n (x2, x4, w)
theorem P_X10_operand_18_ok {G : aG} {Hf : wS → aH} {b : Nat} {ke75 : Int32 → wS → Option (wS)} {n : Nat} {x2 : Int32} {x4 : Int32} {w : wS} {r : wS} (E : Emb Hf b 0 tbM) (hL : P_X10_operand_18 ke75 n x2 x4 w = some r) (Hke75 : ∀ (z0 : Int32) (w : wS), ke75 z0 w = some r → AG G M_X10_operand 75 [some (.ref (b + 0)), none, some (.int (z0)), none, none] [] (Hf w) (.inl none, Hf r)) : AG G M_X10_operand 18 [some (.ref (b + 0)), none, some (.int (x2)), none, some (.int (x4))] [] (Hf w) (.inl none, Hf r) :=
  xLoop_ok (Q := fun (σ : Int32 × Int32 × wS) => AG G M_X10_operand 18 [some (.ref (b + 0)), none, some (.int (σ.1)), none, some (.int (σ.2.1))] [] (Hf σ.2.2) (.inl none, Hf r)) (fun kk hk σ hσ => B_X10_operand_18_ok E hσ (fun x2 x4 w h9 => hk (x2, x4, w) h9) Hke75) n (x2, x4, w) hL
def B_X10_operand_4 (kh4 : Int32 → Int32 → wS → Option (wS)) (ke120 : wS → Option (wS)) (x2 : Int32) (x3 : Int32) (w : wS) : Option (wS) :=
  if x3 = 0 then ke120  w else xB2 (L_X10_isGood  w) fun v26 w27 => if v26 = 0 then ke120  w27 else P_X10_operand_18 (fun z28 w29 => J_X10_operand_75 kh4 ke120 (z28) w29) 5000 (x2) (0) w27
set_option maxRecDepth 20000 in
theorem B_X10_operand_4_ok {G : aG} {Hf : wS → aH} {b : Nat} {kh4 : Int32 → Int32 → wS → Option (wS)} {ke120 : wS → Option (wS)} {x2 : Int32} {x3 : Int32} {w : wS} {r : wS} (E : Emb Hf b 0 tbM) (hL : B_X10_operand_4 kh4 ke120 x2 x3 w = some r) (Hkh4 : ∀ (z0 : Int32) (z1 : Int32) (w : wS), kh4 z0 z1 w = some r → AG G M_X10_operand 4 [some (.ref (b + 0)), none, some (.int (z0)), some (.int (z1)), none] [] (Hf w) (.inl none, Hf r)) (Hke120 : ∀ (w : wS), ke120  w = some r → AG G M_X10_operand 120 [some (.ref (b + 0)), none, none, none, none] [] (Hf w) (.inl none, Hf r)) : AG G M_X10_operand 4 [some (.ref (b + 0)), none, some (.int (x2)), some (.int (x3)), none] [] (Hf w) (.inl none, Hf r) := by
  unfold B_X10_operand_4 at hL
  refine g_iload_n dX10_operand_4 rfl rfl ?_
  refine g_none 3 ?_
  refine g_if_eq (tgt := 120) dX10_operand_5 (by decide) (fun q31 => ?_) (fun q31 => ?_)
  · rw [if_pos q31] at hL
    refine g_none 2 ?_
    exact Hke120  _ hL
  · rw [if_neg q31] at hL
    refine g_aload_n dX10_operand_8 rfl rfl ?_
    obtain ⟨v26, w27, hc, hL⟩ := xB2_some hL
    refine g_callV (M' := M_X10_isGood) (as := []) (v := some (.int (v26))) l_X10_179 kV_X10_isGood (by decide) (C_X10_isGood E hc) rfl (by have := E.1; omega) (E.2.1 _ 0 _ rfl) ⟨_, _, rfl⟩ (Nat.le_of_ble_eq_true rfl) dX10_operand_9 ?_
    refine g_if_eq (tgt := 120) dX10_operand_12 (by decide) (fun q30 => ?_) (fun q30 => ?_)
    · rw [if_pos q30] at hL
      refine g_none 2 ?_
      exact Hke120  _ hL
    · rw [if_neg q30] at hL
      refine g_iconst (v := 0) dX10_operand_15 (by decide) ?_
      refine g_istore (i := 4) dX10_operand_16 (by decide) rfl ?_
      refine P_X10_operand_18_ok E hL ?_
      · intro z28 w29 hL
        exact J_X10_operand_75_ok E hL Hkh4 Hke120
def P_X10_operand_4 (ke120 : wS → Option (wS)) (n : Nat) (x2 : Int32) (x3 : Int32) (w : wS) : Option (wS) :=
  xLoop (fun (kk : Int32 × Int32 × wS → Option (wS)) σ => B_X10_operand_4 (fun x2 x3 w => kk (x2, x3, w)) ke120 (σ.1) (σ.2.1) (σ.2.2)) n (x2, x3, w)
theorem P_X10_operand_4_ok {G : aG} {Hf : wS → aH} {b : Nat} {ke120 : wS → Option (wS)} {n : Nat} {x2 : Int32} {x3 : Int32} {w : wS} {r : wS} (E : Emb Hf b 0 tbM) (hL : P_X10_operand_4 ke120 n x2 x3 w = some r) (Hke120 : ∀ (w : wS), ke120  w = some r → AG G M_X10_operand 120 [some (.ref (b + 0)), none, none, none, none] [] (Hf w) (.inl none, Hf r)) : AG G M_X10_operand 4 [some (.ref (b + 0)), none, some (.int (x2)), some (.int (x3)), none] [] (Hf w) (.inl none, Hf r) :=
  xLoop_ok (Q := fun (σ : Int32 × Int32 × wS) => AG G M_X10_operand 4 [some (.ref (b + 0)), none, some (.int (σ.1)), some (.int (σ.2.1)), none] [] (Hf σ.2.2) (.inl none, Hf r)) (fun kk hk σ hσ => B_X10_operand_4_ok E hσ (fun x2 x3 w h9 => hk (x2, x3, w) h9) Hke120) n (x2, x3, w) hL
def L_X10_operand (a1 : Int32) (w : wS) : Option (wS) :=
  P_X10_operand_4 (fun w32 => J_X10_operand_120   w32) 5000 (a1) (1) w
set_option maxRecDepth 20000 in
theorem C_X10_operand {G : aG} {Hf : wS → aH} {b : Nat} {a1 : Int32} {w : wS} {r : wS} (E : Emb Hf b 0 tbM) (hL : L_X10_operand a1 w = some r) : AC G M_X10_operand [.ref (b + 0), .int a1] (Hf w) (.inl none, Hf r) := by
  unfold L_X10_operand at hL
  refine AC.of (by decide) rfl (Nat.le_of_ble_eq_true rfl) ?_
  show AG G M_X10_operand 0 [some (.ref (b + 0)), some (.int (a1)), none, none, none] [] _ _
  refine g_iload_n dX10_operand_0 rfl rfl ?_
  refine g_none 1 ?_
  refine g_istore_n (i := 2) dX10_operand_1 rfl (by decide) rfl ?_
  refine g_iconst (v := 1) dX10_operand_2 (by decide) ?_
  refine g_istore_n (i := 3) dX10_operand_3 rfl (by decide) rfl ?_
  refine P_X10_operand_4_ok E hL ?_
  · intro w32 hL
    exact J_X10_operand_120_ok E hL 
def J_X10_isOpened_38 (y0 : Int32) (w : wS) : Option (Int32 × wS) :=
  xB (xBool (y0)) fun v1 => some (v1, w)
set_option maxRecDepth 20000 in
theorem J_X10_isOpened_38_ok {G : aG} {Hf : wS → aH} {b : Nat} {y0 : Int32} {w : wS} {r : Int32 × wS} (E : Emb Hf b 0 tbM) (hL : J_X10_isOpened_38  y0 w = some r) : AG G M_X10_isOpened 38 [none, none] [.int (y0)] (Hf w) (.inl (some (.int r.1)), Hf r.2) := by
  unfold J_X10_isOpened_38 at hL
  obtain ⟨v1, hb, hR⟩ := xB_some hL
  obtain ⟨hz, hb2⟩ := xBool_some hb
  clear hL
  subst hz
  obtain rfl := Option.some.inj hR
  exact g_zret rfl (narrow_bool hb2) dX10_isOpened_38
def J_X10_isOpened_29 (x1 : Int32) (w : wS) : Option (Int32 × wS) :=
  if x1 < 0 then J_X10_isOpened_38  (0) w else J_X10_isOpened_38  (1) w
set_option maxRecDepth 20000 in
theorem J_X10_isOpened_29_ok {G : aG} {Hf : wS → aH} {b : Nat} {x1 : Int32} {w : wS} {r : Int32 × wS} (E : Emb Hf b 0 tbM) (hL : J_X10_isOpened_29  x1 w = some r) : AG G M_X10_isOpened 29 [none, some (.int (x1))] [] (Hf w) (.inl (some (.int r.1)), Hf r.2) := by
  unfold J_X10_isOpened_29 at hL
  refine g_iload_n dX10_isOpened_29 rfl rfl ?_
  refine g_none 1 ?_
  refine g_if_lt (tgt := 37) dX10_isOpened_30 (by decide) (fun q2 => ?_) (fun q2 => ?_)
  · rw [if_pos q2] at hL
    refine g_iconst (v := 0) dX10_isOpened_37 (by decide) ?_
    exact J_X10_isOpened_38_ok E hL 
  · rw [if_neg q2] at hL
    refine g_iconst (v := 1) dX10_isOpened_33 (by decide) ?_
    refine g_goto (tgt := 38) dX10_isOpened_34 (by decide) ?_
    exact J_X10_isOpened_38_ok E hL 
def B_X10_isOpened_7 (kh7 : Int32 → wS → Option (Int32 × wS)) (ke29 : Int32 → wS → Option (Int32 × wS)) (x1 : Int32) (w : wS) : Option (Int32 × wS) :=
  if x1 < 0 then ke29 (x1) w else xB (xAld w 14 950 (x1)) fun v3 => xB (L_X10_isOpen (v3)) fun v4 => if v4 = 0 then kh7 ((x1 + (-1))) w else ke29 (x1) w
set_option maxRecDepth 20000 in
theorem B_X10_isOpened_7_ok {G : aG} {Hf : wS → aH} {b : Nat} {kh7 : Int32 → wS → Option (Int32 × wS)} {ke29 : Int32 → wS → Option (Int32 × wS)} {x1 : Int32} {w : wS} {r : Int32 × wS} (E : Emb Hf b 0 tbM) (hL : B_X10_isOpened_7 kh7 ke29 x1 w = some r) (Hkh7 : ∀ (z0 : Int32) (w : wS), kh7 z0 w = some r → AG G M_X10_isOpened 7 [some (.ref (b + 0)), some (.int (z0))] [] (Hf w) (.inl (some (.int r.1)), Hf r.2)) (Hke29 : ∀ (z0 : Int32) (w : wS), ke29 z0 w = some r → AG G M_X10_isOpened 29 [none, some (.int (z0))] [] (Hf w) (.inl (some (.int r.1)), Hf r.2)) : AG G M_X10_isOpened 7 [some (.ref (b + 0)), some (.int (x1))] [] (Hf w) (.inl (some (.int r.1)), Hf r.2) := by
  unfold B_X10_isOpened_7 at hL
  refine g_iload_n dX10_isOpened_7 rfl rfl ?_
  refine g_if_lt (tgt := 29) dX10_isOpened_8 (by decide) (fun q6 => ?_) (fun q6 => ?_)
  · rw [if_pos q6] at hL
    refine g_none 0 ?_
    exact Hke29 _ _ hL
  · rw [if_neg q6] at hL
    refine g_aload_n dX10_isOpened_11 rfl rfl ?_
    refine s_getR (j := 39) E rfl rfl f_X10_62 dX10_isOpened_12 ?_
    refine g_iload_n dX10_isOpened_15 rfl rfl ?_
    refine s_iald (k := 14) E hL rfl dX10_isOpened_16 ?_
    intro v3 hL
    obtain ⟨v4, hc, hL⟩ := xB_some hL
    refine g_callS (M' := M_X10_isOpen) (as := [.int (v3)]) (v := some (.int (v4))) l_X10_195 kS_X10_isOpen (by decide) (C_X10_isOpen hc) rfl (Nat.le_of_ble_eq_true rfl) dX10_isOpened_17 ?_
    refine g_if_ne (tgt := 29) dX10_isOpened_20 (by decide) (fun q5 => ?_) (fun q5 => ?_)
    · rw [if_neg q5] at hL
      refine g_none 0 ?_
      exact Hke29 _ _ hL
    · rw [if_pos q5] at hL
      refine g_iincV (v := (x1 + (-1))) dX10_isOpened_23 rfl rfl (by decide) rfl ?_
      refine g_goto (tgt := 7) dX10_isOpened_26 (by decide) ?_
      exact Hkh7 _ _ hL
def P_X10_isOpened_7 (ke29 : Int32 → wS → Option (Int32 × wS)) (n : Nat) (x1 : Int32) (w : wS) : Option (Int32 × wS) :=
  xLoop (fun (kk : Int32 × wS → Option (Int32 × wS)) σ => B_X10_isOpened_7 (fun x1 w => kk (x1, w)) ke29 (σ.1) (σ.2)) n (x1, w)
theorem P_X10_isOpened_7_ok {G : aG} {Hf : wS → aH} {b : Nat} {ke29 : Int32 → wS → Option (Int32 × wS)} {n : Nat} {x1 : Int32} {w : wS} {r : Int32 × wS} (E : Emb Hf b 0 tbM) (hL : P_X10_isOpened_7 ke29 n x1 w = some r) (Hke29 : ∀ (z0 : Int32) (w : wS), ke29 z0 w = some r → AG G M_X10_isOpened 29 [none, some (.int (z0))] [] (Hf w) (.inl (some (.int r.1)), Hf r.2)) : AG G M_X10_isOpened 7 [some (.ref (b + 0)), some (.int (x1))] [] (Hf w) (.inl (some (.int r.1)), Hf r.2) :=
  xLoop_ok (Q := fun (σ : Int32 × wS) => AG G M_X10_isOpened 7 [some (.ref (b + 0)), some (.int (σ.1))] [] (Hf σ.2) (.inl (some (.int r.1)), Hf r.2)) (fun kk hk σ hσ => B_X10_isOpened_7_ok E hσ (fun x1 w h9 => hk (x1, w) h9) Hke29) n (x1, w) hL
def L_X10_isOpened (w : wS) : Option (Int32 × wS) :=
  xB (xGet w 31) fun v7 => P_X10_isOpened_7 (fun z8 w9 => J_X10_isOpened_29  (z8) w9) 5000 ((v7 - 1)) w
set_option maxRecDepth 20000 in
theorem C_X10_isOpened {G : aG} {Hf : wS → aH} {b : Nat} {w : wS} {r : Int32 × wS} (E : Emb Hf b 0 tbM) (hL : L_X10_isOpened  w = some r) : AC G M_X10_isOpened [.ref (b + 0)] (Hf w) (.inl (some (.int r.1)), Hf r.2) := by
  unfold L_X10_isOpened at hL
  refine AC.of (by decide) rfl (Nat.le_of_ble_eq_true rfl) ?_
  show AG G M_X10_isOpened 0 [some (.ref (b + 0)), none] [] _ _
  refine g_aload_n dX10_isOpened_0 rfl rfl ?_
  refine s_getI (k := 0) (j := 31) E hL rfl rfl f_X10_192 dX10_isOpened_1 ?_
  intro v7 hL
  refine g_iconst (v := 1) dX10_isOpened_4 (by decide) ?_
  refine g_isub dX10_isOpened_5 ?_
  refine g_istore_n (i := 1) dX10_isOpened_6 rfl (by decide) rfl ?_
  refine P_X10_isOpened_7_ok E hL ?_
  · intro z8 w9 hL
    exact J_X10_isOpened_29_ok E hL 
def L_X10_closes (w : wS) : Option (wS) :=
  xB (L_X10_drops (0) w) fun w1 => xB (xGet w1 31) fun v2 => xB (xPut w1 31 ((v2 - 1))) fun w3 => xB (xGet w3 32) fun v4 => xB (xPut w3 32 ((v4 - 1))) fun w5 => xB (L_X10_goes  w5) fun w6 => some w6
set_option maxRecDepth 20000 in
theorem C_X10_closes {G : aG} {Hf : wS → aH} {b : Nat} {w : wS} {r : wS} (E : Emb Hf b 0 tbM) (hL : L_X10_closes  w = some r) : AC G M_X10_closes [.ref (b + 0)] (Hf w) (.inl none, Hf r) := by
  unfold L_X10_closes at hL
  refine AC.of (by decide) rfl (Nat.le_of_ble_eq_true rfl) ?_
  show AG G M_X10_closes 0 [some (.ref (b + 0))] [] _ _
  refine g_aload_n dX10_closes_0 rfl rfl ?_
  refine g_iconst (v := 0) dX10_closes_1 (by decide) ?_
  obtain ⟨w1, hc, hL⟩ := xB_some hL
  refine g_callV (M' := M_X10_drops) (as := [.int (0)]) (v := none) l_X10_226 kV_X10_drops (by decide) (C_X10_drops E hc) rfl (by have := E.1; omega) (E.2.1 _ 0 _ rfl) ⟨_, _, rfl⟩ (Nat.le_of_ble_eq_true rfl) dX10_closes_2 ?_
  refine g_aload_n dX10_closes_5 rfl rfl ?_
  refine g_dup dX10_closes_6 rfl ?_
  refine s_getI (k := 0) (j := 31) E hL rfl rfl f_X10_192 dX10_closes_7 ?_
  intro v2 hL
  refine g_iconst (v := 1) dX10_closes_10 (by decide) ?_
  refine g_isub dX10_closes_11 ?_
  refine s_putI (k := 0) (j := 31) E hL rfl rfl (by decide) fw_X10_192 rfl rfl dX10_closes_12 ?_
  intro w3 hL
  refine g_aload_n dX10_closes_15 rfl rfl ?_
  refine g_dup dX10_closes_16 rfl ?_
  refine s_getI (k := 0) (j := 32) E hL rfl rfl f_X10_211 dX10_closes_17 ?_
  intro v4 hL
  refine g_iconst (v := 1) dX10_closes_20 (by decide) ?_
  refine g_isub dX10_closes_21 ?_
  refine s_putI (k := 0) (j := 32) E hL rfl rfl (by decide) fw_X10_211 rfl rfl dX10_closes_22 ?_
  intro w5 hL
  refine g_aload_n dX10_closes_25 rfl rfl ?_
  refine g_none 0 ?_
  obtain ⟨w6, hc, hL⟩ := xB_some hL
  refine g_callV (M' := M_X10_goes) (as := []) (v := none) l_X10_183 kV_X10_goes (by decide) (C_X10_goes E hc) rfl (by have := E.1; omega) (E.2.1 _ 0 _ rfl) ⟨_, _, rfl⟩ (Nat.le_of_ble_eq_true rfl) dX10_closes_26 ?_
  obtain rfl := Option.some.inj hL
  exact g_vret rfl dX10_closes_29
def J_X10_expression_350 (w : wS) : Option (wS) :=
  xB (L_X10_drops (0) w) fun w1 => xB (L_X10_puts (0) w1) fun w2 => some w2
set_option maxRecDepth 20000 in
theorem J_X10_expression_350_ok {G : aG} {Hf : wS → aH} {b : Nat} {w : wS} {r : wS} (E : Emb Hf b 0 tbM) (hL : J_X10_expression_350   w = some r) : AG G M_X10_expression 350 [some (.ref (b + 0)), none, none, none] [] (Hf w) (.inl none, Hf r) := by
  unfold J_X10_expression_350 at hL
  refine g_aload_n dX10_expression_350 rfl rfl ?_
  refine g_iconst (v := 0) dX10_expression_351 (by decide) ?_
  obtain ⟨w1, hc, hL⟩ := xB_some hL
  refine g_callV (M' := M_X10_drops) (as := [.int (0)]) (v := none) l_X10_226 kV_X10_drops (by decide) (C_X10_drops E hc) rfl (by have := E.1; omega) (E.2.1 _ 0 _ rfl) ⟨_, _, rfl⟩ (Nat.le_of_ble_eq_true rfl) dX10_expression_352 ?_
  refine g_aload_n dX10_expression_355 rfl rfl ?_
  refine g_none 0 ?_
  refine g_iconst (v := 0) dX10_expression_356 (by decide) ?_
  obtain ⟨w2, hc, hL⟩ := xB_some hL
  refine g_callV (M' := M_X10_puts) (as := [.int (0)]) (v := none) l_X10_201 kV_X10_puts (by decide) (C_X10_puts E hc) rfl (by have := E.1; omega) (E.2.1 _ 0 _ rfl) ⟨_, _, rfl⟩ (Nat.le_of_ble_eq_true rfl) dX10_expression_357 ?_
  obtain rfl := Option.some.inj hL
  exact g_vret rfl dX10_expression_360
def J_X10_expression_330 (w : wS) : Option (wS) :=
  xB2 (L_X10_isGood  w) fun v3 w4 => if v3 = 0 then J_X10_expression_350   w4 else xB (xGet w4 32) fun v5 => if v5 ≤ 1 then J_X10_expression_350   w4 else xB (L_X10_wrong (1) w4) fun w6 => J_X10_expression_350   w6
set_option maxRecDepth 20000 in
theorem J_X10_expression_330_ok {G : aG} {Hf : wS → aH} {b : Nat} {w : wS} {r : wS} (E : Emb Hf b 0 tbM) (hL : J_X10_expression_330   w = some r) : AG G M_X10_expression 330 [some (.ref (b + 0)), none, none, none] [] (Hf w) (.inl none, Hf r) := by
  unfold J_X10_expression_330 at hL
  refine g_aload_n dX10_expression_330 rfl rfl ?_
  obtain ⟨v3, w4, hc, hL⟩ := xB2_some hL
  refine g_callV (M' := M_X10_isGood) (as := []) (v := some (.int (v3))) l_X10_179 kV_X10_isGood (by decide) (C_X10_isGood E hc) rfl (by have := E.1; omega) (E.2.1 _ 0 _ rfl) ⟨_, _, rfl⟩ (Nat.le_of_ble_eq_true rfl) dX10_expression_331 ?_
  refine g_if_eq (tgt := 350) dX10_expression_334 (by decide) (fun q8 => ?_) (fun q8 => ?_)
  · rw [if_pos q8] at hL
    exact J_X10_expression_350_ok E hL 
  · rw [if_neg q8] at hL
    refine g_aload_n dX10_expression_337 rfl rfl ?_
    refine s_getI (k := 0) (j := 32) E hL rfl rfl f_X10_211 dX10_expression_338 ?_
    intro v5 hL
    refine g_iconst (v := 1) dX10_expression_341 (by decide) ?_
    refine g_icmp_le (tgt := 350) dX10_expression_342 (by decide) (fun q7 => ?_) (fun q7 => ?_)
    · rw [if_pos q7] at hL
      exact J_X10_expression_350_ok E hL 
    · rw [if_neg q7] at hL
      refine g_aload_n dX10_expression_345 rfl rfl ?_
      refine g_iconst (v := 1) dX10_expression_346 (by decide) ?_
      obtain ⟨w6, hc, hL⟩ := xB_some hL
      refine g_callV (M' := M_X10_wrong) (as := [.int (1)]) (v := none) l_X10_186 kV_X10_wrong (by decide) (C_X10_wrong E hc) rfl (by have := E.1; omega) (E.2.1 _ 0 _ rfl) ⟨_, _, rfl⟩ (Nat.le_of_ble_eq_true rfl) dX10_expression_347 ?_
      exact J_X10_expression_350_ok E hL 
def J_X10_expression_327 (kh34 : Int32 → wS → Option (wS)) (ke330 : wS → Option (wS)) (x2 : Int32) (w : wS) : Option (wS) :=
  kh34 (x2) w
set_option maxRecDepth 20000 in
theorem J_X10_expression_327_ok {G : aG} {Hf : wS → aH} {b : Nat} {kh34 : Int32 → wS → Option (wS)} {ke330 : wS → Option (wS)} {x2 : Int32} {w : wS} {r : wS} (E : Emb Hf b 0 tbM) (hL : J_X10_expression_327 kh34 ke330 x2 w = some r) (Hkh34 : ∀ (z0 : Int32) (w : wS), kh34 z0 w = some r → AG G M_X10_expression 34 [some (.ref (b + 0)), none, some (.int (z0)), none] [] (Hf w) (.inl none, Hf r)) (Hke330 : ∀ (w : wS), ke330  w = some r → AG G M_X10_expression 330 [some (.ref (b + 0)), none, none, none] [] (Hf w) (.inl none, Hf r)) : AG G M_X10_expression 327 [some (.ref (b + 0)), none, some (.int (x2)), none] [] (Hf w) (.inl none, Hf r) := by
  unfold J_X10_expression_327 at hL
  refine g_goto (tgt := 34) dX10_expression_327 (by decide) ?_
  exact Hkh34 _ _ hL
def J_X10_expression_325 (kh34 : Int32 → wS → Option (wS)) (ke330 : wS → Option (wS)) (w : wS) : Option (wS) :=
  J_X10_expression_327 kh34 ke330 (0) w
set_option maxRecDepth 20000 in
theorem J_X10_expression_325_ok {G : aG} {Hf : wS → aH} {b : Nat} {kh34 : Int32 → wS → Option (wS)} {ke330 : wS → Option (wS)} {w : wS} {r : wS} (E : Emb Hf b 0 tbM) (hL : J_X10_expression_325 kh34 ke330  w = some r) (Hkh34 : ∀ (z0 : Int32) (w : wS), kh34 z0 w = some r → AG G M_X10_expression 34 [some (.ref (b + 0)), none, some (.int (z0)), none] [] (Hf w) (.inl none, Hf r)) (Hke330 : ∀ (w : wS), ke330  w = some r → AG G M_X10_expression 330 [some (.ref (b + 0)), none, none, none] [] (Hf w) (.inl none, Hf r)) : AG G M_X10_expression 325 [some (.ref (b + 0)), none, none, none] [] (Hf w) (.inl none, Hf r) := by
  unfold J_X10_expression_325 at hL
  refine g_iconst (v := 0) dX10_expression_325 (by decide) ?_
  refine g_istore_n (i := 2) dX10_expression_326 rfl (by decide) rfl ?_
  exact J_X10_expression_327_ok E hL Hkh34 Hke330
def J_X10_expression_287 (kh34 : Int32 → wS → Option (wS)) (ke330 : wS → Option (wS)) (x2 : Int32) (y1 : Int32) (w : wS) : Option (wS) :=
  xB (L_X10_waitsFor (y1) w) fun w9 => xB (L_X10_goes  w9) fun w10 => xB (L_X10_operand (0) w10) fun w11 => J_X10_expression_327 kh34 ke330 (x2) w11
set_option maxRecDepth 20000 in
theorem J_X10_expression_287_ok {G : aG} {Hf : wS → aH} {b : Nat} {kh34 : Int32 → wS → Option (wS)} {ke330 : wS → Option (wS)} {x2 : Int32} {y1 : Int32} {w : wS} {r : wS} (E : Emb Hf b 0 tbM) (hL : J_X10_expression_287 kh34 ke330 x2 y1 w = some r) (Hkh34 : ∀ (z0 : Int32) (w : wS), kh34 z0 w = some r → AG G M_X10_expression 34 [some (.ref (b + 0)), none, some (.int (z0)), none] [] (Hf w) (.inl none, Hf r)) (Hke330 : ∀ (w : wS), ke330  w = some r → AG G M_X10_expression 330 [some (.ref (b + 0)), none, none, none] [] (Hf w) (.inl none, Hf r)) : AG G M_X10_expression 287 [some (.ref (b + 0)), none, some (.int (x2)), none] [.int (y1), .ref (b + 0)] (Hf w) (.inl none, Hf r) := by
  unfold J_X10_expression_287 at hL
  obtain ⟨w9, hc, hL⟩ := xB_some hL
  refine g_callV (M' := M_X10_waitsFor) (as := [.int (y1)]) (v := none) l_X10_217 kV_X10_waitsFor (by decide) (C_X10_waitsFor E hc) rfl (by have := E.1; omega) (E.2.1 _ 0 _ rfl) ⟨_, _, rfl⟩ (Nat.le_of_ble_eq_true rfl) dX10_expression_287 ?_
  refine g_aload_n dX10_expression_290 rfl rfl ?_
  obtain ⟨w10, hc, hL⟩ := xB_some hL
  refine g_callV (M' := M_X10_goes) (as := []) (v := none) l_X10_183 kV_X10_goes (by decide) (C_X10_goes E hc) rfl (by have := E.1; omega) (E.2.1 _ 0 _ rfl) ⟨_, _, rfl⟩ (Nat.le_of_ble_eq_true rfl) dX10_expression_291 ?_
  refine g_aload_n dX10_expression_294 rfl rfl ?_
  refine g_iconst (v := 0) dX10_expression_295 (by decide) ?_
  obtain ⟨w11, hc, hL⟩ := xB_some hL
  refine g_callV (M' := M_X10_operand) (as := [.int (0)]) (v := none) l_X10_229 kV_X10_operand (by decide) (C_X10_operand E hc) rfl (by have := E.1; omega) (E.2.1 _ 0 _ rfl) ⟨_, _, rfl⟩ (Nat.le_of_ble_eq_true rfl) dX10_expression_296 ?_
  refine g_goto (tgt := 327) dX10_expression_299 (by decide) ?_
  exact J_X10_expression_327_ok E hL Hkh34 Hke330
def J_X10_expression_264 (kh34 : Int32 → wS → Option (wS)) (ke330 : wS → Option (wS)) (x2 : Int32) (w : wS) : Option (wS) :=
  xB (L_X10_drops (6) w) fun w12 => xB2 (L_X10_isSign (42) w12) fun v13 w14 => if v13 = 0 then J_X10_expression_287 kh34 ke330 (x2) (11) w14 else J_X10_expression_287 kh34 ke330 (x2) (10) w14
set_option maxRecDepth 20000 in
theorem J_X10_expression_264_ok {G : aG} {Hf : wS → aH} {b : Nat} {kh34 : Int32 → wS → Option (wS)} {ke330 : wS → Option (wS)} {x2 : Int32} {w : wS} {r : wS} (E : Emb Hf b 0 tbM) (hL : J_X10_expression_264 kh34 ke330 x2 w = some r) (Hkh34 : ∀ (z0 : Int32) (w : wS), kh34 z0 w = some r → AG G M_X10_expression 34 [some (.ref (b + 0)), none, some (.int (z0)), none] [] (Hf w) (.inl none, Hf r)) (Hke330 : ∀ (w : wS), ke330  w = some r → AG G M_X10_expression 330 [some (.ref (b + 0)), none, none, none] [] (Hf w) (.inl none, Hf r)) : AG G M_X10_expression 264 [some (.ref (b + 0)), none, some (.int (x2)), none] [] (Hf w) (.inl none, Hf r) := by
  unfold J_X10_expression_264 at hL
  refine g_aload_n dX10_expression_264 rfl rfl ?_
  refine g_bipush (v := 6) dX10_expression_265 (by decide) ?_
  obtain ⟨w12, hc, hL⟩ := xB_some hL
  refine g_callV (M' := M_X10_drops) (as := [.int (6)]) (v := none) l_X10_226 kV_X10_drops (by decide) (C_X10_drops E hc) rfl (by have := E.1; omega) (E.2.1 _ 0 _ rfl) ⟨_, _, rfl⟩ (Nat.le_of_ble_eq_true rfl) dX10_expression_267 ?_
  refine g_aload_n dX10_expression_270 rfl rfl ?_
  refine g_aload_n dX10_expression_271 rfl rfl ?_
  refine g_bipush (v := 42) dX10_expression_272 (by decide) ?_
  obtain ⟨v13, w14, hc, hL⟩ := xB2_some hL
  refine g_callV (M' := M_X10_isSign) (as := [.int (42)]) (v := some (.int (v13))) l_X10_214 kV_X10_isSign (by decide) (C_X10_isSign E hc) rfl (by have := E.1; omega) (E.2.1 _ 0 _ rfl) ⟨_, _, rfl⟩ (Nat.le_of_ble_eq_true rfl) dX10_expression_274 ?_
  refine g_if_eq (tgt := 285) dX10_expression_277 (by decide) (fun q15 => ?_) (fun q15 => ?_)
  · rw [if_pos q15] at hL
    refine g_bipush (v := 11) dX10_expression_285 (by decide) ?_
    exact J_X10_expression_287_ok E hL Hkh34 Hke330
  · rw [if_neg q15] at hL
    refine g_bipush (v := 10) dX10_expression_280 (by decide) ?_
    refine g_goto (tgt := 287) dX10_expression_282 (by decide) ?_
    exact J_X10_expression_287_ok E hL Hkh34 Hke330
def J_X10_expression_231 (kh34 : Int32 → wS → Option (wS)) (ke330 : wS → Option (wS)) (x2 : Int32) (y1 : Int32) (w : wS) : Option (wS) :=
  xB (L_X10_waitsFor (y1) w) fun w16 => xB (L_X10_goes  w16) fun w17 => xB (L_X10_operand (0) w17) fun w18 => J_X10_expression_327 kh34 ke330 (x2) w18
set_option maxRecDepth 20000 in
theorem J_X10_expression_231_ok {G : aG} {Hf : wS → aH} {b : Nat} {kh34 : Int32 → wS → Option (wS)} {ke330 : wS → Option (wS)} {x2 : Int32} {y1 : Int32} {w : wS} {r : wS} (E : Emb Hf b 0 tbM) (hL : J_X10_expression_231 kh34 ke330 x2 y1 w = some r) (Hkh34 : ∀ (z0 : Int32) (w : wS), kh34 z0 w = some r → AG G M_X10_expression 34 [some (.ref (b + 0)), none, some (.int (z0)), none] [] (Hf w) (.inl none, Hf r)) (Hke330 : ∀ (w : wS), ke330  w = some r → AG G M_X10_expression 330 [some (.ref (b + 0)), none, none, none] [] (Hf w) (.inl none, Hf r)) : AG G M_X10_expression 231 [some (.ref (b + 0)), none, some (.int (x2)), none] [.int (y1), .ref (b + 0)] (Hf w) (.inl none, Hf r) := by
  unfold J_X10_expression_231 at hL
  obtain ⟨w16, hc, hL⟩ := xB_some hL
  refine g_callV (M' := M_X10_waitsFor) (as := [.int (y1)]) (v := none) l_X10_217 kV_X10_waitsFor (by decide) (C_X10_waitsFor E hc) rfl (by have := E.1; omega) (E.2.1 _ 0 _ rfl) ⟨_, _, rfl⟩ (Nat.le_of_ble_eq_true rfl) dX10_expression_231 ?_
  refine g_aload_n dX10_expression_234 rfl rfl ?_
  obtain ⟨w17, hc, hL⟩ := xB_some hL
  refine g_callV (M' := M_X10_goes) (as := []) (v := none) l_X10_183 kV_X10_goes (by decide) (C_X10_goes E hc) rfl (by have := E.1; omega) (E.2.1 _ 0 _ rfl) ⟨_, _, rfl⟩ (Nat.le_of_ble_eq_true rfl) dX10_expression_235 ?_
  refine g_aload_n dX10_expression_238 rfl rfl ?_
  refine g_iconst (v := 0) dX10_expression_239 (by decide) ?_
  obtain ⟨w18, hc, hL⟩ := xB_some hL
  refine g_callV (M' := M_X10_operand) (as := [.int (0)]) (v := none) l_X10_229 kV_X10_operand (by decide) (C_X10_operand E hc) rfl (by have := E.1; omega) (E.2.1 _ 0 _ rfl) ⟨_, _, rfl⟩ (Nat.le_of_ble_eq_true rfl) dX10_expression_240 ?_
  refine g_goto (tgt := 327) dX10_expression_243 (by decide) ?_
  exact J_X10_expression_327_ok E hL Hkh34 Hke330
def J_X10_expression_209 (kh34 : Int32 → wS → Option (wS)) (ke330 : wS → Option (wS)) (x2 : Int32) (w : wS) : Option (wS) :=
  xB (L_X10_drops (5) w) fun w19 => xB2 (L_X10_isSign (43) w19) fun v20 w21 => if v20 = 0 then J_X10_expression_231 kh34 ke330 (x2) (9) w21 else J_X10_expression_231 kh34 ke330 (x2) (8) w21
set_option maxRecDepth 20000 in
theorem J_X10_expression_209_ok {G : aG} {Hf : wS → aH} {b : Nat} {kh34 : Int32 → wS → Option (wS)} {ke330 : wS → Option (wS)} {x2 : Int32} {w : wS} {r : wS} (E : Emb Hf b 0 tbM) (hL : J_X10_expression_209 kh34 ke330 x2 w = some r) (Hkh34 : ∀ (z0 : Int32) (w : wS), kh34 z0 w = some r → AG G M_X10_expression 34 [some (.ref (b + 0)), none, some (.int (z0)), none] [] (Hf w) (.inl none, Hf r)) (Hke330 : ∀ (w : wS), ke330  w = some r → AG G M_X10_expression 330 [some (.ref (b + 0)), none, none, none] [] (Hf w) (.inl none, Hf r)) : AG G M_X10_expression 209 [some (.ref (b + 0)), none, some (.int (x2)), none] [] (Hf w) (.inl none, Hf r) := by
  unfold J_X10_expression_209 at hL
  refine g_aload_n dX10_expression_209 rfl rfl ?_
  refine g_iconst (v := 5) dX10_expression_210 (by decide) ?_
  obtain ⟨w19, hc, hL⟩ := xB_some hL
  refine g_callV (M' := M_X10_drops) (as := [.int (5)]) (v := none) l_X10_226 kV_X10_drops (by decide) (C_X10_drops E hc) rfl (by have := E.1; omega) (E.2.1 _ 0 _ rfl) ⟨_, _, rfl⟩ (Nat.le_of_ble_eq_true rfl) dX10_expression_211 ?_
  refine g_aload_n dX10_expression_214 rfl rfl ?_
  refine g_aload_n dX10_expression_215 rfl rfl ?_
  refine g_bipush (v := 43) dX10_expression_216 (by decide) ?_
  obtain ⟨v20, w21, hc, hL⟩ := xB2_some hL
  refine g_callV (M' := M_X10_isSign) (as := [.int (43)]) (v := some (.int (v20))) l_X10_214 kV_X10_isSign (by decide) (C_X10_isSign E hc) rfl (by have := E.1; omega) (E.2.1 _ 0 _ rfl) ⟨_, _, rfl⟩ (Nat.le_of_ble_eq_true rfl) dX10_expression_218 ?_
  refine g_if_eq (tgt := 229) dX10_expression_221 (by decide) (fun q22 => ?_) (fun q22 => ?_)
  · rw [if_pos q22] at hL
    refine g_bipush (v := 9) dX10_expression_229 (by decide) ?_
    exact J_X10_expression_231_ok E hL Hkh34 Hke330
  · rw [if_neg q22] at hL
    refine g_bipush (v := 8) dX10_expression_224 (by decide) ?_
    refine g_goto (tgt := 231) dX10_expression_226 (by decide) ?_
    exact J_X10_expression_231_ok E hL Hkh34 Hke330
def J_X10_expression_191 (kh34 : Int32 → wS → Option (wS)) (ke330 : wS → Option (wS)) (x2 : Int32) (w : wS) : Option (wS) :=
  xB2 (L_X10_isSign (43) w) fun v23 w24 => if v23 = 0 then xB2 (L_X10_isSign (45) w24) fun v25 w26 => if v25 = 0 then xB2 (L_X10_isSign (42) w26) fun v27 w28 => if v27 = 0 then xB2 (L_X10_isSign (47) w28) fun v29 w30 => if v29 = 0 then xB2 (L_X10_isSign (41) w30) fun v31 w32 => if v31 = 0 then J_X10_expression_325 kh34 ke330  w32 else xB2 (L_X10_isOpened  w32) fun v33 w34 => if v33 = 0 then J_X10_expression_325 kh34 ke330  w34 else xB (L_X10_closes  w34) fun w35 => J_X10_expression_327 kh34 ke330 (x2) w35 else J_X10_expression_264 kh34 ke330 (x2) w30 else J_X10_expression_264 kh34 ke330 (x2) w28 else J_X10_expression_209 kh34 ke330 (x2) w26 else J_X10_expression_209 kh34 ke330 (x2) w24
set_option maxRecDepth 20000 in
theorem J_X10_expression_191_ok {G : aG} {Hf : wS → aH} {b : Nat} {kh34 : Int32 → wS → Option (wS)} {ke330 : wS → Option (wS)} {x2 : Int32} {w : wS} {r : wS} (E : Emb Hf b 0 tbM) (hL : J_X10_expression_191 kh34 ke330 x2 w = some r) (Hkh34 : ∀ (z0 : Int32) (w : wS), kh34 z0 w = some r → AG G M_X10_expression 34 [some (.ref (b + 0)), none, some (.int (z0)), none] [] (Hf w) (.inl none, Hf r)) (Hke330 : ∀ (w : wS), ke330  w = some r → AG G M_X10_expression 330 [some (.ref (b + 0)), none, none, none] [] (Hf w) (.inl none, Hf r)) : AG G M_X10_expression 191 [some (.ref (b + 0)), none, some (.int (x2)), none] [] (Hf w) (.inl none, Hf r) := by
  unfold J_X10_expression_191 at hL
  refine g_aload_n dX10_expression_191 rfl rfl ?_
  refine g_bipush (v := 43) dX10_expression_192 (by decide) ?_
  obtain ⟨v23, w24, hc, hL⟩ := xB2_some hL
  refine g_callV (M' := M_X10_isSign) (as := [.int (43)]) (v := some (.int (v23))) l_X10_214 kV_X10_isSign (by decide) (C_X10_isSign E hc) rfl (by have := E.1; omega) (E.2.1 _ 0 _ rfl) ⟨_, _, rfl⟩ (Nat.le_of_ble_eq_true rfl) dX10_expression_194 ?_
  refine g_if_ne (tgt := 209) dX10_expression_197 (by decide) (fun q41 => ?_) (fun q41 => ?_)
  · rw [if_neg q41] at hL
    exact J_X10_expression_209_ok E hL Hkh34 Hke330
  · rw [if_pos q41] at hL
    refine g_aload_n dX10_expression_200 rfl rfl ?_
    refine g_bipush (v := 45) dX10_expression_201 (by decide) ?_
    obtain ⟨v25, w26, hc, hL⟩ := xB2_some hL
    refine g_callV (M' := M_X10_isSign) (as := [.int (45)]) (v := some (.int (v25))) l_X10_214 kV_X10_isSign (by decide) (C_X10_isSign E hc) rfl (by have := E.1; omega) (E.2.1 _ 0 _ rfl) ⟨_, _, rfl⟩ (Nat.le_of_ble_eq_true rfl) dX10_expression_203 ?_
    refine g_if_eq (tgt := 246) dX10_expression_206 (by decide) (fun q40 => ?_) (fun q40 => ?_)
    · rw [if_pos q40] at hL
      refine g_aload_n dX10_expression_246 rfl rfl ?_
      refine g_bipush (v := 42) dX10_expression_247 (by decide) ?_
      obtain ⟨v27, w28, hc, hL⟩ := xB2_some hL
      refine g_callV (M' := M_X10_isSign) (as := [.int (42)]) (v := some (.int (v27))) l_X10_214 kV_X10_isSign (by decide) (C_X10_isSign E hc) rfl (by have := E.1; omega) (E.2.1 _ 0 _ rfl) ⟨_, _, rfl⟩ (Nat.le_of_ble_eq_true rfl) dX10_expression_249 ?_
      refine g_if_ne (tgt := 264) dX10_expression_252 (by decide) (fun q39 => ?_) (fun q39 => ?_)
      · rw [if_neg q39] at hL
        exact J_X10_expression_264_ok E hL Hkh34 Hke330
      · rw [if_pos q39] at hL
        refine g_aload_n dX10_expression_255 rfl rfl ?_
        refine g_bipush (v := 47) dX10_expression_256 (by decide) ?_
        obtain ⟨v29, w30, hc, hL⟩ := xB2_some hL
        refine g_callV (M' := M_X10_isSign) (as := [.int (47)]) (v := some (.int (v29))) l_X10_214 kV_X10_isSign (by decide) (C_X10_isSign E hc) rfl (by have := E.1; omega) (E.2.1 _ 0 _ rfl) ⟨_, _, rfl⟩ (Nat.le_of_ble_eq_true rfl) dX10_expression_258 ?_
        refine g_if_eq (tgt := 302) dX10_expression_261 (by decide) (fun q38 => ?_) (fun q38 => ?_)
        · rw [if_pos q38] at hL
          refine g_aload_n dX10_expression_302 rfl rfl ?_
          refine g_bipush (v := 41) dX10_expression_303 (by decide) ?_
          obtain ⟨v31, w32, hc, hL⟩ := xB2_some hL
          refine g_callV (M' := M_X10_isSign) (as := [.int (41)]) (v := some (.int (v31))) l_X10_214 kV_X10_isSign (by decide) (C_X10_isSign E hc) rfl (by have := E.1; omega) (E.2.1 _ 0 _ rfl) ⟨_, _, rfl⟩ (Nat.le_of_ble_eq_true rfl) dX10_expression_305 ?_
          refine g_if_eq (tgt := 325) dX10_expression_308 (by decide) (fun q37 => ?_) (fun q37 => ?_)
          · rw [if_pos q37] at hL
            refine g_none 2 ?_
            exact J_X10_expression_325_ok E hL Hkh34 Hke330
          · rw [if_neg q37] at hL
            refine g_aload_n dX10_expression_311 rfl rfl ?_
            obtain ⟨v33, w34, hc, hL⟩ := xB2_some hL
            refine g_callV (M' := M_X10_isOpened) (as := []) (v := some (.int (v33))) l_X10_233 kV_X10_isOpened (by decide) (C_X10_isOpened E hc) rfl (by have := E.1; omega) (E.2.1 _ 0 _ rfl) ⟨_, _, rfl⟩ (Nat.le_of_ble_eq_true rfl) dX10_expression_312 ?_
            refine g_if_eq (tgt := 325) dX10_expression_315 (by decide) (fun q36 => ?_) (fun q36 => ?_)
            · rw [if_pos q36] at hL
              refine g_none 2 ?_
              exact J_X10_expression_325_ok E hL Hkh34 Hke330
            · rw [if_neg q36] at hL
              refine g_aload_n dX10_expression_318 rfl rfl ?_
              obtain ⟨w35, hc, hL⟩ := xB_some hL
              refine g_callV (M' := M_X10_closes) (as := []) (v := none) l_X10_236 kV_X10_closes (by decide) (C_X10_closes E hc) rfl (by have := E.1; omega) (E.2.1 _ 0 _ rfl) ⟨_, _, rfl⟩ (Nat.le_of_ble_eq_true rfl) dX10_expression_319 ?_
              refine g_goto (tgt := 327) dX10_expression_322 (by decide) ?_
              exact J_X10_expression_327_ok E hL Hkh34 Hke330
        · rw [if_neg q38] at hL
          exact J_X10_expression_264_ok E hL Hkh34 Hke330
    · rw [if_neg q40] at hL
      exact J_X10_expression_209_ok E hL Hkh34 Hke330
def J_X10_expression_166 (kh34 : Int32 → wS → Option (wS)) (ke330 : wS → Option (wS)) (x2 : Int32) (y1 : Int32) (w : wS) : Option (wS) :=
  xB (L_X10_waitsFor (y1) w) fun w42 => xB (xGet w42 32) fun v43 => xB (xAst w42 15 9 (v43) (vp_nar .boolean (1))) fun w44 => xB (L_X10_goes  w44) fun w45 => xB (L_X10_operand (0) w45) fun w46 => J_X10_expression_327 kh34 ke330 (x2) w46
set_option maxRecDepth 20000 in
theorem J_X10_expression_166_ok {G : aG} {Hf : wS → aH} {b : Nat} {kh34 : Int32 → wS → Option (wS)} {ke330 : wS → Option (wS)} {x2 : Int32} {y1 : Int32} {w : wS} {r : wS} (E : Emb Hf b 0 tbM) (hL : J_X10_expression_166 kh34 ke330 x2 y1 w = some r) (Hkh34 : ∀ (z0 : Int32) (w : wS), kh34 z0 w = some r → AG G M_X10_expression 34 [some (.ref (b + 0)), none, some (.int (z0)), none] [] (Hf w) (.inl none, Hf r)) (Hke330 : ∀ (w : wS), ke330  w = some r → AG G M_X10_expression 330 [some (.ref (b + 0)), none, none, none] [] (Hf w) (.inl none, Hf r)) : AG G M_X10_expression 166 [some (.ref (b + 0)), none, some (.int (x2)), none] [.int (y1), .ref (b + 0)] (Hf w) (.inl none, Hf r) := by
  unfold J_X10_expression_166 at hL
  obtain ⟨w42, hc, hL⟩ := xB_some hL
  refine g_callV (M' := M_X10_waitsFor) (as := [.int (y1)]) (v := none) l_X10_217 kV_X10_waitsFor (by decide) (C_X10_waitsFor E hc) rfl (by have := E.1; omega) (E.2.1 _ 0 _ rfl) ⟨_, _, rfl⟩ (Nat.le_of_ble_eq_true rfl) dX10_expression_166 ?_
  refine g_aload_n dX10_expression_169 rfl rfl ?_
  refine s_getR (j := 40) E rfl rfl f_X10_65 dX10_expression_170 ?_
  refine g_aload_n dX10_expression_173 rfl rfl ?_
  refine s_getI (k := 0) (j := 32) E hL rfl rfl f_X10_211 dX10_expression_174 ?_
  intro v43 hL
  refine g_iconst (v := 1) dX10_expression_177 (by decide) ?_
  refine s_zast (k := 15) E hL rfl dX10_expression_178 ?_
  intro w44 hL
  refine g_aload_n dX10_expression_179 rfl rfl ?_
  obtain ⟨w45, hc, hL⟩ := xB_some hL
  refine g_callV (M' := M_X10_goes) (as := []) (v := none) l_X10_183 kV_X10_goes (by decide) (C_X10_goes E hc) rfl (by have := E.1; omega) (E.2.1 _ 0 _ rfl) ⟨_, _, rfl⟩ (Nat.le_of_ble_eq_true rfl) dX10_expression_180 ?_
  refine g_aload_n dX10_expression_183 rfl rfl ?_
  refine g_iconst (v := 0) dX10_expression_184 (by decide) ?_
  obtain ⟨w46, hc, hL⟩ := xB_some hL
  refine g_callV (M' := M_X10_operand) (as := [.int (0)]) (v := none) l_X10_229 kV_X10_operand (by decide) (C_X10_operand E hc) rfl (by have := E.1; omega) (E.2.1 _ 0 _ rfl) ⟨_, _, rfl⟩ (Nat.le_of_ble_eq_true rfl) dX10_expression_185 ?_
  refine g_goto (tgt := 327) dX10_expression_188 (by decide) ?_
  exact J_X10_expression_327_ok E hL Hkh34 Hke330
def J_X10_expression_132 (kh34 : Int32 → wS → Option (wS)) (ke330 : wS → Option (wS)) (x2 : Int32) (w : wS) : Option (wS) :=
  xB (xGet w 32) fun v47 => xB (xAld w 15 9 (v47)) fun v48 => if v48 = 0 then xB (L_X10_drops (4) w) fun w49 => xB2 (L_X10_isSign (60) w49) fun v50 w51 => if v50 = 0 then J_X10_expression_166 kh34 ke330 (x2) (7) w51 else J_X10_expression_166 kh34 ke330 (x2) (6) w51 else J_X10_expression_191 kh34 ke330 (x2) w
set_option maxRecDepth 20000 in
theorem J_X10_expression_132_ok {G : aG} {Hf : wS → aH} {b : Nat} {kh34 : Int32 → wS → Option (wS)} {ke330 : wS → Option (wS)} {x2 : Int32} {w : wS} {r : wS} (E : Emb Hf b 0 tbM) (hL : J_X10_expression_132 kh34 ke330 x2 w = some r) (Hkh34 : ∀ (z0 : Int32) (w : wS), kh34 z0 w = some r → AG G M_X10_expression 34 [some (.ref (b + 0)), none, some (.int (z0)), none] [] (Hf w) (.inl none, Hf r)) (Hke330 : ∀ (w : wS), ke330  w = some r → AG G M_X10_expression 330 [some (.ref (b + 0)), none, none, none] [] (Hf w) (.inl none, Hf r)) : AG G M_X10_expression 132 [some (.ref (b + 0)), none, some (.int (x2)), none] [] (Hf w) (.inl none, Hf r) := by
  unfold J_X10_expression_132 at hL
  refine g_aload_n dX10_expression_132 rfl rfl ?_
  refine s_getR (j := 40) E rfl rfl f_X10_65 dX10_expression_133 ?_
  refine g_aload_n dX10_expression_136 rfl rfl ?_
  refine s_getI (k := 0) (j := 32) E hL rfl rfl f_X10_211 dX10_expression_137 ?_
  intro v47 hL
  refine s_zald (k := 15) E hL rfl dX10_expression_140 ?_
  intro v48 hL
  refine g_if_ne (tgt := 191) dX10_expression_141 (by decide) (fun q53 => ?_) (fun q53 => ?_)
  · rw [if_neg q53] at hL
    exact J_X10_expression_191_ok E hL Hkh34 Hke330
  · rw [if_pos q53] at hL
    refine g_aload_n dX10_expression_144 rfl rfl ?_
    refine g_iconst (v := 4) dX10_expression_145 (by decide) ?_
    obtain ⟨w49, hc, hL⟩ := xB_some hL
    refine g_callV (M' := M_X10_drops) (as := [.int (4)]) (v := none) l_X10_226 kV_X10_drops (by decide) (C_X10_drops E hc) rfl (by have := E.1; omega) (E.2.1 _ 0 _ rfl) ⟨_, _, rfl⟩ (Nat.le_of_ble_eq_true rfl) dX10_expression_146 ?_
    refine g_aload_n dX10_expression_149 rfl rfl ?_
    refine g_aload_n dX10_expression_150 rfl rfl ?_
    refine g_bipush (v := 60) dX10_expression_151 (by decide) ?_
    obtain ⟨v50, w51, hc, hL⟩ := xB2_some hL
    refine g_callV (M' := M_X10_isSign) (as := [.int (60)]) (v := some (.int (v50))) l_X10_214 kV_X10_isSign (by decide) (C_X10_isSign E hc) rfl (by have := E.1; omega) (E.2.1 _ 0 _ rfl) ⟨_, _, rfl⟩ (Nat.le_of_ble_eq_true rfl) dX10_expression_153 ?_
    refine g_if_eq (tgt := 164) dX10_expression_156 (by decide) (fun q52 => ?_) (fun q52 => ?_)
    · rw [if_pos q52] at hL
      refine g_bipush (v := 7) dX10_expression_164 (by decide) ?_
      exact J_X10_expression_166_ok E hL Hkh34 Hke330
    · rw [if_neg q52] at hL
      refine g_bipush (v := 6) dX10_expression_159 (by decide) ?_
      refine g_goto (tgt := 166) dX10_expression_161 (by decide) ?_
      exact J_X10_expression_166_ok E hL Hkh34 Hke330
def J_X10_expression_89 (kh34 : Int32 → wS → Option (wS)) (ke330 : wS → Option (wS)) (x2 : Int32) (y1 : Int32) (w : wS) : Option (wS) :=
  xB (L_X10_waitsFor (y1) w) fun w54 => xB (xGet w54 32) fun v55 => xB (xAst w54 15 9 (v55) (vp_nar .boolean (0))) fun w56 => xB (L_X10_goes  w56) fun w57 => xB (L_X10_operand (1) w57) fun w58 => J_X10_expression_327 kh34 ke330 (x2) w58
set_option maxRecDepth 20000 in
theorem J_X10_expression_89_ok {G : aG} {Hf : wS → aH} {b : Nat} {kh34 : Int32 → wS → Option (wS)} {ke330 : wS → Option (wS)} {x2 : Int32} {y1 : Int32} {w : wS} {r : wS} (E : Emb Hf b 0 tbM) (hL : J_X10_expression_89 kh34 ke330 x2 y1 w = some r) (Hkh34 : ∀ (z0 : Int32) (w : wS), kh34 z0 w = some r → AG G M_X10_expression 34 [some (.ref (b + 0)), none, some (.int (z0)), none] [] (Hf w) (.inl none, Hf r)) (Hke330 : ∀ (w : wS), ke330  w = some r → AG G M_X10_expression 330 [some (.ref (b + 0)), none, none, none] [] (Hf w) (.inl none, Hf r)) : AG G M_X10_expression 89 [some (.ref (b + 0)), none, some (.int (x2)), none] [.int (y1), .ref (b + 0)] (Hf w) (.inl none, Hf r) := by
  unfold J_X10_expression_89 at hL
  obtain ⟨w54, hc, hL⟩ := xB_some hL
  refine g_callV (M' := M_X10_waitsFor) (as := [.int (y1)]) (v := none) l_X10_217 kV_X10_waitsFor (by decide) (C_X10_waitsFor E hc) rfl (by have := E.1; omega) (E.2.1 _ 0 _ rfl) ⟨_, _, rfl⟩ (Nat.le_of_ble_eq_true rfl) dX10_expression_89 ?_
  refine g_aload_n dX10_expression_92 rfl rfl ?_
  refine s_getR (j := 40) E rfl rfl f_X10_65 dX10_expression_93 ?_
  refine g_aload_n dX10_expression_96 rfl rfl ?_
  refine s_getI (k := 0) (j := 32) E hL rfl rfl f_X10_211 dX10_expression_97 ?_
  intro v55 hL
  refine g_iconst (v := 0) dX10_expression_100 (by decide) ?_
  refine s_zast (k := 15) E hL rfl dX10_expression_101 ?_
  intro w56 hL
  refine g_aload_n dX10_expression_102 rfl rfl ?_
  obtain ⟨w57, hc, hL⟩ := xB_some hL
  refine g_callV (M' := M_X10_goes) (as := []) (v := none) l_X10_183 kV_X10_goes (by decide) (C_X10_goes E hc) rfl (by have := E.1; omega) (E.2.1 _ 0 _ rfl) ⟨_, _, rfl⟩ (Nat.le_of_ble_eq_true rfl) dX10_expression_103 ?_
  refine g_aload_n dX10_expression_106 rfl rfl ?_
  refine g_iconst (v := 1) dX10_expression_107 (by decide) ?_
  obtain ⟨w58, hc, hL⟩ := xB_some hL
  refine g_callV (M' := M_X10_operand) (as := [.int (1)]) (v := none) l_X10_229 kV_X10_operand (by decide) (C_X10_operand E hc) rfl (by have := E.1; omega) (E.2.1 _ 0 _ rfl) ⟨_, _, rfl⟩ (Nat.le_of_ble_eq_true rfl) dX10_expression_108 ?_
  refine g_goto (tgt := 327) dX10_expression_111 (by decide) ?_
  exact J_X10_expression_327_ok E hL Hkh34 Hke330
def J_X10_expression_74 (kh34 : Int32 → wS → Option (wS)) (ke330 : wS → Option (wS)) (x2 : Int32) (x3 : Int32) (y1 : Int32) (w : wS) : Option (wS) :=
  xB (L_X10_drops (y1) w) fun w59 => if x3 = 13 then J_X10_expression_89 kh34 ke330 (x2) (4) w59 else J_X10_expression_89 kh34 ke330 (x2) (5) w59
set_option maxRecDepth 20000 in
theorem J_X10_expression_74_ok {G : aG} {Hf : wS → aH} {b : Nat} {kh34 : Int32 → wS → Option (wS)} {ke330 : wS → Option (wS)} {x2 : Int32} {x3 : Int32} {y1 : Int32} {w : wS} {r : wS} (E : Emb Hf b 0 tbM) (hL : J_X10_expression_74 kh34 ke330 x2 x3 y1 w = some r) (Hkh34 : ∀ (z0 : Int32) (w : wS), kh34 z0 w = some r → AG G M_X10_expression 34 [some (.ref (b + 0)), none, some (.int (z0)), none] [] (Hf w) (.inl none, Hf r)) (Hke330 : ∀ (w : wS), ke330  w = some r → AG G M_X10_expression 330 [some (.ref (b + 0)), none, none, none] [] (Hf w) (.inl none, Hf r)) : AG G M_X10_expression 74 [some (.ref (b + 0)), none, some (.int (x2)), some (.int (x3))] [.int (y1), .ref (b + 0)] (Hf w) (.inl none, Hf r) := by
  unfold J_X10_expression_74 at hL
  obtain ⟨w59, hc, hL⟩ := xB_some hL
  refine g_callV (M' := M_X10_drops) (as := [.int (y1)]) (v := none) l_X10_226 kV_X10_drops (by decide) (C_X10_drops E hc) rfl (by have := E.1; omega) (E.2.1 _ 0 _ rfl) ⟨_, _, rfl⟩ (Nat.le_of_ble_eq_true rfl) dX10_expression_74 ?_
  refine g_aload_n dX10_expression_77 rfl rfl ?_
  refine g_iload_n dX10_expression_78 rfl rfl ?_
  refine g_none 3 ?_
  refine g_bipush (v := 13) dX10_expression_79 (by decide) ?_
  refine g_icmp_ne (tgt := 88) dX10_expression_81 (by decide) (fun q60 => ?_) (fun q60 => ?_)
  · rw [if_neg q60] at hL
    refine g_iconst (v := 5) dX10_expression_88 (by decide) ?_
    exact J_X10_expression_89_ok E hL Hkh34 Hke330
  · rw [if_pos q60] at hL
    refine g_iconst (v := 4) dX10_expression_84 (by decide) ?_
    refine g_goto (tgt := 89) dX10_expression_85 (by decide) ?_
    exact J_X10_expression_89_ok E hL Hkh34 Hke330
def J_X10_expression_62 (kh34 : Int32 → wS → Option (wS)) (ke330 : wS → Option (wS)) (x2 : Int32) (x3 : Int32) (w : wS) : Option (wS) :=
  if x3 = 13 then J_X10_expression_74 kh34 ke330 (x2) (x3) (2) w else J_X10_expression_74 kh34 ke330 (x2) (x3) (1) w
set_option maxRecDepth 20000 in
theorem J_X10_expression_62_ok {G : aG} {Hf : wS → aH} {b : Nat} {kh34 : Int32 → wS → Option (wS)} {ke330 : wS → Option (wS)} {x2 : Int32} {x3 : Int32} {w : wS} {r : wS} (E : Emb Hf b 0 tbM) (hL : J_X10_expression_62 kh34 ke330 x2 x3 w = some r) (Hkh34 : ∀ (z0 : Int32) (w : wS), kh34 z0 w = some r → AG G M_X10_expression 34 [some (.ref (b + 0)), none, some (.int (z0)), none] [] (Hf w) (.inl none, Hf r)) (Hke330 : ∀ (w : wS), ke330  w = some r → AG G M_X10_expression 330 [some (.ref (b + 0)), none, none, none] [] (Hf w) (.inl none, Hf r)) : AG G M_X10_expression 62 [some (.ref (b + 0)), none, some (.int (x2)), some (.int (x3))] [] (Hf w) (.inl none, Hf r) := by
  unfold J_X10_expression_62 at hL
  refine g_aload_n dX10_expression_62 rfl rfl ?_
  refine g_iload_n dX10_expression_63 rfl rfl ?_
  refine g_bipush (v := 13) dX10_expression_64 (by decide) ?_
  refine g_icmp_ne (tgt := 73) dX10_expression_66 (by decide) (fun q61 => ?_) (fun q61 => ?_)
  · rw [if_neg q61] at hL
    refine g_iconst (v := 1) dX10_expression_73 (by decide) ?_
    exact J_X10_expression_74_ok E hL Hkh34 Hke330
  · rw [if_pos q61] at hL
    refine g_iconst (v := 2) dX10_expression_69 (by decide) ?_
    refine g_goto (tgt := 74) dX10_expression_70 (by decide) ?_
    exact J_X10_expression_74_ok E hL Hkh34 Hke330
def B_X10_expression_34 (kh34 : Int32 → wS → Option (wS)) (ke330 : wS → Option (wS)) (x2 : Int32) (w : wS) : Option (wS) :=
  if x2 = 0 then ke330  w else xB2 (L_X10_isGood  w) fun v62 w63 => if v62 = 0 then ke330  w63 else xB2 (L_X10_knownWord  w63) fun v64 w65 => if v64 = 13 then J_X10_expression_62 kh34 ke330 (x2) (v64) w65 else if v64 = 14 then J_X10_expression_62 kh34 ke330 (x2) (v64) w65 else xB2 (L_X10_isSign (60) w65) fun v66 w67 => if v66 = 0 then xB2 (L_X10_isSign (61) w67) fun v68 w69 => if v68 = 0 then J_X10_expression_191 kh34 ke330 (x2) w69 else J_X10_expression_132 kh34 ke330 (x2) w69 else J_X10_expression_132 kh34 ke330 (x2) w67
set_option maxRecDepth 20000 in
theorem B_X10_expression_34_ok {G : aG} {Hf : wS → aH} {b : Nat} {kh34 : Int32 → wS → Option (wS)} {ke330 : wS → Option (wS)} {x2 : Int32} {w : wS} {r : wS} (E : Emb Hf b 0 tbM) (hL : B_X10_expression_34 kh34 ke330 x2 w = some r) (Hkh34 : ∀ (z0 : Int32) (w : wS), kh34 z0 w = some r → AG G M_X10_expression 34 [some (.ref (b + 0)), none, some (.int (z0)), none] [] (Hf w) (.inl none, Hf r)) (Hke330 : ∀ (w : wS), ke330  w = some r → AG G M_X10_expression 330 [some (.ref (b + 0)), none, none, none] [] (Hf w) (.inl none, Hf r)) : AG G M_X10_expression 34 [some (.ref (b + 0)), none, some (.int (x2)), none] [] (Hf w) (.inl none, Hf r) := by
  unfold B_X10_expression_34 at hL
  refine g_iload_n dX10_expression_34 rfl rfl ?_
  refine g_if_eq (tgt := 330) dX10_expression_35 (by decide) (fun q75 => ?_) (fun q75 => ?_)
  · rw [if_pos q75] at hL
    refine g_none 2 ?_
    exact Hke330  _ hL
  · rw [if_neg q75] at hL
    refine g_aload_n dX10_expression_38 rfl rfl ?_
    obtain ⟨v62, w63, hc, hL⟩ := xB2_some hL
    refine g_callV (M' := M_X10_isGood) (as := []) (v := some (.int (v62))) l_X10_179 kV_X10_isGood (by decide) (C_X10_isGood E hc) rfl (by have := E.1; omega) (E.2.1 _ 0 _ rfl) ⟨_, _, rfl⟩ (Nat.le_of_ble_eq_true rfl) dX10_expression_39 ?_
    refine g_if_eq (tgt := 330) dX10_expression_42 (by decide) (fun q74 => ?_) (fun q74 => ?_)
    · rw [if_pos q74] at hL
      refine g_none 2 ?_
      exact Hke330  _ hL
    · rw [if_neg q74] at hL
      refine g_aload_n dX10_expression_45 rfl rfl ?_
      obtain ⟨v64, w65, hc, hL⟩ := xB2_some hL
      refine g_callV (M' := M_X10_knownWord) (as := []) (v := some (.int (v64))) l_X10_204 kV_X10_knownWord (by decide) (C_X10_knownWord E hc) rfl (by have := E.1; omega) (E.2.1 _ 0 _ rfl) ⟨_, _, rfl⟩ (Nat.le_of_ble_eq_true rfl) dX10_expression_46 ?_
      refine g_istore_n (i := 3) dX10_expression_49 rfl (by decide) rfl ?_
      refine g_iload_n dX10_expression_50 rfl rfl ?_
      refine g_bipush (v := 13) dX10_expression_51 (by decide) ?_
      refine g_icmp_eq (tgt := 62) dX10_expression_53 (by decide) (fun q73 => ?_) (fun q73 => ?_)
      · rw [if_pos q73] at hL
        exact J_X10_expression_62_ok E hL Hkh34 Hke330
      · rw [if_neg q73] at hL
        refine g_iload_n dX10_expression_56 rfl rfl ?_
        refine g_bipush (v := 14) dX10_expression_57 (by decide) ?_
        refine g_icmp_ne (tgt := 114) dX10_expression_59 (by decide) (fun q72 => ?_) (fun q72 => ?_)
        · rw [if_neg q72] at hL
          refine g_none 3 ?_
          refine g_aload_n dX10_expression_114 rfl rfl ?_
          refine g_bipush (v := 60) dX10_expression_115 (by decide) ?_
          obtain ⟨v66, w67, hc, hL⟩ := xB2_some hL
          refine g_callV (M' := M_X10_isSign) (as := [.int (60)]) (v := some (.int (v66))) l_X10_214 kV_X10_isSign (by decide) (C_X10_isSign E hc) rfl (by have := E.1; omega) (E.2.1 _ 0 _ rfl) ⟨_, _, rfl⟩ (Nat.le_of_ble_eq_true rfl) dX10_expression_117 ?_
          refine g_if_ne (tgt := 132) dX10_expression_120 (by decide) (fun q71 => ?_) (fun q71 => ?_)
          · rw [if_neg q71] at hL
            exact J_X10_expression_132_ok E hL Hkh34 Hke330
          · rw [if_pos q71] at hL
            refine g_aload_n dX10_expression_123 rfl rfl ?_
            refine g_bipush (v := 61) dX10_expression_124 (by decide) ?_
            obtain ⟨v68, w69, hc, hL⟩ := xB2_some hL
            refine g_callV (M' := M_X10_isSign) (as := [.int (61)]) (v := some (.int (v68))) l_X10_214 kV_X10_isSign (by decide) (C_X10_isSign E hc) rfl (by have := E.1; omega) (E.2.1 _ 0 _ rfl) ⟨_, _, rfl⟩ (Nat.le_of_ble_eq_true rfl) dX10_expression_126 ?_
            refine g_if_eq (tgt := 191) dX10_expression_129 (by decide) (fun q70 => ?_) (fun q70 => ?_)
            · rw [if_pos q70] at hL
              exact J_X10_expression_191_ok E hL Hkh34 Hke330
            · rw [if_neg q70] at hL
              exact J_X10_expression_132_ok E hL Hkh34 Hke330
        · rw [if_pos q72] at hL
          exact J_X10_expression_62_ok E hL Hkh34 Hke330
def P_X10_expression_34 (ke330 : wS → Option (wS)) (n : Nat) (x2 : Int32) (w : wS) : Option (wS) :=
  xLoop (fun (kk : Int32 × wS → Option (wS)) σ => B_X10_expression_34 (fun x2 w => kk (x2, w)) ke330 (σ.1) (σ.2)) n (x2, w)
theorem P_X10_expression_34_ok {G : aG} {Hf : wS → aH} {b : Nat} {ke330 : wS → Option (wS)} {n : Nat} {x2 : Int32} {w : wS} {r : wS} (E : Emb Hf b 0 tbM) (hL : P_X10_expression_34 ke330 n x2 w = some r) (Hke330 : ∀ (w : wS), ke330  w = some r → AG G M_X10_expression 330 [some (.ref (b + 0)), none, none, none] [] (Hf w) (.inl none, Hf r)) : AG G M_X10_expression 34 [some (.ref (b + 0)), none, some (.int (x2)), none] [] (Hf w) (.inl none, Hf r) :=
  xLoop_ok (Q := fun (σ : Int32 × wS) => AG G M_X10_expression 34 [some (.ref (b + 0)), none, some (.int (σ.1)), none] [] (Hf σ.2) (.inl none, Hf r)) (fun kk hk σ hσ => B_X10_expression_34_ok E hσ (fun x2 w h9 => hk (x2, w) h9) Hke330) n (x2, w) hL
def L_X10_expression (a1 : Int32) (w : wS) : Option (wS) :=
  xB2 (L_X10_isGood  w) fun v76 w77 => if v76 = 0 then some w77 else xB (xPut w77 30 (a1)) fun w78 => xB (xPut w78 31 (0)) fun w79 => xB (xPut w79 32 (0)) fun w80 => xB (L_X10_deeper  w80) fun w81 => xB (L_X10_operand (1) w81) fun w82 => P_X10_expression_34 (fun w83 => J_X10_expression_330   w83) 5000 (1) w82
set_option maxRecDepth 20000 in
theorem C_X10_expression {G : aG} {Hf : wS → aH} {b : Nat} {a1 : Int32} {w : wS} {r : wS} (E : Emb Hf b 0 tbM) (hL : L_X10_expression a1 w = some r) : AC G M_X10_expression [.ref (b + 0), .int a1] (Hf w) (.inl none, Hf r) := by
  unfold L_X10_expression at hL
  refine AC.of (by decide) rfl (Nat.le_of_ble_eq_true rfl) ?_
  show AG G M_X10_expression 0 [some (.ref (b + 0)), some (.int (a1)), none, none] [] _ _
  refine g_aload_n dX10_expression_0 rfl rfl ?_
  obtain ⟨v76, w77, hc, hL⟩ := xB2_some hL
  refine g_callV (M' := M_X10_isGood) (as := []) (v := some (.int (v76))) l_X10_179 kV_X10_isGood (by decide) (C_X10_isGood E hc) rfl (by have := E.1; omega) (E.2.1 _ 0 _ rfl) ⟨_, _, rfl⟩ (Nat.le_of_ble_eq_true rfl) dX10_expression_1 ?_
  refine g_if_ne (tgt := 8) dX10_expression_4 (by decide) (fun q84 => ?_) (fun q84 => ?_)
  · rw [if_neg q84] at hL
    refine g_aload_n dX10_expression_8 rfl rfl ?_
    refine g_iload_n dX10_expression_9 rfl rfl ?_
    refine g_none 1 ?_
    refine s_putI (k := 0) (j := 30) E hL rfl rfl (by decide) fw_X10_208 rfl rfl dX10_expression_10 ?_
    intro w78 hL
    refine g_aload_n dX10_expression_13 rfl rfl ?_
    refine g_iconst (v := 0) dX10_expression_14 (by decide) ?_
    refine s_putI (k := 0) (j := 31) E hL rfl rfl (by decide) fw_X10_192 rfl rfl dX10_expression_15 ?_
    intro w79 hL
    refine g_aload_n dX10_expression_18 rfl rfl ?_
    refine g_iconst (v := 0) dX10_expression_19 (by decide) ?_
    refine s_putI (k := 0) (j := 32) E hL rfl rfl (by decide) fw_X10_211 rfl rfl dX10_expression_20 ?_
    intro w80 hL
    refine g_aload_n dX10_expression_23 rfl rfl ?_
    obtain ⟨w81, hc, hL⟩ := xB_some hL
    refine g_callV (M' := M_X10_deeper) (as := []) (v := none) l_X10_220 kV_X10_deeper (by decide) (C_X10_deeper E hc) rfl (by have := E.1; omega) (E.2.1 _ 0 _ rfl) ⟨_, _, rfl⟩ (Nat.le_of_ble_eq_true rfl) dX10_expression_24 ?_
    refine g_aload_n dX10_expression_27 rfl rfl ?_
    refine g_iconst (v := 1) dX10_expression_28 (by decide) ?_
    obtain ⟨w82, hc, hL⟩ := xB_some hL
    refine g_callV (M' := M_X10_operand) (as := [.int (1)]) (v := none) l_X10_229 kV_X10_operand (by decide) (C_X10_operand E hc) rfl (by have := E.1; omega) (E.2.1 _ 0 _ rfl) ⟨_, _, rfl⟩ (Nat.le_of_ble_eq_true rfl) dX10_expression_29 ?_
    refine g_iconst (v := 1) dX10_expression_32 (by decide) ?_
    refine g_istore_n (i := 2) dX10_expression_33 rfl (by decide) rfl ?_
    refine P_X10_expression_34_ok E hL ?_
    · intro w83 hL
      exact J_X10_expression_330_ok E hL 
  · rw [if_pos q84] at hL
    refine g_none 0 ?_
    refine g_none 1 ?_
    obtain rfl := Option.some.inj hL
    exact g_vret rfl dX10_expression_7
