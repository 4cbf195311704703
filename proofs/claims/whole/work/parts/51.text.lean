def J_X7_row_39 (o : wO) (x3 : Int32) (w : wS) : Option (Int32 × wS) :=
  xB (xGet w 203) fun v1 => some ((x3 - v1), w)
set_option maxRecDepth 20000 in
theorem J_X7_row_39_ok {G : aG} {Hf : wS → aH} {bx : Nat} {o : wO} {x3 : Int32} {w : wS} {r : Int32 × wS} (hG : aGood G) (hX : aTxt G) (E : EX Hf bx o) (hL : J_X7_row_39 o  x3 w = some r) : AG G M_X7_row 39 [some (.ref (bx + 2)), none, none, some (.int (x3))] [] (Hf w) (.inl (some (.int r.1)), Hf r.2) := by
  unfold J_X7_row_39 at hL
  refine g_iload_n dX7_row_39 rfl rfl ?_
  refine g_none 3 ?_
  refine g_aload_n dX7_row_40 rfl rfl ?_
  refine g_none 0 ?_
  refine s_getI (k := 2) (j := 3) E.1 hL rfl rfl f_X7_22 dX7_row_41 ?_
  intro v1 hL
  refine g_isub dX7_row_44 ?_
  obtain rfl := Option.some.inj hL
  exact g_iret rfl dX7_row_45
def B_X7_row_5 (o : wO) (kh5 : Int32 → Int32 → Int32 → wS → Option (Int32 × wS)) (ke39 : Int32 → wS → Option (Int32 × wS)) (x1 : Int32) (x2 : Int32) (x3 : Int32) (w : wS) : Option (Int32 × wS) :=
  xB (xGet w 205) fun v2 => if v2 ≤ x3 then ke39 (x3) w else xB (xAld w 3 700 (x3)) fun v3 => if v3 < x1 then ke39 (x3) w else xB (xAld w 3 700 (x3)) fun v4 => if x2 < v4 then ke39 (x3) w else kh5 (x1) (x2) ((x3 + 1)) w
set_option maxRecDepth 20000 in
theorem B_X7_row_5_ok {G : aG} {Hf : wS → aH} {bx : Nat} {o : wO} {kh5 : Int32 → Int32 → Int32 → wS → Option (Int32 × wS)} {ke39 : Int32 → wS → Option (Int32 × wS)} {x1 : Int32} {x2 : Int32} {x3 : Int32} {w : wS} {r : Int32 × wS} (hG : aGood G) (hX : aTxt G) (E : EX Hf bx o) (hL : B_X7_row_5 o kh5 ke39 x1 x2 x3 w = some r) (Hkh5 : ∀ (z0 : Int32) (z1 : Int32) (z2 : Int32) (w : wS), kh5 z0 z1 z2 w = some r → AG G M_X7_row 5 [some (.ref (bx + 2)), some (.int (z0)), some (.int (z1)), some (.int (z2))] [] (Hf w) (.inl (some (.int r.1)), Hf r.2)) (Hke39 : ∀ (z0 : Int32) (w : wS), ke39 z0 w = some r → AG G M_X7_row 39 [some (.ref (bx + 2)), none, none, some (.int (z0))] [] (Hf w) (.inl (some (.int r.1)), Hf r.2)) : AG G M_X7_row 5 [some (.ref (bx + 2)), some (.int (x1)), some (.int (x2)), some (.int (x3))] [] (Hf w) (.inl (some (.int r.1)), Hf r.2) := by
  unfold B_X7_row_5 at hL
  refine g_iload_n dX7_row_5 rfl rfl ?_
  refine g_aload_n dX7_row_6 rfl rfl ?_
  refine s_getI (k := 2) (j := 5) E.1 hL rfl rfl f_X7_28 dX7_row_7 ?_
  intro v2 hL
  refine g_icmp_ge (tgt := 39) dX7_row_10 (by decide) (fun q7 => ?_) (fun q7 => ?_)
  · rw [if_pos q7] at hL
    refine g_none 1 ?_
    refine g_none 2 ?_
    exact Hke39 _ _ hL
  · rw [if_neg q7] at hL
    refine g_aload_n dX7_row_13 rfl rfl ?_
    refine s_getR (k := 2) (j := 0) E.1 rfl rfl f_X7_9 dX7_row_14 ?_
    refine g_iload_n dX7_row_17 rfl rfl ?_
    refine s_bald (k := 3) E.1 hL rfl dX7_row_18 ?_
    intro v3 hL
    refine g_iload_n dX7_row_19 rfl rfl ?_
    refine g_icmp_lt (tgt := 39) dX7_row_20 (by decide) (fun q6 => ?_) (fun q6 => ?_)
    · rw [if_pos q6] at hL
      refine g_none 1 ?_
      refine g_none 2 ?_
      exact Hke39 _ _ hL
    · rw [if_neg q6] at hL
      refine g_aload_n dX7_row_23 rfl rfl ?_
      refine s_getR (k := 2) (j := 0) E.1 rfl rfl f_X7_9 dX7_row_24 ?_
      refine g_iload_n dX7_row_27 rfl rfl ?_
      refine s_bald (k := 3) E.1 hL rfl dX7_row_28 ?_
      intro v4 hL
      refine g_iload_n dX7_row_29 rfl rfl ?_
      refine g_icmp_gt (tgt := 39) dX7_row_30 (by decide) (fun q5 => ?_) (fun q5 => ?_)
      · rw [if_pos q5] at hL
        refine g_none 1 ?_
        refine g_none 2 ?_
        exact Hke39 _ _ hL
      · rw [if_neg q5] at hL
        refine g_iincV (v := (x3 + 1)) dX7_row_33 rfl rfl (by decide) rfl ?_
        refine g_goto (tgt := 5) dX7_row_36 (by decide) ?_
        exact Hkh5 _ _ _ _ hL
def P_X7_row_5 (o : wO) (ke39 : Int32 → wS → Option (Int32 × wS)) (n : Nat) (x1 : Int32) (x2 : Int32) (x3 : Int32) (w : wS) : Option (Int32 × wS) :=
  xLoop (fun (kk : Int32 × Int32 × Int32 × wS → Option (Int32 × wS)) σ => B_X7_row_5 o (fun x1 x2 x3 w => kk (x1, x2, x3, w)) ke39 (σ.1) (σ.2.1) (σ.2.2.1) (σ.2.2.2)) n (x1, x2, x3, w)
theorem P_X7_row_5_ok {G : aG} {Hf : wS → aH} {bx : Nat} {o : wO} {ke39 : Int32 → wS → Option (Int32 × wS)} {n : Nat} {x1 : Int32} {x2 : Int32} {x3 : Int32} {w : wS} {r : Int32 × wS} (hG : aGood G) (hX : aTxt G) (E : EX Hf bx o) (hL : P_X7_row_5 o ke39 n x1 x2 x3 w = some r) (Hke39 : ∀ (z0 : Int32) (w : wS), ke39 z0 w = some r → AG G M_X7_row 39 [some (.ref (bx + 2)), none, none, some (.int (z0))] [] (Hf w) (.inl (some (.int r.1)), Hf r.2)) : AG G M_X7_row 5 [some (.ref (bx + 2)), some (.int (x1)), some (.int (x2)), some (.int (x3))] [] (Hf w) (.inl (some (.int r.1)), Hf r.2) :=
  xLoop_ok (Q := fun (σ : Int32 × Int32 × Int32 × wS) => AG G M_X7_row 5 [some (.ref (bx + 2)), some (.int (σ.1)), some (.int (σ.2.1)), some (.int (σ.2.2.1))] [] (Hf σ.2.2.2) (.inl (some (.int r.1)), Hf r.2)) (fun kk hk σ hσ => B_X7_row_5_ok hG hX E hσ (fun x1 x2 x3 w h9 => hk (x1, x2, x3, w) h9) Hke39) n (x1, x2, x3, w) hL
def L_X7_row (o : wO) (a1 : Int32) (a2 : Int32) (w : wS) : Option (Int32 × wS) :=
  xB (xGet w 203) fun v8 => P_X7_row_5 o (fun z9 w10 => J_X7_row_39 o  (z9) w10) 5000 (a1) (a2) (v8) w
set_option maxRecDepth 20000 in
theorem C_X7_row {G : aG} {Hf : wS → aH} {bx : Nat} {o : wO} {a1 : Int32} {a2 : Int32} {w : wS} {r : Int32 × wS} (hG : aGood G) (hX : aTxt G) (E : EX Hf bx o) (hL : L_X7_row o a1 a2 w = some r) : AC G M_X7_row [.ref (bx + 2), .int a1, .int a2] (Hf w) (.inl (some (.int r.1)), Hf r.2) := by
  unfold L_X7_row at hL
  refine AC.of (by decide) rfl (Nat.le_of_ble_eq_true rfl) ?_
  show AG G M_X7_row 0 [some (.ref (bx + 2)), some (.int (a1)), some (.int (a2)), none] [] _ _
  refine g_aload_n dX7_row_0 rfl rfl ?_
  refine s_getI (k := 2) (j := 3) E.1 hL rfl rfl f_X7_22 dX7_row_1 ?_
  intro v8 hL
  refine g_istore_n (i := 3) dX7_row_4 rfl (by decide) rfl ?_
  refine P_X7_row_5_ok hG hX E hL ?_
  · intro z9 w10 hL
    exact J_X7_row_39_ok hG hX E hL 
def J_X7_isSign_59 (y0 : Int32) : Option (Int32) :=
  xB (xBool (y0)) fun v1 => some v1
set_option maxRecDepth 20000 in
theorem J_X7_isSign_59_ok {G : aG} {h : aH} {y0 : Int32} {r : Int32} (hL : J_X7_isSign_59  y0 = some r) : AG G M_X7_isSign 59 [none] [.int (y0)] h (.inl (some (.int r)), h) := by
  unfold J_X7_isSign_59 at hL
  obtain ⟨v1, hb, hR⟩ := xB_some hL
  obtain ⟨hz, hb2⟩ := xBool_some hb
  clear hL
  subst hz
  obtain rfl := Option.some.inj hR
  exact g_zret rfl (narrow_bool hb2) dX7_isSign_59
def J_X7_isSign_54 : Option (Int32) :=
  J_X7_isSign_59  (1)
set_option maxRecDepth 20000 in
theorem J_X7_isSign_54_ok {G : aG} {h : aH} {r : Int32} (hL : J_X7_isSign_54   = some r) : AG G M_X7_isSign 54 [none] [] h (.inl (some (.int r)), h) := by
  unfold J_X7_isSign_54 at hL
  refine g_iconst (v := 1) dX7_isSign_54 (by decide) ?_
  refine g_goto (tgt := 59) dX7_isSign_55 (by decide) ?_
  exact J_X7_isSign_59_ok hL 
def L_X7_isSign (a1 : Int32) : Option (Int32) :=
  if a1 = 59 then J_X7_isSign_54   else if a1 = 40 then J_X7_isSign_54   else if a1 = 41 then J_X7_isSign_54   else if a1 = 43 then J_X7_isSign_54   else if a1 = 45 then J_X7_isSign_54   else if a1 = 42 then J_X7_isSign_54   else if a1 = 47 then J_X7_isSign_54   else if a1 = 60 then J_X7_isSign_54   else if a1 = 61 then J_X7_isSign_54   else J_X7_isSign_59  (0)
set_option maxRecDepth 20000 in
theorem C_X7_isSign {G : aG} {h : aH} {a1 : Int32} {r : Int32} (hL : L_X7_isSign a1 = some r) : AC G M_X7_isSign [.int a1] h (.inl (some (.int r)), h) := by
  unfold L_X7_isSign at hL
  refine AC.of (by decide) rfl (Nat.le_of_ble_eq_true rfl) ?_
  show AG G M_X7_isSign 0 [some (.int (a1))] [] _ _
  refine g_iload_n dX7_isSign_0 rfl rfl ?_
  refine g_bipush (v := 59) dX7_isSign_1 (by decide) ?_
  refine g_icmp_eq (tgt := 54) dX7_isSign_3 (by decide) (fun q10 => ?_) (fun q10 => ?_)
  · rw [if_pos q10] at hL
    refine g_none 0 ?_
    exact J_X7_isSign_54_ok hL 
  · rw [if_neg q10] at hL
    refine g_iload_n dX7_isSign_6 rfl rfl ?_
    refine g_bipush (v := 40) dX7_isSign_7 (by decide) ?_
    refine g_icmp_eq (tgt := 54) dX7_isSign_9 (by decide) (fun q9 => ?_) (fun q9 => ?_)
    · rw [if_pos q9] at hL
      refine g_none 0 ?_
      exact J_X7_isSign_54_ok hL 
    · rw [if_neg q9] at hL
      refine g_iload_n dX7_isSign_12 rfl rfl ?_
      refine g_bipush (v := 41) dX7_isSign_13 (by decide) ?_
      refine g_icmp_eq (tgt := 54) dX7_isSign_15 (by decide) (fun q8 => ?_) (fun q8 => ?_)
      · rw [if_pos q8] at hL
        refine g_none 0 ?_
        exact J_X7_isSign_54_ok hL 
      · rw [if_neg q8] at hL
        refine g_iload_n dX7_isSign_18 rfl rfl ?_
        refine g_bipush (v := 43) dX7_isSign_19 (by decide) ?_
        refine g_icmp_eq (tgt := 54) dX7_isSign_21 (by decide) (fun q7 => ?_) (fun q7 => ?_)
        · rw [if_pos q7] at hL
          refine g_none 0 ?_
          exact J_X7_isSign_54_ok hL 
        · rw [if_neg q7] at hL
          refine g_iload_n dX7_isSign_24 rfl rfl ?_
          refine g_bipush (v := 45) dX7_isSign_25 (by decide) ?_
          refine g_icmp_eq (tgt := 54) dX7_isSign_27 (by decide) (fun q6 => ?_) (fun q6 => ?_)
          · rw [if_pos q6] at hL
            refine g_none 0 ?_
            exact J_X7_isSign_54_ok hL 
          · rw [if_neg q6] at hL
            refine g_iload_n dX7_isSign_30 rfl rfl ?_
            refine g_bipush (v := 42) dX7_isSign_31 (by decide) ?_
            refine g_icmp_eq (tgt := 54) dX7_isSign_33 (by decide) (fun q5 => ?_) (fun q5 => ?_)
            · rw [if_pos q5] at hL
              refine g_none 0 ?_
              exact J_X7_isSign_54_ok hL 
            · rw [if_neg q5] at hL
              refine g_iload_n dX7_isSign_36 rfl rfl ?_
              refine g_bipush (v := 47) dX7_isSign_37 (by decide) ?_
              refine g_icmp_eq (tgt := 54) dX7_isSign_39 (by decide) (fun q4 => ?_) (fun q4 => ?_)
              · rw [if_pos q4] at hL
                refine g_none 0 ?_
                exact J_X7_isSign_54_ok hL 
              · rw [if_neg q4] at hL
                refine g_iload_n dX7_isSign_42 rfl rfl ?_
                refine g_bipush (v := 60) dX7_isSign_43 (by decide) ?_
                refine g_icmp_eq (tgt := 54) dX7_isSign_45 (by decide) (fun q3 => ?_) (fun q3 => ?_)
                · rw [if_pos q3] at hL
                  refine g_none 0 ?_
                  exact J_X7_isSign_54_ok hL 
                · rw [if_neg q3] at hL
                  refine g_iload_n dX7_isSign_48 rfl rfl ?_
                  refine g_none 0 ?_
                  refine g_bipush (v := 61) dX7_isSign_49 (by decide) ?_
                  refine g_icmp_ne (tgt := 58) dX7_isSign_51 (by decide) (fun q2 => ?_) (fun q2 => ?_)
                  · rw [if_neg q2] at hL
                    refine g_iconst (v := 0) dX7_isSign_58 (by decide) ?_
                    exact J_X7_isSign_59_ok hL 
                  · rw [if_pos q2] at hL
                    exact J_X7_isSign_54_ok hL 
def J_X7_advance_191 (o : wO) (w : wS) : Option (wS) :=
  some w
set_option maxRecDepth 20000 in
theorem J_X7_advance_191_ok {G : aG} {Hf : wS → aH} {bx : Nat} {o : wO} {w : wS} {r : wS} (hG : aGood G) (hX : aTxt G) (E : EX Hf bx o) (hL : J_X7_advance_191 o   w = some r) : AG G M_X7_advance 191 [none, none] [] (Hf w) (.inl none, Hf r) := by
  unfold J_X7_advance_191 at hL
  obtain rfl := Option.some.inj hL
  exact g_vret rfl dX7_advance_191
def J_X7_advance_188 (o : wO) (y1 : Int32) (w : wS) : Option (wS) :=
  xB (xPut w 204 (y1)) fun w1 => J_X7_advance_191 o   w1
set_option maxRecDepth 20000 in
theorem J_X7_advance_188_ok {G : aG} {Hf : wS → aH} {bx : Nat} {o : wO} {y1 : Int32} {w : wS} {r : wS} (hG : aGood G) (hX : aTxt G) (E : EX Hf bx o) (hL : J_X7_advance_188 o  y1 w = some r) : AG G M_X7_advance 188 [none, none] [.int (y1), .ref (bx + 2)] (Hf w) (.inl none, Hf r) := by
  unfold J_X7_advance_188 at hL
  refine s_putI (k := 2) (j := 4) E.1 hL rfl rfl (by decide) fw_X7_25 rfl rfl dX7_advance_188 ?_
  intro w1 hL
  exact J_X7_advance_191_ok hG hX E hL 
def J_X7_advance_143 (o : wO) (y1 : Int32) (w : wS) : Option (wS) :=
  xB (xPut w 202 (y1)) fun w2 => xB (xGet w2 202) fun v3 => if v3 = 97 then xB2 (L_X7_row o (97) (122) w2) fun v8 w9 => J_X7_advance_188 o  (v8) w9 else xB (xGet w2 202) fun v4 => if v4 = 48 then xB2 (L_X7_row o (48) (57) w2) fun v5 w6 => J_X7_advance_188 o  (v5) w6 else J_X7_advance_188 o  (1) w2
set_option maxRecDepth 20000 in
theorem J_X7_advance_143_ok {G : aG} {Hf : wS → aH} {bx : Nat} {o : wO} {y1 : Int32} {w : wS} {r : wS} (hG : aGood G) (hX : aTxt G) (E : EX Hf bx o) (hL : J_X7_advance_143 o  y1 w = some r) : AG G M_X7_advance 143 [some (.ref (bx + 2)), none] [.int (y1), .ref (bx + 2)] (Hf w) (.inl none, Hf r) := by
  unfold J_X7_advance_143 at hL
  refine s_putI (k := 2) (j := 2) E.1 hL rfl rfl (by decide) fw_X7_19 rfl rfl dX7_advance_143 ?_
  intro w2 hL
  refine g_aload_n dX7_advance_146 rfl rfl ?_
  refine g_aload_n dX7_advance_147 rfl rfl ?_
  refine s_getI (k := 2) (j := 2) E.1 hL rfl rfl f_X7_19 dX7_advance_148 ?_
  intro v3 hL
  refine g_bipush (v := 97) dX7_advance_151 (by decide) ?_
  refine g_icmp_ne (tgt := 167) dX7_advance_153 (by decide) (fun q10 => ?_) (fun q10 => ?_)
  · rw [if_neg q10] at hL
    refine g_aload_n dX7_advance_167 rfl rfl ?_
    refine s_getI (k := 2) (j := 2) E.1 hL rfl rfl f_X7_19 dX7_advance_168 ?_
    intro v4 hL
    refine g_bipush (v := 48) dX7_advance_171 (by decide) ?_
    refine g_icmp_ne (tgt := 187) dX7_advance_173 (by decide) (fun q7 => ?_) (fun q7 => ?_)
    · rw [if_neg q7] at hL
      refine g_none 0 ?_
      refine g_iconst (v := 1) dX7_advance_187 (by decide) ?_
      exact J_X7_advance_188_ok hG hX E hL 
    · rw [if_pos q7] at hL
      refine g_aload_n dX7_advance_176 rfl rfl ?_
      refine g_none 0 ?_
      refine g_bipush (v := 48) dX7_advance_177 (by decide) ?_
      refine g_bipush (v := 57) dX7_advance_179 (by decide) ?_
      obtain ⟨v5, w6, hc, hL⟩ := xB2_some hL
      refine g_callV (M' := M_X7_row) (as := [.int (48), .int (57)]) (v := some (.int (v5))) l_X7_44 kV_X7_row (by decide) (C_X7_row hG hX E hc) rfl (by have := E.1.1; omega) (E.1.2.1 _ 2 _ rfl) ⟨_, _, rfl⟩ (Nat.le_of_ble_eq_true rfl) dX7_advance_181 ?_
      refine g_goto (tgt := 188) dX7_advance_184 (by decide) ?_
      exact J_X7_advance_188_ok hG hX E hL 
  · rw [if_pos q10] at hL
    refine g_aload_n dX7_advance_156 rfl rfl ?_
    refine g_none 0 ?_
    refine g_bipush (v := 97) dX7_advance_157 (by decide) ?_
    refine g_bipush (v := 122) dX7_advance_159 (by decide) ?_
    obtain ⟨v8, w9, hc, hL⟩ := xB2_some hL
    refine g_callV (M' := M_X7_row) (as := [.int (97), .int (122)]) (v := some (.int (v8))) l_X7_44 kV_X7_row (by decide) (C_X7_row hG hX E hc) rfl (by have := E.1.1; omega) (E.1.2.1 _ 2 _ rfl) ⟨_, _, rfl⟩ (Nat.le_of_ble_eq_true rfl) dX7_advance_161 ?_
    refine g_goto (tgt := 188) dX7_advance_164 (by decide) ?_
    exact J_X7_advance_188_ok hG hX E hL 
def J_X7_advance_131 (o : wO) (x1 : Int32) (w : wS) : Option (wS) :=
  xB (L_X7_isSign (x1)) fun v11 => if v11 = 0 then J_X7_advance_143 o  (1) w else J_X7_advance_143 o  (x1) w
set_option maxRecDepth 20000 in
theorem J_X7_advance_131_ok {G : aG} {Hf : wS → aH} {bx : Nat} {o : wO} {x1 : Int32} {w : wS} {r : wS} (hG : aGood G) (hX : aTxt G) (E : EX Hf bx o) (hL : J_X7_advance_131 o  x1 w = some r) : AG G M_X7_advance 131 [some (.ref (bx + 2)), some (.int (x1))] [.ref (bx + 2)] (Hf w) (.inl none, Hf r) := by
  unfold J_X7_advance_131 at hL
  refine g_iload_n dX7_advance_131 rfl rfl ?_
  obtain ⟨v11, hc, hL⟩ := xB_some hL
  refine g_callS (M' := M_X7_isSign) (as := [.int (x1)]) (v := some (.int (v11))) l_X7_40 kS_X7_isSign (by decide) (C_X7_isSign hc) rfl (Nat.le_of_ble_eq_true rfl) dX7_advance_132 ?_
  refine g_if_eq (tgt := 142) dX7_advance_135 (by decide) (fun q12 => ?_) (fun q12 => ?_)
  · rw [if_pos q12] at hL
    refine g_none 1 ?_
    refine g_iconst (v := 1) dX7_advance_142 (by decide) ?_
    exact J_X7_advance_143_ok hG hX E hL 
  · rw [if_neg q12] at hL
    refine g_iload_n dX7_advance_138 rfl rfl ?_
    refine g_none 1 ?_
    refine g_goto (tgt := 143) dX7_advance_139 (by decide) ?_
    exact J_X7_advance_143_ok hG hX E hL 
def J_X7_advance_114 (o : wO) (x1 : Int32) (w : wS) : Option (wS) :=
  if x1 < 48 then J_X7_advance_131 o  (x1) w else if 57 < x1 then J_X7_advance_131 o  (x1) w else J_X7_advance_143 o  (48) w
set_option maxRecDepth 20000 in
theorem J_X7_advance_114_ok {G : aG} {Hf : wS → aH} {bx : Nat} {o : wO} {x1 : Int32} {w : wS} {r : wS} (hG : aGood G) (hX : aTxt G) (E : EX Hf bx o) (hL : J_X7_advance_114 o  x1 w = some r) : AG G M_X7_advance 114 [some (.ref (bx + 2)), some (.int (x1))] [.ref (bx + 2)] (Hf w) (.inl none, Hf r) := by
  unfold J_X7_advance_114 at hL
  refine g_iload_n dX7_advance_114 rfl rfl ?_
  refine g_bipush (v := 48) dX7_advance_115 (by decide) ?_
  refine g_icmp_lt (tgt := 131) dX7_advance_117 (by decide) (fun q14 => ?_) (fun q14 => ?_)
  · rw [if_pos q14] at hL
    exact J_X7_advance_131_ok hG hX E hL 
  · rw [if_neg q14] at hL
    refine g_iload_n dX7_advance_120 rfl rfl ?_
    refine g_bipush (v := 57) dX7_advance_121 (by decide) ?_
    refine g_icmp_gt (tgt := 131) dX7_advance_123 (by decide) (fun q13 => ?_) (fun q13 => ?_)
    · rw [if_pos q13] at hL
      exact J_X7_advance_131_ok hG hX E hL 
    · rw [if_neg q13] at hL
      refine g_none 1 ?_
      refine g_bipush (v := 48) dX7_advance_126 (by decide) ?_
      refine g_goto (tgt := 143) dX7_advance_128 (by decide) ?_
      exact J_X7_advance_143_ok hG hX E hL 
def J_X7_advance_65 (o : wO) (w : wS) : Option (wS) :=
  xB (xPut w 202 (0)) fun w15 => xB (xPut w15 204 (0)) fun w16 => xB (xGet w16 203) fun v17 => xB (xGet w16 205) fun v18 => if v18 ≤ v17 then J_X7_advance_191 o   w16 else xB (xGet w16 203) fun v19 => xB (xAld w16 3 700 (v19)) fun v20 => if v20 < 97 then J_X7_advance_114 o  (v20) w16 else if 122 < v20 then J_X7_advance_114 o  (v20) w16 else J_X7_advance_143 o  (97) w16
set_option maxRecDepth 20000 in
theorem J_X7_advance_65_ok {G : aG} {Hf : wS → aH} {bx : Nat} {o : wO} {w : wS} {r : wS} (hG : aGood G) (hX : aTxt G) (E : EX Hf bx o) (hL : J_X7_advance_65 o   w = some r) : AG G M_X7_advance 65 [some (.ref (bx + 2)), none] [] (Hf w) (.inl none, Hf r) := by
  unfold J_X7_advance_65 at hL
  refine g_aload_n dX7_advance_65 rfl rfl ?_
  refine g_iconst (v := 0) dX7_advance_66 (by decide) ?_
  refine s_putI (k := 2) (j := 2) E.1 hL rfl rfl (by decide) fw_X7_19 rfl rfl dX7_advance_67 ?_
  intro w15 hL
  refine g_aload_n dX7_advance_70 rfl rfl ?_
  refine g_iconst (v := 0) dX7_advance_71 (by decide) ?_
  refine s_putI (k := 2) (j := 4) E.1 hL rfl rfl (by decide) fw_X7_25 rfl rfl dX7_advance_72 ?_
  intro w16 hL
  refine g_aload_n dX7_advance_75 rfl rfl ?_
  refine s_getI (k := 2) (j := 3) E.1 hL rfl rfl f_X7_22 dX7_advance_76 ?_
  intro v17 hL
  refine g_aload_n dX7_advance_79 rfl rfl ?_
  refine s_getI (k := 2) (j := 5) E.1 hL rfl rfl f_X7_28 dX7_advance_80 ?_
  intro v18 hL
  refine g_icmp_ge (tgt := 191) dX7_advance_83 (by decide) (fun q23 => ?_) (fun q23 => ?_)
  · rw [if_pos q23] at hL
    refine g_none 0 ?_
    exact J_X7_advance_191_ok hG hX E hL 
  · rw [if_neg q23] at hL
    refine g_aload_n dX7_advance_86 rfl rfl ?_
    refine s_getR (k := 2) (j := 0) E.1 rfl rfl f_X7_9 dX7_advance_87 ?_
    refine g_aload_n dX7_advance_90 rfl rfl ?_
    refine s_getI (k := 2) (j := 3) E.1 hL rfl rfl f_X7_22 dX7_advance_91 ?_
    intro v19 hL
    refine s_bald (k := 3) E.1 hL rfl dX7_advance_94 ?_
    intro v20 hL
    refine g_istore_n (i := 1) dX7_advance_95 rfl (by decide) rfl ?_
    refine g_aload_n dX7_advance_96 rfl rfl ?_
    refine g_iload_n dX7_advance_97 rfl rfl ?_
    refine g_bipush (v := 97) dX7_advance_98 (by decide) ?_
    refine g_icmp_lt (tgt := 114) dX7_advance_100 (by decide) (fun q22 => ?_) (fun q22 => ?_)
    · rw [if_pos q22] at hL
      exact J_X7_advance_114_ok hG hX E hL 
    · rw [if_neg q22] at hL
      refine g_iload_n dX7_advance_103 rfl rfl ?_
      refine g_bipush (v := 122) dX7_advance_104 (by decide) ?_
      refine g_icmp_gt (tgt := 114) dX7_advance_106 (by decide) (fun q21 => ?_) (fun q21 => ?_)
      · rw [if_pos q21] at hL
        exact J_X7_advance_114_ok hG hX E hL 
      · rw [if_neg q21] at hL
        refine g_none 1 ?_
        refine g_bipush (v := 97) dX7_advance_109 (by decide) ?_
        refine g_goto (tgt := 143) dX7_advance_111 (by decide) ?_
        exact J_X7_advance_143_ok hG hX E hL 
def J_X7_advance_52 (o : wO) (kh13 : wS → Option (wS)) (ke65 : wS → Option (wS)) (w : wS) : Option (wS) :=
  xB (xGet w 203) fun v24 => xB (xPut w 203 ((v24 + (1 : Int32)))) fun w25 => kh13  w25
set_option maxRecDepth 20000 in
theorem J_X7_advance_52_ok {G : aG} {Hf : wS → aH} {bx : Nat} {o : wO} {kh13 : wS → Option (wS)} {ke65 : wS → Option (wS)} {w : wS} {r : wS} (hG : aGood G) (hX : aTxt G) (E : EX Hf bx o) (hL : J_X7_advance_52 o kh13 ke65  w = some r) (Hkh13 : ∀ (w : wS), kh13  w = some r → AG G M_X7_advance 13 [some (.ref (bx + 2)), none] [] (Hf w) (.inl none, Hf r)) (Hke65 : ∀ (w : wS), ke65  w = some r → AG G M_X7_advance 65 [some (.ref (bx + 2)), none] [] (Hf w) (.inl none, Hf r)) : AG G M_X7_advance 52 [some (.ref (bx + 2)), none] [] (Hf w) (.inl none, Hf r) := by
  unfold J_X7_advance_52 at hL
  refine g_aload_n dX7_advance_52 rfl rfl ?_
  refine g_dup dX7_advance_53 rfl ?_
  refine s_getI (k := 2) (j := 3) E.1 hL rfl rfl f_X7_22 dX7_advance_54 ?_
  intro v24 hL
  refine g_iconst (v := 1) dX7_advance_57 (by decide) ?_
  refine g_iadd dX7_advance_58 ?_
  refine s_putI (k := 2) (j := 3) E.1 hL rfl rfl (by decide) fw_X7_22 rfl rfl dX7_advance_59 ?_
  intro w25 hL
  refine g_goto (tgt := 13) dX7_advance_62 (by decide) ?_
  exact Hkh13  _ hL
def B_X7_advance_13 (o : wO) (kh13 : wS → Option (wS)) (ke65 : wS → Option (wS)) (w : wS) : Option (wS) :=
  xB (xGet w 203) fun v26 => xB (xGet w 205) fun v27 => if v27 ≤ v26 then ke65  w else xB (xGet w 203) fun v28 => xB (xAld w 3 700 (v28)) fun v29 => if v29 = 32 then J_X7_advance_52 o kh13 ke65  w else xB (xGet w 203) fun v30 => xB (xAld w 3 700 (v30)) fun v31 => if v31 = 10 then J_X7_advance_52 o kh13 ke65  w else ke65  w
set_option maxRecDepth 20000 in
theorem B_X7_advance_13_ok {G : aG} {Hf : wS → aH} {bx : Nat} {o : wO} {kh13 : wS → Option (wS)} {ke65 : wS → Option (wS)} {w : wS} {r : wS} (hG : aGood G) (hX : aTxt G) (E : EX Hf bx o) (hL : B_X7_advance_13 o kh13 ke65  w = some r) (Hkh13 : ∀ (w : wS), kh13  w = some r → AG G M_X7_advance 13 [some (.ref (bx + 2)), none] [] (Hf w) (.inl none, Hf r)) (Hke65 : ∀ (w : wS), ke65  w = some r → AG G M_X7_advance 65 [some (.ref (bx + 2)), none] [] (Hf w) (.inl none, Hf r)) : AG G M_X7_advance 13 [some (.ref (bx + 2)), none] [] (Hf w) (.inl none, Hf r) := by
  unfold B_X7_advance_13 at hL
  refine g_aload_n dX7_advance_13 rfl rfl ?_
  refine s_getI (k := 2) (j := 3) E.1 hL rfl rfl f_X7_22 dX7_advance_14 ?_
  intro v26 hL
  refine g_aload_n dX7_advance_17 rfl rfl ?_
  refine s_getI (k := 2) (j := 5) E.1 hL rfl rfl f_X7_28 dX7_advance_18 ?_
  intro v27 hL
  refine g_icmp_ge (tgt := 65) dX7_advance_21 (by decide) (fun q34 => ?_) (fun q34 => ?_)
  · rw [if_pos q34] at hL
    exact Hke65  _ hL
  · rw [if_neg q34] at hL
    refine g_aload_n dX7_advance_24 rfl rfl ?_
    refine s_getR (k := 2) (j := 0) E.1 rfl rfl f_X7_9 dX7_advance_25 ?_
    refine g_aload_n dX7_advance_28 rfl rfl ?_
    refine s_getI (k := 2) (j := 3) E.1 hL rfl rfl f_X7_22 dX7_advance_29 ?_
    intro v28 hL
    refine s_bald (k := 3) E.1 hL rfl dX7_advance_32 ?_
    intro v29 hL
    refine g_bipush (v := 32) dX7_advance_33 (by decide) ?_
    refine g_icmp_eq (tgt := 52) dX7_advance_35 (by decide) (fun q33 => ?_) (fun q33 => ?_)
    · rw [if_pos q33] at hL
      exact J_X7_advance_52_ok hG hX E hL Hkh13 Hke65
    · rw [if_neg q33] at hL
      refine g_aload_n dX7_advance_38 rfl rfl ?_
      refine s_getR (k := 2) (j := 0) E.1 rfl rfl f_X7_9 dX7_advance_39 ?_
      refine g_aload_n dX7_advance_42 rfl rfl ?_
      refine s_getI (k := 2) (j := 3) E.1 hL rfl rfl f_X7_22 dX7_advance_43 ?_
      intro v30 hL
      refine s_bald (k := 3) E.1 hL rfl dX7_advance_46 ?_
      intro v31 hL
      refine g_bipush (v := 10) dX7_advance_47 (by decide) ?_
      refine g_icmp_ne (tgt := 65) dX7_advance_49 (by decide) (fun q32 => ?_) (fun q32 => ?_)
      · rw [if_neg q32] at hL
        exact Hke65  _ hL
      · rw [if_pos q32] at hL
        exact J_X7_advance_52_ok hG hX E hL Hkh13 Hke65
def P_X7_advance_13 (o : wO) (ke65 : wS → Option (wS)) (n : Nat) (w : wS) : Option (wS) :=
  xLoop (fun (kk : wS → Option (wS)) σ => B_X7_advance_13 o (fun w => kk (w)) ke65 (σ)) n (w)
theorem P_X7_advance_13_ok {G : aG} {Hf : wS → aH} {bx : Nat} {o : wO} {ke65 : wS → Option (wS)} {n : Nat} {w : wS} {r : wS} (hG : aGood G) (hX : aTxt G) (E : EX Hf bx o) (hL : P_X7_advance_13 o ke65 n  w = some r) (Hke65 : ∀ (w : wS), ke65  w = some r → AG G M_X7_advance 65 [some (.ref (bx + 2)), none] [] (Hf w) (.inl none, Hf r)) : AG G M_X7_advance 13 [some (.ref (bx + 2)), none] [] (Hf w) (.inl none, Hf r) :=
  xLoop_ok (Q := fun (σ : wS) => AG G M_X7_advance 13 [some (.ref (bx + 2)), none] [] (Hf σ) (.inl none, Hf r)) (fun kk hk σ hσ => B_X7_advance_13_ok hG hX E hσ (fun w h9 => hk (w) h9) Hke65) n (w) hL
def L_X7_advance (o : wO) (w : wS) : Option (wS) :=
  xB (xGet w 203) fun v35 => xB (xGet w 204) fun v36 => xB (xPut w 203 ((v35 + v36))) fun w37 => P_X7_advance_13 o (fun w38 => J_X7_advance_65 o   w38) 5000  w37
set_option maxRecDepth 20000 in
theorem C_X7_advance {G : aG} {Hf : wS → aH} {bx : Nat} {o : wO} {w : wS} {r : wS} (hG : aGood G) (hX : aTxt G) (E : EX Hf bx o) (hL : L_X7_advance o  w = some r) : AC G M_X7_advance [.ref (bx + 2)] (Hf w) (.inl none, Hf r) := by
  unfold L_X7_advance at hL
  refine AC.of (by decide) rfl (Nat.le_of_ble_eq_true rfl) ?_
  show AG G M_X7_advance 0 [some (.ref (bx + 2)), none] [] _ _
  refine g_aload_n dX7_advance_0 rfl rfl ?_
  refine g_dup dX7_advance_1 rfl ?_
  refine s_getI (k := 2) (j := 3) E.1 hL rfl rfl f_X7_22 dX7_advance_2 ?_
  intro v35 hL
  refine g_aload_n dX7_advance_5 rfl rfl ?_
  refine s_getI (k := 2) (j := 4) E.1 hL rfl rfl f_X7_25 dX7_advance_6 ?_
  intro v36 hL
  refine g_iadd dX7_advance_9 ?_
  refine s_putI (k := 2) (j := 3) E.1 hL rfl rfl (by decide) fw_X7_22 rfl rfl dX7_advance_10 ?_
  intro w37 hL
  refine P_X7_advance_13_ok hG hX E hL ?_
  · intro w38 hL
    exact J_X7_advance_65_ok hG hX E hL 
def L_X7_open (o : wO) (a1 : Int32) (w : wS) : Option (wS) :=
  xB (xGet w 201) fun v1 => xB (xPut w 205 ((xMin (a1) (v1)))) fun w2 => xB (xPut w2 203 (0)) fun w3 => xB (xPut w3 204 (0)) fun w4 => xB (L_X7_advance o  w4) fun w5 => some w5
set_option maxRecDepth 20000 in
theorem C_X7_open {G : aG} {Hf : wS → aH} {bx : Nat} {o : wO} {a1 : Int32} {w : wS} {r : wS} (hG : aGood G) (hX : aTxt G) (E : EX Hf bx o) (hL : L_X7_open o a1 w = some r) : AC G M_X7_open [.ref (bx + 2), .int a1] (Hf w) (.inl none, Hf r) := by
  unfold L_X7_open at hL
  refine AC.of (by decide) rfl (Nat.le_of_ble_eq_true rfl) ?_
  show AG G M_X7_open 0 [some (.ref (bx + 2)), some (.int (a1))] [] _ _
  refine g_aload_n dX7_open_0 rfl rfl ?_
  refine g_iload_n dX7_open_1 rfl rfl ?_
  refine g_none 1 ?_
  refine g_aload_n dX7_open_2 rfl rfl ?_
  refine s_getI (k := 2) (j := 1) E.1 hL rfl rfl f_X7_15 dX7_open_3 ?_
  intro v1 hL
  refine g_mmin (aIn1 725 (by decide +kernel) rfl) mmin_1 mmin_2 mmin_3 (by decide) (Nat.le_of_ble_eq_true rfl) dX7_open_6 ?_
  refine s_putI (k := 2) (j := 5) E.1 hL rfl rfl (by decide) fw_X7_28 rfl rfl dX7_open_9 ?_
  intro w2 hL
  refine g_aload_n dX7_open_12 rfl rfl ?_
  refine g_iconst (v := 0) dX7_open_13 (by decide) ?_
  refine s_putI (k := 2) (j := 3) E.1 hL rfl rfl (by decide) fw_X7_22 rfl rfl dX7_open_14 ?_
  intro w3 hL
  refine g_aload_n dX7_open_17 rfl rfl ?_
  refine g_iconst (v := 0) dX7_open_18 (by decide) ?_
  refine s_putI (k := 2) (j := 4) E.1 hL rfl rfl (by decide) fw_X7_25 rfl rfl dX7_open_19 ?_
  intro w4 hL
  refine g_aload_n dX7_open_22 rfl rfl ?_
  refine g_none 0 ?_
  obtain ⟨w5, hc, hL⟩ := xB_some hL
  refine g_callV (M' := M_X7_advance) (as := []) (v := none) l_X7_37 kV_X7_advance (by decide) (C_X7_advance hG hX E hc) rfl (by have := E.1.1; omega) (E.1.2.1 _ 2 _ rfl) ⟨_, _, rfl⟩ (Nat.le_of_ble_eq_true rfl) dX7_open_23 ?_
  obtain rfl := Option.some.inj hL
  exact g_vret rfl dX7_open_26
def B_X7_value_14 (o : wO) (kh14 : Int32 → Int32 → wS → Option (Int32 × wS)) (ke48 : Int32 → wS → Option (Int32 × wS)) (x1 : Int32) (x2 : Int32) (w : wS) : Option (Int32 × wS) :=
  xB (xGet w 204) fun v1 => if v1 ≤ x2 then ke48 (x1) w else xB (xGet w 203) fun v2 => xB (xAld w 3 700 ((v2 + x2))) fun v3 => kh14 (((((10 : Int32) * x1) + v3) - (48 : Int32))) ((x2 + 1)) w
set_option maxRecDepth 20000 in
theorem B_X7_value_14_ok {G : aG} {Hf : wS → aH} {bx : Nat} {o : wO} {kh14 : Int32 → Int32 → wS → Option (Int32 × wS)} {ke48 : Int32 → wS → Option (Int32 × wS)} {x1 : Int32} {x2 : Int32} {w : wS} {r : Int32 × wS} (hG : aGood G) (hX : aTxt G) (E : EX Hf bx o) (hL : B_X7_value_14 o kh14 ke48 x1 x2 w = some r) (Hkh14 : ∀ (z0 : Int32) (z1 : Int32) (w : wS), kh14 z0 z1 w = some r → AG G M_X7_value 14 [some (.ref (bx + 2)), some (.int (z0)), some (.int (z1))] [] (Hf w) (.inl (some (.int r.1)), Hf r.2)) (Hke48 : ∀ (z0 : Int32) (w : wS), ke48 z0 w = some r → AG G M_X7_value 48 [none, some (.int (z0)), none] [] (Hf w) (.inl (some (.int r.1)), Hf r.2)) : AG G M_X7_value 14 [some (.ref (bx + 2)), some (.int (x1)), some (.int (x2))] [] (Hf w) (.inl (some (.int r.1)), Hf r.2) := by
  unfold B_X7_value_14 at hL
  refine g_iload_n dX7_value_14 rfl rfl ?_
  refine g_aload_n dX7_value_15 rfl rfl ?_
  refine s_getI (k := 2) (j := 4) E.1 hL rfl rfl f_X7_25 dX7_value_16 ?_
  intro v1 hL
  refine g_icmp_ge (tgt := 48) dX7_value_19 (by decide) (fun q4 => ?_) (fun q4 => ?_)
  · rw [if_pos q4] at hL
    refine g_none 0 ?_
    refine g_none 2 ?_
    exact Hke48 _ _ hL
  · rw [if_neg q4] at hL
    refine g_bipush (v := 10) dX7_value_22 (by decide) ?_
    refine g_iload_n dX7_value_24 rfl rfl ?_
    refine g_none 1 ?_
    refine g_imul dX7_value_25 ?_
    refine g_aload_n dX7_value_26 rfl rfl ?_
    refine s_getR (k := 2) (j := 0) E.1 rfl rfl f_X7_9 dX7_value_27 ?_
    refine g_aload_n dX7_value_30 rfl rfl ?_
    refine s_getI (k := 2) (j := 3) E.1 hL rfl rfl f_X7_22 dX7_value_31 ?_
    intro v2 hL
    refine g_iload_n dX7_value_34 rfl rfl ?_
    refine g_iadd dX7_value_35 ?_
    refine s_bald (k := 3) E.1 hL rfl dX7_value_36 ?_
    intro v3 hL
    refine g_iadd dX7_value_37 ?_
    refine g_bipush (v := 48) dX7_value_38 (by decide) ?_
    refine g_isub dX7_value_40 ?_
    refine g_istore_n (i := 1) dX7_value_41 rfl (by decide) rfl ?_
    refine g_iincV (v := (x2 + 1)) dX7_value_42 rfl rfl (by decide) rfl ?_
    refine g_goto (tgt := 14) dX7_value_45 (by decide) ?_
    exact Hkh14 _ _ _ hL
def P_X7_value_14 (o : wO) (ke48 : Int32 → wS → Option (Int32 × wS)) (n : Nat) (x1 : Int32) (x2 : Int32) (w : wS) : Option (Int32 × wS) :=
  xLoop (fun (kk : Int32 × Int32 × wS → Option (Int32 × wS)) σ => B_X7_value_14 o (fun x1 x2 w => kk (x1, x2, w)) ke48 (σ.1) (σ.2.1) (σ.2.2)) n (x1, x2, w)
theorem P_X7_value_14_ok {G : aG} {Hf : wS → aH} {bx : Nat} {o : wO} {ke48 : Int32 → wS → Option (Int32 × wS)} {n : Nat} {x1 : Int32} {x2 : Int32} {w : wS} {r : Int32 × wS} (hG : aGood G) (hX : aTxt G) (E : EX Hf bx o) (hL : P_X7_value_14 o ke48 n x1 x2 w = some r) (Hke48 : ∀ (z0 : Int32) (w : wS), ke48 z0 w = some r → AG G M_X7_value 48 [none, some (.int (z0)), none] [] (Hf w) (.inl (some (.int r.1)), Hf r.2)) : AG G M_X7_value 14 [some (.ref (bx + 2)), some (.int (x1)), some (.int (x2))] [] (Hf w) (.inl (some (.int r.1)), Hf r.2) :=
  xLoop_ok (Q := fun (σ : Int32 × Int32 × wS) => AG G M_X7_value 14 [some (.ref (bx + 2)), some (.int (σ.1)), some (.int (σ.2.1))] [] (Hf σ.2.2) (.inl (some (.int r.1)), Hf r.2)) (fun kk hk σ hσ => B_X7_value_14_ok hG hX E hσ (fun x1 x2 w h9 => hk (x1, x2, w) h9) Hke48) n (x1, x2, w) hL
def L_X7_value (o : wO) (w : wS) : Option (Int32 × wS) :=
  xB (xGet w 204) fun v5 => if v5 ≤ 4 then P_X7_value_14 o (fun z6 w7 => some (z6, w7)) 5000 (0) (0) w else some ((-1), w)
set_option maxRecDepth 20000 in
theorem C_X7_value {G : aG} {Hf : wS → aH} {bx : Nat} {o : wO} {w : wS} {r : Int32 × wS} (hG : aGood G) (hX : aTxt G) (E : EX Hf bx o) (hL : L_X7_value o  w = some r) : AC G M_X7_value [.ref (bx + 2)] (Hf w) (.inl (some (.int r.1)), Hf r.2) := by
  unfold L_X7_value at hL
  refine AC.of (by decide) rfl (Nat.le_of_ble_eq_true rfl) ?_
  show AG G M_X7_value 0 [some (.ref (bx + 2)), none, none] [] _ _
  refine g_aload_n dX7_value_0 rfl rfl ?_
  refine s_getI (k := 2) (j := 4) E.1 hL rfl rfl f_X7_25 dX7_value_1 ?_
  intro v5 hL
  refine g_iconst (v := 4) dX7_value_4 (by decide) ?_
  refine g_icmp_le (tgt := 10) dX7_value_5 (by decide) (fun q8 => ?_) (fun q8 => ?_)
  · rw [if_pos q8] at hL
    refine g_iconst (v := 0) dX7_value_10 (by decide) ?_
    refine g_istore_n (i := 1) dX7_value_11 rfl (by decide) rfl ?_
    refine g_iconst (v := 0) dX7_value_12 (by decide) ?_
    refine g_istore_n (i := 2) dX7_value_13 rfl (by decide) rfl ?_
    refine P_X7_value_14_ok hG hX E hL ?_
    · intro z6 w7 hL
      refine g_iload_n dX7_value_48 rfl rfl ?_
      refine g_none 1 ?_
      obtain rfl := Option.some.inj hL
      exact g_iret rfl dX7_value_49
  · rw [if_neg q8] at hL
    refine g_none 0 ?_
    refine g_iconst (v := (-1)) dX7_value_8 (by decide) ?_
    obtain rfl := Option.some.inj hL
    exact g_iret rfl dX7_value_9
def L_X2_refuse (o : wO) (a1 : Int32) (w : wS) : Option (Int32 × wS) :=
  xB (xPut w 101 (a1)) fun w1 => xB (xGet w1 203) fun v2 => xB (xPut w1 102 (v2)) fun w3 => some (0, w3)
set_option maxRecDepth 20000 in
theorem C_X2_refuse {G : aG} {Hf : wS → aH} {bx : Nat} {o : wO} {a1 : Int32} {w : wS} {r : Int32 × wS} (hG : aGood G) (hX : aTxt G) (E : EX Hf bx o) (hL : L_X2_refuse o a1 w = some r) : AC G M_X2_refuse [.ref (bx + 1), .int a1] (Hf w) (.inl (some (.int r.1)), Hf r.2) := by
  unfold L_X2_refuse at hL
  refine AC.of (by decide) rfl (Nat.le_of_ble_eq_true rfl) ?_
  show AG G M_X2_refuse 0 [some (.ref (bx + 1)), some (.int (a1))] [] _ _
  refine g_aload_n dX2_refuse_0 rfl rfl ?_
  refine g_iload_n dX2_refuse_1 rfl rfl ?_
  refine g_none 1 ?_
  refine s_putI (k := 1) (j := 1) E.1 hL rfl rfl (by decide) fw_X2_18 rfl rfl dX2_refuse_2 ?_
  intro w1 hL
  refine g_aload_n dX2_refuse_5 rfl rfl ?_
  refine g_aload_n dX2_refuse_6 rfl rfl ?_
  refine g_none 0 ?_
  refine s_getR (k := 1) (j := 0) E.1 rfl rfl f_X2_12 dX2_refuse_7 ?_
  refine s_getI (k := 2) (j := 3) E.1 hL rfl rfl f_X2_57 dX2_refuse_10 ?_
  intro v2 hL
  refine s_putI (k := 1) (j := 2) E.1 hL rfl rfl (by decide) fw_X2_22 rfl rfl dX2_refuse_13 ?_
  intro w3 hL
  refine g_iconst (v := 0) dX2_refuse_16 (by decide) ?_
  obtain rfl := Option.some.inj hL
  exact g_zret rfl (by decide) dX2_refuse_17
def L_X2_taken (o : wO) (a1 : Int32) (w : wS) : Option (Int32 × wS) :=
  xB (xGet w 202) fun v1 => if v1 = a1 then xB (L_X7_advance o  w) fun w2 => some (1, w2) else xB2 (L_X2_refuse o (1) w) fun v3 w4 => xB (xBool (v3)) fun v5 => some (v5, w4)
set_option maxRecDepth 20000 in
theorem C_X2_taken {G : aG} {Hf : wS → aH} {bx : Nat} {o : wO} {a1 : Int32} {w : wS} {r : Int32 × wS} (hG : aGood G) (hX : aTxt G) (E : EX Hf bx o) (hL : L_X2_taken o a1 w = some r) : AC G M_X2_taken [.ref (bx + 1), .int a1] (Hf w) (.inl (some (.int r.1)), Hf r.2) := by
  unfold L_X2_taken at hL
  refine AC.of (by decide) rfl (Nat.le_of_ble_eq_true rfl) ?_
  show AG G M_X2_taken 0 [some (.ref (bx + 1)), some (.int (a1))] [] _ _
  refine g_aload_n dX2_taken_0 rfl rfl ?_
  refine s_getR (k := 1) (j := 0) E.1 rfl rfl f_X2_12 dX2_taken_1 ?_
  refine s_getI (k := 2) (j := 2) E.1 hL rfl rfl f_X2_50 dX2_taken_4 ?_
  intro v1 hL
  refine g_iload_n dX2_taken_7 rfl rfl ?_
  refine g_none 1 ?_
  refine g_icmp_eq (tgt := 17) dX2_taken_8 (by decide) (fun q6 => ?_) (fun q6 => ?_)
  · rw [if_pos q6] at hL
    refine g_aload_n dX2_taken_17 rfl rfl ?_
    refine g_none 0 ?_
    refine s_getR (k := 1) (j := 0) E.1 rfl rfl f_X2_12 dX2_taken_18 ?_
    obtain ⟨w2, hc, hL⟩ := xB_some hL
    refine g_callV (M' := M_X7_advance) (as := []) (v := none) l_X2_99 kV_X7_advance (by decide) (C_X7_advance hG hX E hc) rfl (by have := E.1.1; omega) (E.1.2.1 _ 2 _ rfl) ⟨_, _, rfl⟩ (Nat.le_of_ble_eq_true rfl) dX2_taken_21 ?_
    refine g_iconst (v := 1) dX2_taken_24 (by decide) ?_
    obtain rfl := Option.some.inj hL
    exact g_zret rfl (by decide) dX2_taken_25
  · rw [if_neg q6] at hL
    refine g_aload_n dX2_taken_11 rfl rfl ?_
    refine g_none 0 ?_
    refine g_iconst (v := 1) dX2_taken_12 (by decide) ?_
    obtain ⟨v3, w4, hc, hL⟩ := xB2_some hL
    refine g_callV (M' := M_X2_refuse) (as := [.int (1)]) (v := some (.int (v3))) l_X2_92 kV_X2_refuse (by decide) (C_X2_refuse hG hX E hc) rfl (by have := E.1.1; omega) (E.1.2.1 _ 1 _ rfl) ⟨_, _, rfl⟩ (Nat.le_of_ble_eq_true rfl) dX2_taken_13 ?_
    obtain ⟨v5, hb, hR⟩ := xB_some hL
    obtain ⟨hz, hb2⟩ := xBool_some hb
    clear hL
    subst hz
    obtain rfl := Option.some.inj hR
    exact g_zret rfl (narrow_bool hb2) dX2_taken_16
def J_X2_number_71 (o : wO) (x3 : Int32) (w : wS) : Option (Int32 × wS) :=
  some (x3, w)
set_option maxRecDepth 20000 in
theorem J_X2_number_71_ok {G : aG} {Hf : wS → aH} {bx : Nat} {o : wO} {x3 : Int32} {w : wS} {r : Int32 × wS} (hG : aGood G) (hX : aTxt G) (E : EX Hf bx o) (hL : J_X2_number_71 o  x3 w = some r) : AG G M_X2_number 71 [none, none, none, some (.int (x3))] [] (Hf w) (.inl (some (.int r.1)), Hf r.2) := by
  unfold J_X2_number_71 at hL
  refine g_iload_n dX2_number_71 rfl rfl ?_
  refine g_none 3 ?_
  obtain rfl := Option.some.inj hL
  exact g_iret rfl dX2_number_72
def J_X2_number_55 (o : wO) (x3 : Int32) (w : wS) : Option (Int32 × wS) :=
  xB2 (L_X2_refuse o (2) w) fun v1 w2 => J_X2_number_71 o  (x3) w2
set_option maxRecDepth 20000 in
theorem J_X2_number_55_ok {G : aG} {Hf : wS → aH} {bx : Nat} {o : wO} {x3 : Int32} {w : wS} {r : Int32 × wS} (hG : aGood G) (hX : aTxt G) (E : EX Hf bx o) (hL : J_X2_number_55 o  x3 w = some r) : AG G M_X2_number 55 [some (.ref (bx + 1)), none, none, some (.int (x3))] [] (Hf w) (.inl (some (.int r.1)), Hf r.2) := by
  unfold J_X2_number_55 at hL
  refine g_aload_n dX2_number_55 rfl rfl ?_
  refine g_none 0 ?_
  refine g_iconst (v := 2) dX2_number_56 (by decide) ?_
  obtain ⟨v1, w2, hc, hL⟩ := xB2_some hL
  refine g_callV (M' := M_X2_refuse) (as := [.int (2)]) (v := some (.int (v1))) l_X2_92 kV_X2_refuse (by decide) (C_X2_refuse hG hX E hc) rfl (by have := E.1.1; omega) (E.1.2.1 _ 1 _ rfl) ⟨_, _, rfl⟩ (Nat.le_of_ble_eq_true rfl) dX2_number_57 ?_
  refine g_pop dX2_number_60 rfl ?_
  refine g_goto (tgt := 71) dX2_number_61 (by decide) ?_
  exact J_X2_number_71_ok hG hX E hL 
def J_X2_number_23 (o : wO) (x1 : Int32) (x2 : Int32) (y0 : Int32) (w : wS) : Option (Int32 × wS) :=
  xB (xGet w 202) fun v3 => if v3 = 48 then if y0 < x1 then J_X2_number_55 o  (y0) w else if y0 ≤ x2 then xB (L_X7_advance o  w) fun w4 => J_X2_number_71 o  (y0) w4 else J_X2_number_55 o  (y0) w else xB2 (L_X2_refuse o (1) w) fun v7 w8 => J_X2_number_71 o  (y0) w8
set_option maxRecDepth 20000 in
theorem J_X2_number_23_ok {G : aG} {Hf : wS → aH} {bx : Nat} {o : wO} {x1 : Int32} {x2 : Int32} {y0 : Int32} {w : wS} {r : Int32 × wS} (hG : aGood G) (hX : aTxt G) (E : EX Hf bx o) (hL : J_X2_number_23 o  x1 x2 y0 w = some r) : AG G M_X2_number 23 [some (.ref (bx + 1)), some (.int (x1)), some (.int (x2)), none] [.int (y0)] (Hf w) (.inl (some (.int r.1)), Hf r.2) := by
  unfold J_X2_number_23 at hL
  refine g_istore_n (i := 3) dX2_number_23 rfl (by decide) rfl ?_
  refine g_aload_n dX2_number_24 rfl rfl ?_
  refine s_getR (k := 1) (j := 0) E.1 rfl rfl f_X2_12 dX2_number_25 ?_
  refine s_getI (k := 2) (j := 2) E.1 hL rfl rfl f_X2_50 dX2_number_28 ?_
  intro v3 hL
  refine g_bipush (v := 48) dX2_number_31 (by decide) ?_
  refine g_icmp_eq (tgt := 45) dX2_number_33 (by decide) (fun q9 => ?_) (fun q9 => ?_)
  · rw [if_pos q9] at hL
    refine g_iload_n dX2_number_45 rfl rfl ?_
    refine g_iload_n dX2_number_46 rfl rfl ?_
    refine g_none 1 ?_
    refine g_icmp_lt (tgt := 55) dX2_number_47 (by decide) (fun q6 => ?_) (fun q6 => ?_)
    · rw [if_pos q6] at hL
      refine g_none 2 ?_
      exact J_X2_number_55_ok hG hX E hL 
    · rw [if_neg q6] at hL
      refine g_iload_n dX2_number_50 rfl rfl ?_
      refine g_iload_n dX2_number_51 rfl rfl ?_
      refine g_none 2 ?_
      refine g_icmp_le (tgt := 64) dX2_number_52 (by decide) (fun q5 => ?_) (fun q5 => ?_)
      · rw [if_pos q5] at hL
        refine g_aload_n dX2_number_64 rfl rfl ?_
        refine g_none 0 ?_
        refine s_getR (k := 1) (j := 0) E.1 rfl rfl f_X2_12 dX2_number_65 ?_
        obtain ⟨w4, hc, hL⟩ := xB_some hL
        refine g_callV (M' := M_X7_advance) (as := []) (v := none) l_X2_99 kV_X7_advance (by decide) (C_X7_advance hG hX E hc) rfl (by have := E.1.1; omega) (E.1.2.1 _ 2 _ rfl) ⟨_, _, rfl⟩ (Nat.le_of_ble_eq_true rfl) dX2_number_68 ?_
        exact J_X2_number_71_ok hG hX E hL 
      · rw [if_neg q5] at hL
        exact J_X2_number_55_ok hG hX E hL 
  · rw [if_neg q9] at hL
    refine g_none 1 ?_
    refine g_none 2 ?_
    refine g_aload_n dX2_number_36 rfl rfl ?_
    refine g_none 0 ?_
    refine g_iconst (v := 1) dX2_number_37 (by decide) ?_
    obtain ⟨v7, w8, hc, hL⟩ := xB2_some hL
    refine g_callV (M' := M_X2_refuse) (as := [.int (1)]) (v := some (.int (v7))) l_X2_92 kV_X2_refuse (by decide) (C_X2_refuse hG hX E hc) rfl (by have := E.1.1; omega) (E.1.2.1 _ 1 _ rfl) ⟨_, _, rfl⟩ (Nat.le_of_ble_eq_true rfl) dX2_number_38 ?_
    refine g_pop dX2_number_41 rfl ?_
    refine g_goto (tgt := 71) dX2_number_42 (by decide) ?_
    exact J_X2_number_71_ok hG hX E hL 
def L_X2_number (o : wO) (a1 : Int32) (a2 : Int32) (w : wS) : Option (Int32 × wS) :=
  xB (xGet w 202) fun v10 => if v10 = 48 then xB2 (L_X7_value o  w) fun v11 w12 => J_X2_number_23 o  (a1) (a2) (v11) w12 else J_X2_number_23 o  (a1) (a2) ((-1)) w
set_option maxRecDepth 20000 in
theorem C_X2_number {G : aG} {Hf : wS → aH} {bx : Nat} {o : wO} {a1 : Int32} {a2 : Int32} {w : wS} {r : Int32 × wS} (hG : aGood G) (hX : aTxt G) (E : EX Hf bx o) (hL : L_X2_number o a1 a2 w = some r) : AC G M_X2_number [.ref (bx + 1), .int a1, .int a2] (Hf w) (.inl (some (.int r.1)), Hf r.2) := by
  unfold L_X2_number at hL
  refine AC.of (by decide) rfl (Nat.le_of_ble_eq_true rfl) ?_
  show AG G M_X2_number 0 [some (.ref (bx + 1)), some (.int (a1)), some (.int (a2)), none] [] _ _
  refine g_aload_n dX2_number_0 rfl rfl ?_
  refine s_getR (k := 1) (j := 0) E.1 rfl rfl f_X2_12 dX2_number_1 ?_
  refine s_getI (k := 2) (j := 2) E.1 hL rfl rfl f_X2_50 dX2_number_4 ?_
  intro v10 hL
  refine g_bipush (v := 48) dX2_number_7 (by decide) ?_
  refine g_icmp_ne (tgt := 22) dX2_number_9 (by decide) (fun q13 => ?_) (fun q13 => ?_)
  · rw [if_neg q13] at hL
    refine g_iconst (v := (-1)) dX2_number_22 (by decide) ?_
    exact J_X2_number_23_ok hG hX E hL 
  · rw [if_pos q13] at hL
    refine g_aload_n dX2_number_12 rfl rfl ?_
    refine s_getR (k := 1) (j := 0) E.1 rfl rfl f_X2_12 dX2_number_13 ?_
    obtain ⟨v11, w12, hc, hL⟩ := xB2_some hL
    refine g_callV (M' := M_X7_value) (as := []) (v := some (.int (v11))) l_X2_131 kV_X7_value (by decide) (C_X7_value hG hX E hc) rfl (by have := E.1.1; omega) (E.1.2.1 _ 2 _ rfl) ⟨_, _, rfl⟩ (Nat.le_of_ble_eq_true rfl) dX2_number_16 ?_
    refine g_goto (tgt := 23) dX2_number_19 (by decide) ?_
    exact J_X2_number_23_ok hG hX E hL 
def J_X2_human_129 (o : wO) (y0 : Int32) (w : wS) : Option (Int32 × wS) :=
  xB (xBool (y0)) fun v1 => some (v1, w)
set_option maxRecDepth 20000 in
theorem J_X2_human_129_ok {G : aG} {Hf : wS → aH} {bx : Nat} {o : wO} {y0 : Int32} {w : wS} {r : Int32 × wS} (hG : aGood G) (hX : aTxt G) (E : EX Hf bx o) (hL : J_X2_human_129 o  y0 w = some r) : AG G M_X2_human 129 [none, none, none] [.int (y0)] (Hf w) (.inl (some (.int r.1)), Hf r.2) := by
  unfold J_X2_human_129 at hL
  obtain ⟨v1, hb, hR⟩ := xB_some hL
  obtain ⟨hz, hb2⟩ := xBool_some hb
  clear hL
  subst hz
  obtain rfl := Option.some.inj hR
  exact g_zret rfl (narrow_bool hb2) dX2_human_129
def J_X2_human_116 (o : wO) (y1 : Int32) (y2 : Int32) (w : wS) : Option (Int32 × wS) :=
  xB (xAst w 1004 8 (y1) (y2)) fun w2 => xB (xGet w2 101) fun v3 => if v3 = 0 then J_X2_human_129 o  (1) w2 else J_X2_human_129 o  (0) w2
set_option maxRecDepth 20000 in
theorem J_X2_human_116_ok {G : aG} {Hf : wS → aH} {bx : Nat} {o : wO} {y1 : Int32} {y2 : Int32} {w : wS} {r : Int32 × wS} (hG : aGood G) (hX : aTxt G) (E : EX Hf bx o) (hL : J_X2_human_116 o  y1 y2 w = some r) : AG G M_X2_human 116 [some (.ref (bx + 1)), none, none] [.int (y2), .int (y1), .ref (oT o + 4)] (Hf w) (.inl (some (.int r.1)), Hf r.2) := by
  unfold J_X2_human_116 at hL
  refine s_iast (k := 4) E.2.1 hL rfl dX2_human_116 ?_
  intro w2 hL
  refine g_aload_n dX2_human_117 rfl rfl ?_
  refine g_none 0 ?_
  refine s_getI (k := 1) (j := 1) E.1 hL rfl rfl f_X2_18 dX2_human_118 ?_
  intro v3 hL
  refine g_if_ne (tgt := 128) dX2_human_121 (by decide) (fun q4 => ?_) (fun q4 => ?_)
  · rw [if_neg q4] at hL
    refine g_iconst (v := 0) dX2_human_128 (by decide) ?_
    exact J_X2_human_129_ok hG hX E hL 
  · rw [if_pos q4] at hL
    refine g_iconst (v := 1) dX2_human_124 (by decide) ?_
    refine g_goto (tgt := 129) dX2_human_125 (by decide) ?_
    exact J_X2_human_129_ok hG hX E hL 
def J_X2_human_89 (o : wO) (x2 : Int32) (y1 : Int32) (y2 : Int32) (w : wS) : Option (Int32 × wS) :=
  xB (xAst w 1003 8 (y1) (y2)) fun w5 => xIf (xRef w5 107 (oT o + 0)) (xB (xGet w5 101) fun v6 => if v6 = 0 then xB2 (L_X2_number o (0) (30) w5) fun v7 w8 => J_X2_human_116 o  (x2) (v7) w8 else J_X2_human_116 o  (x2) (0) w5)
set_option maxRecDepth 20000 in
theorem J_X2_human_89_ok {G : aG} {Hf : wS → aH} {bx : Nat} {o : wO} {x2 : Int32} {y1 : Int32} {y2 : Int32} {w : wS} {r : Int32 × wS} (hG : aGood G) (hX : aTxt G) (E : EX Hf bx o) (hL : J_X2_human_89 o  x2 y1 y2 w = some r) : AG G M_X2_human 89 [some (.ref (bx + 1)), none, some (.int (x2))] [.int (y2), .int (y1), .ref (oT o + 3)] (Hf w) (.inl (some (.int r.1)), Hf r.2) := by
  unfold J_X2_human_89 at hL
  refine s_iast (k := 3) E.2.1 hL rfl dX2_human_89 ?_
  intro w5 hL
  refine g_aload_n dX2_human_90 rfl rfl ?_
  refine s_getT (k := 1) (j := 7) E.1 hL rfl rfl f_X2_42 dX2_human_91 ?_
  intro hL
  refine s_getR (k := 0) (j := 3) E.2.1 rfl rfl f_X2_117 dX2_human_94 ?_
  refine g_iload_n dX2_human_97 rfl rfl ?_
  refine g_none 2 ?_
  refine g_aload_n dX2_human_98 rfl rfl ?_
  refine s_getI (k := 1) (j := 1) E.1 hL rfl rfl f_X2_18 dX2_human_99 ?_
  intro v6 hL
  refine g_if_ne (tgt := 115) dX2_human_102 (by decide) (fun q9 => ?_) (fun q9 => ?_)
  · rw [if_neg q9] at hL
    refine g_iconst (v := 0) dX2_human_115 (by decide) ?_
    exact J_X2_human_116_ok hG hX E hL 
  · rw [if_pos q9] at hL
    refine g_aload_n dX2_human_105 rfl rfl ?_
    refine g_iconst (v := 0) dX2_human_106 (by decide) ?_
    refine g_bipush (v := 30) dX2_human_107 (by decide) ?_
    obtain ⟨v7, w8, hc, hL⟩ := xB2_some hL
    refine g_callV (M' := M_X2_number) (as := [.int (0), .int (30)]) (v := some (.int (v7))) l_X2_110 kV_X2_number (by decide) (C_X2_number hG hX E hc) rfl (by have := E.1.1; omega) (E.1.2.1 _ 1 _ rfl) ⟨_, _, rfl⟩ (Nat.le_of_ble_eq_true rfl) dX2_human_109 ?_
    refine g_goto (tgt := 116) dX2_human_112 (by decide) ?_
    exact J_X2_human_116_ok hG hX E hL 
def L_X2_human (o : wO) (a1 : Int32) (w : wS) : Option (Int32 × wS) :=
  xIf (xRef w 107 (oT o + 0)) (xB (xGet w 100006) fun v10 => if v10 < 8 then xIf (xRef w 107 (oT o + 0)) (xB (xPut w 100006 ((v10 + (1 : Int32)))) fun w11 => xIf (xRef w11 107 (oT o + 0)) (xB (xAst w11 1001 8 (v10) (a1)) fun w12 => xB (L_X7_advance o  w12) fun w13 => xIf (xRef w13 107 (oT o + 0)) (xB2 (L_X2_number o (0) (60) w13) fun v14 w15 => xB (xAst w15 1002 8 (v10) (v14)) fun w16 => xIf (xRef w16 107 (oT o + 0)) (xB (xGet w16 101) fun v17 => if v17 = 0 then xB2 (L_X2_number o (0) (60) w16) fun v18 w19 => J_X2_human_89 o  (v10) (v10) (v18) w19 else J_X2_human_89 o  (v10) (v10) (0) w16)))) else xB2 (L_X2_refuse o (2) w) fun v21 w22 => xB (xBool (v21)) fun v23 => some (v23, w22))
set_option maxRecDepth 20000 in
theorem C_X2_human {G : aG} {Hf : wS → aH} {bx : Nat} {o : wO} {a1 : Int32} {w : wS} {r : Int32 × wS} (hG : aGood G) (hX : aTxt G) (E : EX Hf bx o) (hL : L_X2_human o a1 w = some r) : AC G M_X2_human [.ref (bx + 1), .int a1] (Hf w) (.inl (some (.int r.1)), Hf r.2) := by
  unfold L_X2_human at hL
  refine AC.of (by decide) rfl (Nat.le_of_ble_eq_true rfl) ?_
  show AG G M_X2_human 0 [some (.ref (bx + 1)), some (.int (a1)), none] [] _ _
  refine g_aload_n dX2_human_0 rfl rfl ?_
  refine s_getT (k := 1) (j := 7) E.1 hL rfl rfl f_X2_42 dX2_human_1 ?_
  intro hL
  refine s_getI (k := 0) (j := 6) E.2.1 hL rfl rfl f_X2_102 dX2_human_4 ?_
  intro v10 hL
  refine g_istore_n (i := 2) dX2_human_7 rfl (by decide) rfl ?_
  refine g_iload_n dX2_human_8 rfl rfl ?_
  refine g_bipush (v := 8) dX2_human_9 (by decide) ?_
  refine g_icmp_lt (tgt := 20) dX2_human_11 (by decide) (fun q24 => ?_) (fun q24 => ?_)
  · rw [if_pos q24] at hL
    refine g_aload_n dX2_human_20 rfl rfl ?_
    refine s_getT (k := 1) (j := 7) E.1 hL rfl rfl f_X2_42 dX2_human_21 ?_
    intro hL
    refine g_iload_n dX2_human_24 rfl rfl ?_
    refine g_iconst (v := 1) dX2_human_25 (by decide) ?_
    refine g_iadd dX2_human_26 ?_
    refine s_putI (k := 0) (j := 6) E.2.1 hL rfl rfl (by decide) fw_X2_102 rfl rfl dX2_human_27 ?_
    intro w11 hL
    refine g_aload_n dX2_human_30 rfl rfl ?_
    refine s_getT (k := 1) (j := 7) E.1 hL rfl rfl f_X2_42 dX2_human_31 ?_
    intro hL
    refine s_getR (k := 0) (j := 0) E.2.1 rfl rfl f_X2_105 dX2_human_34 ?_
    refine g_iload_n dX2_human_37 rfl rfl ?_
    refine g_iload_n dX2_human_38 rfl rfl ?_
    refine g_none 1 ?_
    refine s_iast (k := 1) E.2.1 hL rfl dX2_human_39 ?_
    intro w12 hL
    refine g_aload_n dX2_human_40 rfl rfl ?_
    refine s_getR (k := 1) (j := 0) E.1 rfl rfl f_X2_12 dX2_human_41 ?_
    obtain ⟨w13, hc, hL⟩ := xB_some hL
    refine g_callV (M' := M_X7_advance) (as := []) (v := none) l_X2_99 kV_X7_advance (by decide) (C_X7_advance hG hX E hc) rfl (by have := E.1.1; omega) (E.1.2.1 _ 2 _ rfl) ⟨_, _, rfl⟩ (Nat.le_of_ble_eq_true rfl) dX2_human_44 ?_
    refine g_aload_n dX2_human_47 rfl rfl ?_
    refine s_getT (k := 1) (j := 7) E.1 hL rfl rfl f_X2_42 dX2_human_48 ?_
    intro hL
    refine s_getR (k := 0) (j := 1) E.2.1 rfl rfl f_X2_107 dX2_human_51 ?_
    refine g_iload_n dX2_human_54 rfl rfl ?_
    refine g_aload_n dX2_human_55 rfl rfl ?_
    refine g_iconst (v := 0) dX2_human_56 (by decide) ?_
    refine g_bipush (v := 60) dX2_human_57 (by decide) ?_
    obtain ⟨v14, w15, hc, hL⟩ := xB2_some hL
    refine g_callV (M' := M_X2_number) (as := [.int (0), .int (60)]) (v := some (.int (v14))) l_X2_110 kV_X2_number (by decide) (C_X2_number hG hX E hc) rfl (by have := E.1.1; omega) (E.1.2.1 _ 1 _ rfl) ⟨_, _, rfl⟩ (Nat.le_of_ble_eq_true rfl) dX2_human_59 ?_
    refine s_iast (k := 2) E.2.1 hL rfl dX2_human_62 ?_
    intro w16 hL
    refine g_aload_n dX2_human_63 rfl rfl ?_
    refine s_getT (k := 1) (j := 7) E.1 hL rfl rfl f_X2_42 dX2_human_64 ?_
    intro hL
    refine s_getR (k := 0) (j := 2) E.2.1 rfl rfl f_X2_114 dX2_human_67 ?_
    refine g_iload_n dX2_human_70 rfl rfl ?_
    refine g_aload_n dX2_human_71 rfl rfl ?_
    refine s_getI (k := 1) (j := 1) E.1 hL rfl rfl f_X2_18 dX2_human_72 ?_
    intro v17 hL
    refine g_if_ne (tgt := 88) dX2_human_75 (by decide) (fun q20 => ?_) (fun q20 => ?_)
    · rw [if_neg q20] at hL
      refine g_iconst (v := 0) dX2_human_88 (by decide) ?_
      exact J_X2_human_89_ok hG hX E hL 
    · rw [if_pos q20] at hL
      refine g_aload_n dX2_human_78 rfl rfl ?_
      refine g_iconst (v := 0) dX2_human_79 (by decide) ?_
      refine g_bipush (v := 60) dX2_human_80 (by decide) ?_
      obtain ⟨v18, w19, hc, hL⟩ := xB2_some hL
      refine g_callV (M' := M_X2_number) (as := [.int (0), .int (60)]) (v := some (.int (v18))) l_X2_110 kV_X2_number (by decide) (C_X2_number hG hX E hc) rfl (by have := E.1.1; omega) (E.1.2.1 _ 1 _ rfl) ⟨_, _, rfl⟩ (Nat.le_of_ble_eq_true rfl) dX2_human_82 ?_
      refine g_goto (tgt := 89) dX2_human_85 (by decide) ?_
      exact J_X2_human_89_ok hG hX E hL 
  · rw [if_neg q24] at hL
    refine g_none 1 ?_
    refine g_none 2 ?_
    refine g_aload_n dX2_human_14 rfl rfl ?_
    refine g_none 0 ?_
    refine g_iconst (v := 2) dX2_human_15 (by decide) ?_
    obtain ⟨v21, w22, hc, hL⟩ := xB2_some hL
    refine g_callV (M' := M_X2_refuse) (as := [.int (2)]) (v := some (.int (v21))) l_X2_92 kV_X2_refuse (by decide) (C_X2_refuse hG hX E hc) rfl (by have := E.1.1; omega) (E.1.2.1 _ 1 _ rfl) ⟨_, _, rfl⟩ (Nat.le_of_ble_eq_true rfl) dX2_human_16 ?_
    obtain ⟨v23, hb, hR⟩ := xB_some hL
    obtain ⟨hz, hb2⟩ := xBool_some hb
    clear hL
    subst hz
    obtain rfl := Option.some.inj hR
    exact g_zret rfl (narrow_bool hb2) dX2_human_19
def J_X2_dutyTold_93 (o : wO) (y0 : Int32) (w : wS) : Option (Int32 × wS) :=
  xB (xBool (y0)) fun v1 => some (v1, w)
set_option maxRecDepth 20000 in
theorem J_X2_dutyTold_93_ok {G : aG} {Hf : wS → aH} {bx : Nat} {o : wO} {y0 : Int32} {w : wS} {r : Int32 × wS} (hG : aGood G) (hX : aTxt G) (E : EX Hf bx o) (hL : J_X2_dutyTold_93 o  y0 w = some r) : AG G M_X2_dutyTold 93 [none, none] [.int (y0)] (Hf w) (.inl (some (.int r.1)), Hf r.2) := by
  unfold J_X2_dutyTold_93 at hL
  obtain ⟨v1, hb, hR⟩ := xB_some hL
  obtain ⟨hz, hb2⟩ := xBool_some hb
  clear hL
  subst hz
  obtain rfl := Option.some.inj hR
  exact g_zret rfl (narrow_bool hb2) dX2_dutyTold_93
def J_X2_dutyTold_80 (o : wO) (y1 : Int32) (y2 : Int32) (w : wS) : Option (Int32 × wS) :=
  xB (xAst w 1006 6 (y1) (y2)) fun w2 => xB (xGet w2 101) fun v3 => if v3 = 0 then J_X2_dutyTold_93 o  (1) w2 else J_X2_dutyTold_93 o  (0) w2
set_option maxRecDepth 20000 in
theorem J_X2_dutyTold_80_ok {G : aG} {Hf : wS → aH} {bx : Nat} {o : wO} {y1 : Int32} {y2 : Int32} {w : wS} {r : Int32 × wS} (hG : aGood G) (hX : aTxt G) (E : EX Hf bx o) (hL : J_X2_dutyTold_80 o  y1 y2 w = some r) : AG G M_X2_dutyTold 80 [some (.ref (bx + 1)), none] [.int (y2), .int (y1), .ref (oT o + 6)] (Hf w) (.inl (some (.int r.1)), Hf r.2) := by
  unfold J_X2_dutyTold_80 at hL
  refine s_iast (k := 6) E.2.1 hL rfl dX2_dutyTold_80 ?_
  intro w2 hL
  refine g_aload_n dX2_dutyTold_81 rfl rfl ?_
  refine g_none 0 ?_
  refine s_getI (k := 1) (j := 1) E.1 hL rfl rfl f_X2_18 dX2_dutyTold_82 ?_
  intro v3 hL
  refine g_if_ne (tgt := 92) dX2_dutyTold_85 (by decide) (fun q4 => ?_) (fun q4 => ?_)
  · rw [if_neg q4] at hL
    refine g_iconst (v := 0) dX2_dutyTold_92 (by decide) ?_
    exact J_X2_dutyTold_93_ok hG hX E hL 
  · rw [if_pos q4] at hL
    refine g_iconst (v := 1) dX2_dutyTold_88 (by decide) ?_
    refine g_goto (tgt := 93) dX2_dutyTold_89 (by decide) ?_
    exact J_X2_dutyTold_93_ok hG hX E hL 
def L_X2_dutyTold (o : wO) (w : wS) : Option (Int32 × wS) :=
  xIf (xRef w 107 (oT o + 0)) (xB (xGet w 100007) fun v5 => if v5 < 6 then xIf (xRef w 107 (oT o + 0)) (xB (xPut w 100007 ((v5 + (1 : Int32)))) fun w6 => xB (L_X7_advance o  w6) fun w7 => xIf (xRef w7 107 (oT o + 0)) (xB2 (L_X2_number o (0) (999) w7) fun v8 w9 => xB (xAst w9 1005 6 (v5) (v8)) fun w10 => xIf (xRef w10 107 (oT o + 0)) (xB (xGet w10 101) fun v11 => if v11 = 0 then xB2 (L_X2_number o (0) (30) w10) fun v12 w13 => J_X2_dutyTold_80 o  (v5) (v12) w13 else J_X2_dutyTold_80 o  (v5) (0) w10))) else xB2 (L_X2_refuse o (2) w) fun v15 w16 => xB (xBool (v15)) fun v17 => some (v17, w16))
set_option maxRecDepth 20000 in
theorem C_X2_dutyTold {G : aG} {Hf : wS → aH} {bx : Nat} {o : wO} {w : wS} {r : Int32 × wS} (hG : aGood G) (hX : aTxt G) (E : EX Hf bx o) (hL : L_X2_dutyTold o  w = some r) : AC G M_X2_dutyTold [.ref (bx + 1)] (Hf w) (.inl (some (.int r.1)), Hf r.2) := by
  unfold L_X2_dutyTold at hL
  refine AC.of (by decide) rfl (Nat.le_of_ble_eq_true rfl) ?_
  show AG G M_X2_dutyTold 0 [some (.ref (bx + 1)), none] [] _ _
  refine g_aload_n dX2_dutyTold_0 rfl rfl ?_
  refine s_getT (k := 1) (j := 7) E.1 hL rfl rfl f_X2_42 dX2_dutyTold_1 ?_
  intro hL
  refine s_getI (k := 0) (j := 7) E.2.1 hL rfl rfl f_X2_120 dX2_dutyTold_4 ?_
  intro v5 hL
  refine g_istore_n (i := 1) dX2_dutyTold_7 rfl (by decide) rfl ?_
  refine g_iload_n dX2_dutyTold_8 rfl rfl ?_
  refine g_bipush (v := 6) dX2_dutyTold_9 (by decide) ?_
  refine g_icmp_lt (tgt := 20) dX2_dutyTold_11 (by decide) (fun q18 => ?_) (fun q18 => ?_)
  · rw [if_pos q18] at hL
    refine g_aload_n dX2_dutyTold_20 rfl rfl ?_
    refine s_getT (k := 1) (j := 7) E.1 hL rfl rfl f_X2_42 dX2_dutyTold_21 ?_
    intro hL
    refine g_iload_n dX2_dutyTold_24 rfl rfl ?_
    refine g_iconst (v := 1) dX2_dutyTold_25 (by decide) ?_
    refine g_iadd dX2_dutyTold_26 ?_
    refine s_putI (k := 0) (j := 7) E.2.1 hL rfl rfl (by decide) fw_X2_120 rfl rfl dX2_dutyTold_27 ?_
    intro w6 hL
    refine g_aload_n dX2_dutyTold_30 rfl rfl ?_
    refine s_getR (k := 1) (j := 0) E.1 rfl rfl f_X2_12 dX2_dutyTold_31 ?_
    obtain ⟨w7, hc, hL⟩ := xB_some hL
    refine g_callV (M' := M_X7_advance) (as := []) (v := none) l_X2_99 kV_X7_advance (by decide) (C_X7_advance hG hX E hc) rfl (by have := E.1.1; omega) (E.1.2.1 _ 2 _ rfl) ⟨_, _, rfl⟩ (Nat.le_of_ble_eq_true rfl) dX2_dutyTold_34 ?_
    refine g_aload_n dX2_dutyTold_37 rfl rfl ?_
    refine s_getT (k := 1) (j := 7) E.1 hL rfl rfl f_X2_42 dX2_dutyTold_38 ?_
    intro hL
    refine s_getR (k := 0) (j := 4) E.2.1 rfl rfl f_X2_123 dX2_dutyTold_41 ?_
    refine g_iload_n dX2_dutyTold_44 rfl rfl ?_
    refine g_aload_n dX2_dutyTold_45 rfl rfl ?_
    refine g_iconst (v := 0) dX2_dutyTold_46 (by decide) ?_
    refine g_sipush (v := 999) dX2_dutyTold_47 (by decide) ?_
    obtain ⟨v8, w9, hc, hL⟩ := xB2_some hL
    refine g_callV (M' := M_X2_number) (as := [.int (0), .int (999)]) (v := some (.int (v8))) l_X2_110 kV_X2_number (by decide) (C_X2_number hG hX E hc) rfl (by have := E.1.1; omega) (E.1.2.1 _ 1 _ rfl) ⟨_, _, rfl⟩ (Nat.le_of_ble_eq_true rfl) dX2_dutyTold_50 ?_
    refine s_iast (k := 5) E.2.1 hL rfl dX2_dutyTold_53 ?_
    intro w10 hL
    refine g_aload_n dX2_dutyTold_54 rfl rfl ?_
    refine s_getT (k := 1) (j := 7) E.1 hL rfl rfl f_X2_42 dX2_dutyTold_55 ?_
    intro hL
    refine s_getR (k := 0) (j := 5) E.2.1 rfl rfl f_X2_126 dX2_dutyTold_58 ?_
    refine g_iload_n dX2_dutyTold_61 rfl rfl ?_
    refine g_none 1 ?_
    refine g_aload_n dX2_dutyTold_62 rfl rfl ?_
    refine s_getI (k := 1) (j := 1) E.1 hL rfl rfl f_X2_18 dX2_dutyTold_63 ?_
    intro v11 hL
    refine g_if_ne (tgt := 79) dX2_dutyTold_66 (by decide) (fun q14 => ?_) (fun q14 => ?_)
    · rw [if_neg q14] at hL
      refine g_iconst (v := 0) dX2_dutyTold_79 (by decide) ?_
      exact J_X2_dutyTold_80_ok hG hX E hL 
    · rw [if_pos q14] at hL
      refine g_aload_n dX2_dutyTold_69 rfl rfl ?_
      refine g_iconst (v := 0) dX2_dutyTold_70 (by decide) ?_
      refine g_bipush (v := 30) dX2_dutyTold_71 (by decide) ?_
      obtain ⟨v12, w13, hc, hL⟩ := xB2_some hL
      refine g_callV (M' := M_X2_number) (as := [.int (0), .int (30)]) (v := some (.int (v12))) l_X2_110 kV_X2_number (by decide) (C_X2_number hG hX E hc) rfl (by have := E.1.1; omega) (E.1.2.1 _ 1 _ rfl) ⟨_, _, rfl⟩ (Nat.le_of_ble_eq_true rfl) dX2_dutyTold_73 ?_
      refine g_goto (tgt := 80) dX2_dutyTold_76 (by decide) ?_
      exact J_X2_dutyTold_80_ok hG hX E hL 
  · rw [if_neg q18] at hL
    refine g_none 1 ?_
    refine g_aload_n dX2_dutyTold_14 rfl rfl ?_
    refine g_none 0 ?_
    refine g_iconst (v := 2) dX2_dutyTold_15 (by decide) ?_
    obtain ⟨v15, w16, hc, hL⟩ := xB2_some hL
    refine g_callV (M' := M_X2_refuse) (as := [.int (2)]) (v := some (.int (v15))) l_X2_92 kV_X2_refuse (by decide) (C_X2_refuse hG hX E hc) rfl (by have := E.1.1; omega) (E.1.2.1 _ 1 _ rfl) ⟨_, _, rfl⟩ (Nat.le_of_ble_eq_true rfl) dX2_dutyTold_16 ?_
    obtain ⟨v17, hb, hR⟩ := xB_some hL
    obtain ⟨hz, hb2⟩ := xBool_some hb
    clear hL
    subst hz
    obtain rfl := Option.some.inj hR
    exact g_zret rfl (narrow_bool hb2) dX2_dutyTold_19
def J_X2_paceTold_51 (o : wO) (y0 : Int32) (w : wS) : Option (Int32 × wS) :=
  xB (xBool (y0)) fun v1 => some (v1, w)
set_option maxRecDepth 20000 in
theorem J_X2_paceTold_51_ok {G : aG} {Hf : wS → aH} {bx : Nat} {o : wO} {y0 : Int32} {w : wS} {r : Int32 × wS} (hG : aGood G) (hX : aTxt G) (E : EX Hf bx o) (hL : J_X2_paceTold_51 o  y0 w = some r) : AG G M_X2_paceTold 51 [none] [.int (y0)] (Hf w) (.inl (some (.int r.1)), Hf r.2) := by
  unfold J_X2_paceTold_51 at hL
  obtain ⟨v1, hb, hR⟩ := xB_some hL
  obtain ⟨hz, hb2⟩ := xBool_some hb
  clear hL
  subst hz
  obtain rfl := Option.some.inj hR
  exact g_zret rfl (narrow_bool hb2) dX2_paceTold_51
def L_X2_paceTold (o : wO) (w : wS) : Option (Int32 × wS) :=
  xB (xGet w 106) fun v2 => if v2 = 0 then xB (xPut w 106 (1)) fun w3 => xB (L_X7_advance o  w3) fun w4 => xIf (xRef w4 107 (oT o + 0)) (xB2 (L_X2_number o (1) (9) w4) fun v5 w6 => xB (xPut w6 100008 (v5)) fun w7 => xB (xGet w7 101) fun v8 => if v8 = 0 then J_X2_paceTold_51 o  (1) w7 else J_X2_paceTold_51 o  (0) w7) else xB2 (L_X2_refuse o (5) w) fun v10 w11 => xB (xBool (v10)) fun v12 => some (v12, w11)
set_option maxRecDepth 20000 in
theorem C_X2_paceTold {G : aG} {Hf : wS → aH} {bx : Nat} {o : wO} {w : wS} {r : Int32 × wS} (hG : aGood G) (hX : aTxt G) (E : EX Hf bx o) (hL : L_X2_paceTold o  w = some r) : AC G M_X2_paceTold [.ref (bx + 1)] (Hf w) (.inl (some (.int r.1)), Hf r.2) := by
  unfold L_X2_paceTold at hL
  refine AC.of (by decide) rfl (Nat.le_of_ble_eq_true rfl) ?_
  show AG G M_X2_paceTold 0 [some (.ref (bx + 1))] [] _ _
  refine g_aload_n dX2_paceTold_0 rfl rfl ?_
  refine s_getI (k := 1) (j := 6) E.1 hL rfl rfl f_X2_36 dX2_paceTold_1 ?_
  intro v2 hL
  refine g_if_eq (tgt := 13) dX2_paceTold_4 (by decide) (fun q13 => ?_) (fun q13 => ?_)
  · rw [if_pos q13] at hL
    refine g_aload_n dX2_paceTold_13 rfl rfl ?_
    refine g_iconst (v := 1) dX2_paceTold_14 (by decide) ?_
    refine s_putI (k := 1) (j := 6) E.1 hL rfl rfl (by decide) fw_X2_36 rfl (by decide) dX2_paceTold_15 ?_
    intro w3 hL
    refine g_aload_n dX2_paceTold_18 rfl rfl ?_
    refine s_getR (k := 1) (j := 0) E.1 rfl rfl f_X2_12 dX2_paceTold_19 ?_
    obtain ⟨w4, hc, hL⟩ := xB_some hL
    refine g_callV (M' := M_X7_advance) (as := []) (v := none) l_X2_99 kV_X7_advance (by decide) (C_X7_advance hG hX E hc) rfl (by have := E.1.1; omega) (E.1.2.1 _ 2 _ rfl) ⟨_, _, rfl⟩ (Nat.le_of_ble_eq_true rfl) dX2_paceTold_22 ?_
    refine g_aload_n dX2_paceTold_25 rfl rfl ?_
    refine s_getT (k := 1) (j := 7) E.1 hL rfl rfl f_X2_42 dX2_paceTold_26 ?_
    intro hL
    refine g_aload_n dX2_paceTold_29 rfl rfl ?_
    refine g_iconst (v := 1) dX2_paceTold_30 (by decide) ?_
    refine g_bipush (v := 9) dX2_paceTold_31 (by decide) ?_
    obtain ⟨v5, w6, hc, hL⟩ := xB2_some hL
    refine g_callV (M' := M_X2_number) (as := [.int (1), .int (9)]) (v := some (.int (v5))) l_X2_110 kV_X2_number (by decide) (C_X2_number hG hX E hc) rfl (by have := E.1.1; omega) (E.1.2.1 _ 1 _ rfl) ⟨_, _, rfl⟩ (Nat.le_of_ble_eq_true rfl) dX2_paceTold_33 ?_
    refine s_putI (k := 0) (j := 8) E.2.1 hL rfl rfl (by decide) fw_X2_129 rfl rfl dX2_paceTold_36 ?_
    intro w7 hL
    refine g_aload_n dX2_paceTold_39 rfl rfl ?_
    refine g_none 0 ?_
    refine s_getI (k := 1) (j := 1) E.1 hL rfl rfl f_X2_18 dX2_paceTold_40 ?_
    intro v8 hL
    refine g_if_ne (tgt := 50) dX2_paceTold_43 (by decide) (fun q9 => ?_) (fun q9 => ?_)
    · rw [if_neg q9] at hL
      refine g_iconst (v := 0) dX2_paceTold_50 (by decide) ?_
      exact J_X2_paceTold_51_ok hG hX E hL 
    · rw [if_pos q9] at hL
      refine g_iconst (v := 1) dX2_paceTold_46 (by decide) ?_
      refine g_goto (tgt := 51) dX2_paceTold_47 (by decide) ?_
      exact J_X2_paceTold_51_ok hG hX E hL 
  · rw [if_neg q13] at hL
    refine g_aload_n dX2_paceTold_7 rfl rfl ?_
    refine g_none 0 ?_
    refine g_iconst (v := 5) dX2_paceTold_8 (by decide) ?_
    obtain ⟨v10, w11, hc, hL⟩ := xB2_some hL
    refine g_callV (M' := M_X2_refuse) (as := [.int (5)]) (v := some (.int (v10))) l_X2_92 kV_X2_refuse (by decide) (C_X2_refuse hG hX E hc) rfl (by have := E.1.1; omega) (E.1.2.1 _ 1 _ rfl) ⟨_, _, rfl⟩ (Nat.le_of_ble_eq_true rfl) dX2_paceTold_9 ?_
    obtain ⟨v12, hb, hR⟩ := xB_some hL
    obtain ⟨hz, hb2⟩ := xBool_some hb
    clear hL
    subst hz
    obtain rfl := Option.some.inj hR
    exact g_zret rfl (narrow_bool hb2) dX2_paceTold_12
def L_X2_emit (o : wO) (a1 : Int32) (w : wS) : Option (Int32 × wS) :=
  xB (xGet w 104) fun v1 => if v1 < 700 then xB (xGet w 104) fun v2 => xB (xAst w 4 700 (v2) (a1)) fun w3 => xB (xGet w3 104) fun v4 => xB (xPut w3 104 ((v4 + (1 : Int32)))) fun w5 => some (1, w5) else xB2 (L_X2_refuse o (2) w) fun v6 w7 => xB (xBool (v6)) fun v8 => some (v8, w7)
set_option maxRecDepth 20000 in
theorem C_X2_emit {G : aG} {Hf : wS → aH} {bx : Nat} {o : wO} {a1 : Int32} {w : wS} {r : Int32 × wS} (hG : aGood G) (hX : aTxt G) (E : EX Hf bx o) (hL : L_X2_emit o a1 w = some r) : AC G M_X2_emit [.ref (bx + 1), .int a1] (Hf w) (.inl (some (.int r.1)), Hf r.2) := by
  unfold L_X2_emit at hL
  refine AC.of (by decide) rfl (Nat.le_of_ble_eq_true rfl) ?_
  show AG G M_X2_emit 0 [some (.ref (bx + 1)), some (.int (a1))] [] _ _
  refine g_aload_n dX2_emit_0 rfl rfl ?_
  refine s_getI (k := 1) (j := 4) E.1 hL rfl rfl f_X2_29 dX2_emit_1 ?_
  intro v1 hL
  refine g_aload_n dX2_emit_4 rfl rfl ?_
  refine s_getR (k := 1) (j := 3) E.1 rfl rfl f_X2_25 dX2_emit_5 ?_
  refine g_alen (v := 700) dX2_emit_8 (by have := E.1.1; omega) (show 0 < 4 by decide) (E.1.2.1 _ 4 _ rfl) rfl ?_
  refine g_icmp_lt (tgt := 18) dX2_emit_9 (by decide) (fun q9 => ?_) (fun q9 => ?_)
  · rw [if_pos q9] at hL
    refine g_aload_n dX2_emit_18 rfl rfl ?_
    refine s_getR (k := 1) (j := 3) E.1 rfl rfl f_X2_25 dX2_emit_19 ?_
    refine g_aload_n dX2_emit_22 rfl rfl ?_
    refine s_getI (k := 1) (j := 4) E.1 hL rfl rfl f_X2_29 dX2_emit_23 ?_
    intro v2 hL
    refine g_iload_n dX2_emit_26 rfl rfl ?_
    refine g_none 1 ?_
    refine s_iast (k := 4) E.1 hL rfl dX2_emit_27 ?_
    intro w3 hL
    refine g_aload_n dX2_emit_28 rfl rfl ?_
    refine g_none 0 ?_
    refine g_dup dX2_emit_29 rfl ?_
    refine s_getI (k := 1) (j := 4) E.1 hL rfl rfl f_X2_29 dX2_emit_30 ?_
    intro v4 hL
    refine g_iconst (v := 1) dX2_emit_33 (by decide) ?_
    refine g_iadd dX2_emit_34 ?_
    refine s_putI (k := 1) (j := 4) E.1 hL rfl rfl (by decide) fw_X2_29 rfl rfl dX2_emit_35 ?_
    intro w5 hL
    refine g_iconst (v := 1) dX2_emit_38 (by decide) ?_
    obtain rfl := Option.some.inj hL
    exact g_zret rfl (by decide) dX2_emit_39
  · rw [if_neg q9] at hL
    refine g_none 1 ?_
    refine g_aload_n dX2_emit_12 rfl rfl ?_
    refine g_none 0 ?_
    refine g_iconst (v := 2) dX2_emit_13 (by decide) ?_
    obtain ⟨v6, w7, hc, hL⟩ := xB2_some hL
    refine g_callV (M' := M_X2_refuse) (as := [.int (2)]) (v := some (.int (v6))) l_X2_92 kV_X2_refuse (by decide) (C_X2_refuse hG hX E hc) rfl (by have := E.1.1; omega) (E.1.2.1 _ 1 _ rfl) ⟨_, _, rfl⟩ (Nat.le_of_ble_eq_true rfl) dX2_emit_14 ?_
    obtain ⟨v8, hb, hR⟩ := xB_some hL
    obtain ⟨hz, hb2⟩ := xBool_some hb
    clear hL
    subst hz
    obtain rfl := Option.some.inj hR
    exact g_zret rfl (narrow_bool hb2) dX2_emit_17
def B_X7_is_S1_24 (o : wO) (kh24 : Int32 → wS → Option (Int32 × wS)) (ke51 : wS → Option (Int32 × wS)) (ke59 : wS → Option (Int32 × wS)) (x2 : Int32) (w : wS) : Option (Int32 × wS) :=
  xB (xGet w 204) fun v1 => if v1 ≤ x2 then ke59  w else xB (xGet w 203) fun v2 => xB (xAld w 3 700 ((v2 + x2))) fun v3 => xB (xChr (aChr.getD 1 []) (x2)) fun v4 => if v3 = v4 then kh24 ((x2 + 1)) w else ke51  w
set_option maxRecDepth 20000 in
theorem B_X7_is_S1_24_ok {G : aG} {Hf : wS → aH} {bx : Nat} {o : wO} {kh24 : Int32 → wS → Option (Int32 × wS)} {ke51 : wS → Option (Int32 × wS)} {ke59 : wS → Option (Int32 × wS)} {x2 : Int32} {w : wS} {r : Int32 × wS} (hG : aGood G) (hX : aTxt G) (E : EX Hf bx o) (hL : B_X7_is_S1_24 o kh24 ke51 ke59 x2 w = some r) (Hkh24 : ∀ (z0 : Int32) (w : wS), kh24 z0 w = some r → AG G M_X7_is 24 [some (.ref (bx + 2)), some (.ref 2), some (.int (z0))] [] (Hf w) (.inl (some (.int r.1)), Hf r.2)) (Hke51 : ∀ (w : wS), ke51  w = some r → AG G M_X7_is 51 [none, none, none] [] (Hf w) (.inl (some (.int r.1)), Hf r.2)) (Hke59 : ∀ (w : wS), ke59  w = some r → AG G M_X7_is 59 [none, none, none] [] (Hf w) (.inl (some (.int r.1)), Hf r.2)) : AG G M_X7_is 24 [some (.ref (bx + 2)), some (.ref 2), some (.int (x2))] [] (Hf w) (.inl (some (.int r.1)), Hf r.2) := by
  unfold B_X7_is_S1_24 at hL
  refine g_iload_n dX7_is_24 rfl rfl ?_
  refine g_aload_n dX7_is_25 rfl rfl ?_
  refine s_getI (k := 2) (j := 4) E.1 hL rfl rfl f_X7_25 dX7_is_26 ?_
  intro v1 hL
  refine g_icmp_ge (tgt := 59) dX7_is_29 (by decide) (fun q6 => ?_) (fun q6 => ?_)
  · rw [if_pos q6] at hL
    refine g_none 0 ?_
    refine g_none 1 ?_
    refine g_none 2 ?_
    exact Hke59  _ hL
  · rw [if_neg q6] at hL
    refine g_aload_n dX7_is_32 rfl rfl ?_
    refine s_getR (k := 2) (j := 0) E.1 rfl rfl f_X7_9 dX7_is_33 ?_
    refine g_aload_n dX7_is_36 rfl rfl ?_
    refine s_getI (k := 2) (j := 3) E.1 hL rfl rfl f_X7_22 dX7_is_37 ?_
    intro v2 hL
    refine g_iload_n dX7_is_40 rfl rfl ?_
    refine g_iadd dX7_is_41 ?_
    refine s_bald (k := 3) E.1 hL rfl dX7_is_42 ?_
    intro v3 hL
    refine g_aload_n dX7_is_43 rfl rfl ?_
    refine g_iload_n dX7_is_44 rfl rfl ?_
    obtain ⟨v4, hc, hL⟩ := xB_some hL
    refine g_callSt (M' := M_J0_charAt_5068e) (k := 1) (as := [.int (x2)]) (v := some (.int v4)) hX.2.2 (by decide) l_X7_53 kV_J0_charAt_5068e (by decide) rfl (hX.2.1 1 _ _ _ _ rfl hc) rfl (Nat.le_of_ble_eq_true rfl) dX7_is_45 ?_
    refine g_icmp_eq (tgt := 53) dX7_is_48 (by decide) (fun q5 => ?_) (fun q5 => ?_)
    · rw [if_pos q5] at hL
      refine g_iincV (v := (x2 + 1)) dX7_is_53 rfl rfl (by decide) rfl ?_
      refine g_goto (tgt := 24) dX7_is_56 (by decide) ?_
      exact Hkh24 _ _ hL
    · rw [if_neg q5] at hL
      refine g_none 0 ?_
      refine g_none 1 ?_
      refine g_none 2 ?_
      exact Hke51  _ hL
def P_X7_is_S1_24 (o : wO) (ke51 : wS → Option (Int32 × wS)) (ke59 : wS → Option (Int32 × wS)) (n : Nat) (x2 : Int32) (w : wS) : Option (Int32 × wS) :=
  xLoop (fun (kk : Int32 × wS → Option (Int32 × wS)) σ => B_X7_is_S1_24 o (fun x2 w => kk (x2, w)) ke51 ke59 (σ.1) (σ.2)) n (x2, w)
theorem P_X7_is_S1_24_ok {G : aG} {Hf : wS → aH} {bx : Nat} {o : wO} {ke51 : wS → Option (Int32 × wS)} {ke59 : wS → Option (Int32 × wS)} {n : Nat} {x2 : Int32} {w : wS} {r : Int32 × wS} (hG : aGood G) (hX : aTxt G) (E : EX Hf bx o) (hL : P_X7_is_S1_24 o ke51 ke59 n x2 w = some r) (Hke51 : ∀ (w : wS), ke51  w = some r → AG G M_X7_is 51 [none, none, none] [] (Hf w) (.inl (some (.int r.1)), Hf r.2)) (Hke59 : ∀ (w : wS), ke59  w = some r → AG G M_X7_is 59 [none, none, none] [] (Hf w) (.inl (some (.int r.1)), Hf r.2)) : AG G M_X7_is 24 [some (.ref (bx + 2)), some (.ref 2), some (.int (x2))] [] (Hf w) (.inl (some (.int r.1)), Hf r.2) :=
  xLoop_ok (Q := fun (σ : Int32 × wS) => AG G M_X7_is 24 [some (.ref (bx + 2)), some (.ref 2), some (.int (σ.1))] [] (Hf σ.2) (.inl (some (.int r.1)), Hf r.2)) (fun kk hk σ hσ => B_X7_is_S1_24_ok hG hX E hσ (fun x2 w h9 => hk (x2, w) h9) Hke51 Hke59) n (x2, w) hL
def J_X7_is_S1_20 (o : wO) (w : wS) : Option (Int32 × wS) :=
  some (0, w)
set_option maxRecDepth 20000 in
theorem J_X7_is_S1_20_ok {G : aG} {Hf : wS → aH} {bx : Nat} {o : wO} {w : wS} {r : Int32 × wS} (hG : aGood G) (hX : aTxt G) (E : EX Hf bx o) (hL : J_X7_is_S1_20 o   w = some r) : AG G M_X7_is 20 [none, none, none] [] (Hf w) (.inl (some (.int r.1)), Hf r.2) := by
  unfold J_X7_is_S1_20 at hL
  refine g_iconst (v := 0) dX7_is_20 (by decide) ?_
  obtain rfl := Option.some.inj hL
  exact g_zret rfl (by decide) dX7_is_21
def L_X7_is_S1 (o : wO) (w : wS) : Option (Int32 × wS) :=
  xB (xGet w 202) fun v7 => if v7 = 97 then xB (xGet w 204) fun v8 => if v8 = 6 then P_X7_is_S1_24 o (fun w9 => some (0, w9)) (fun w10 => some (1, w10)) 5000 (0) w else J_X7_is_S1_20 o   w else J_X7_is_S1_20 o   w
set_option maxRecDepth 20000 in
theorem C_X7_is_S1 {G : aG} {Hf : wS → aH} {bx : Nat} {o : wO} {w : wS} {r : Int32 × wS} (hG : aGood G) (hX : aTxt G) (E : EX Hf bx o) (hL : L_X7_is_S1 o  w = some r) : AC G M_X7_is [.ref (bx + 2), .ref 2] (Hf w) (.inl (some (.int r.1)), Hf r.2) := by
  unfold L_X7_is_S1 at hL
  refine AC.of (by decide) rfl (Nat.le_of_ble_eq_true rfl) ?_
  show AG G M_X7_is 0 [some (.ref (bx + 2)), some (.ref 2), none] [] _ _
  refine g_aload_n dX7_is_0 rfl rfl ?_
  refine s_getI (k := 2) (j := 2) E.1 hL rfl rfl f_X7_19 dX7_is_1 ?_
  intro v7 hL
  refine g_bipush (v := 97) dX7_is_4 (by decide) ?_
  refine g_icmp_ne (tgt := 20) dX7_is_6 (by decide) (fun q12 => ?_) (fun q12 => ?_)
  · rw [if_neg q12] at hL
    refine g_none 0 ?_
    refine g_none 1 ?_
    exact J_X7_is_S1_20_ok hG hX E hL 
  · rw [if_pos q12] at hL
    refine g_aload_n dX7_is_9 rfl rfl ?_
    refine s_getI (k := 2) (j := 4) E.1 hL rfl rfl f_X7_25 dX7_is_10 ?_
    intro v8 hL
    refine g_aload_n dX7_is_13 rfl rfl ?_
    refine g_callSt (M' := M_J0_length_8abf5) (k := 1) (as := []) (v := some (.int 6)) hX.2.2 (by decide) l_X7_48 kV_J0_length_8abf5 (by decide) rfl (hX.1 1 _ _ rfl) rfl (Nat.le_of_ble_eq_true rfl) dX7_is_14 ?_
    refine g_icmp_eq (tgt := 22) dX7_is_17 (by decide) (fun q11 => ?_) (fun q11 => ?_)
    · rw [if_pos q11] at hL
      refine g_iconst (v := 0) dX7_is_22 (by decide) ?_
      refine g_istore_n (i := 2) dX7_is_23 rfl (by decide) rfl ?_
      refine P_X7_is_S1_24_ok hG hX E hL ?_ ?_
      · intro w9 hL
        refine g_iconst (v := 0) dX7_is_51 (by decide) ?_
        obtain rfl := Option.some.inj hL
        exact g_zret rfl (by decide) dX7_is_52
      · intro w10 hL
        refine g_iconst (v := 1) dX7_is_59 (by decide) ?_
        obtain rfl := Option.some.inj hL
        exact g_zret rfl (by decide) dX7_is_60
    · rw [if_neg q11] at hL
      refine g_none 0 ?_
      refine g_none 1 ?_
      exact J_X7_is_S1_20_ok hG hX E hL 
def B_X7_is_S2_24 (o : wO) (kh24 : Int32 → wS → Option (Int32 × wS)) (ke51 : wS → Option (Int32 × wS)) (ke59 : wS → Option (Int32 × wS)) (x2 : Int32) (w : wS) : Option (Int32 × wS) :=
  xB (xGet w 204) fun v1 => if v1 ≤ x2 then ke59  w else xB (xGet w 203) fun v2 => xB (xAld w 3 700 ((v2 + x2))) fun v3 => xB (xChr (aChr.getD 2 []) (x2)) fun v4 => if v3 = v4 then kh24 ((x2 + 1)) w else ke51  w
set_option maxRecDepth 20000 in
theorem B_X7_is_S2_24_ok {G : aG} {Hf : wS → aH} {bx : Nat} {o : wO} {kh24 : Int32 → wS → Option (Int32 × wS)} {ke51 : wS → Option (Int32 × wS)} {ke59 : wS → Option (Int32 × wS)} {x2 : Int32} {w : wS} {r : Int32 × wS} (hG : aGood G) (hX : aTxt G) (E : EX Hf bx o) (hL : B_X7_is_S2_24 o kh24 ke51 ke59 x2 w = some r) (Hkh24 : ∀ (z0 : Int32) (w : wS), kh24 z0 w = some r → AG G M_X7_is 24 [some (.ref (bx + 2)), some (.ref 3), some (.int (z0))] [] (Hf w) (.inl (some (.int r.1)), Hf r.2)) (Hke51 : ∀ (w : wS), ke51  w = some r → AG G M_X7_is 51 [none, none, none] [] (Hf w) (.inl (some (.int r.1)), Hf r.2)) (Hke59 : ∀ (w : wS), ke59  w = some r → AG G M_X7_is 59 [none, none, none] [] (Hf w) (.inl (some (.int r.1)), Hf r.2)) : AG G M_X7_is 24 [some (.ref (bx + 2)), some (.ref 3), some (.int (x2))] [] (Hf w) (.inl (some (.int r.1)), Hf r.2) := by
  unfold B_X7_is_S2_24 at hL
  refine g_iload_n dX7_is_24 rfl rfl ?_
  refine g_aload_n dX7_is_25 rfl rfl ?_
  refine s_getI (k := 2) (j := 4) E.1 hL rfl rfl f_X7_25 dX7_is_26 ?_
  intro v1 hL
  refine g_icmp_ge (tgt := 59) dX7_is_29 (by decide) (fun q6 => ?_) (fun q6 => ?_)
  · rw [if_pos q6] at hL
    refine g_none 0 ?_
    refine g_none 1 ?_
    refine g_none 2 ?_
    exact Hke59  _ hL
  · rw [if_neg q6] at hL
    refine g_aload_n dX7_is_32 rfl rfl ?_
    refine s_getR (k := 2) (j := 0) E.1 rfl rfl f_X7_9 dX7_is_33 ?_
    refine g_aload_n dX7_is_36 rfl rfl ?_
    refine s_getI (k := 2) (j := 3) E.1 hL rfl rfl f_X7_22 dX7_is_37 ?_
    intro v2 hL
    refine g_iload_n dX7_is_40 rfl rfl ?_
    refine g_iadd dX7_is_41 ?_
    refine s_bald (k := 3) E.1 hL rfl dX7_is_42 ?_
    intro v3 hL
    refine g_aload_n dX7_is_43 rfl rfl ?_
    refine g_iload_n dX7_is_44 rfl rfl ?_
    obtain ⟨v4, hc, hL⟩ := xB_some hL
    refine g_callSt (M' := M_J0_charAt_5068e) (k := 2) (as := [.int (x2)]) (v := some (.int v4)) hX.2.2 (by decide) l_X7_53 kV_J0_charAt_5068e (by decide) rfl (hX.2.1 2 _ _ _ _ rfl hc) rfl (Nat.le_of_ble_eq_true rfl) dX7_is_45 ?_
    refine g_icmp_eq (tgt := 53) dX7_is_48 (by decide) (fun q5 => ?_) (fun q5 => ?_)
    · rw [if_pos q5] at hL
      refine g_iincV (v := (x2 + 1)) dX7_is_53 rfl rfl (by decide) rfl ?_
      refine g_goto (tgt := 24) dX7_is_56 (by decide) ?_
      exact Hkh24 _ _ hL
    · rw [if_neg q5] at hL
      refine g_none 0 ?_
      refine g_none 1 ?_
      refine g_none 2 ?_
      exact Hke51  _ hL
def P_X7_is_S2_24 (o : wO) (ke51 : wS → Option (Int32 × wS)) (ke59 : wS → Option (Int32 × wS)) (n : Nat) (x2 : Int32) (w : wS) : Option (Int32 × wS) :=
  xLoop (fun (kk : Int32 × wS → Option (Int32 × wS)) σ => B_X7_is_S2_24 o (fun x2 w => kk (x2, w)) ke51 ke59 (σ.1) (σ.2)) n (x2, w)
theorem P_X7_is_S2_24_ok {G : aG} {Hf : wS → aH} {bx : Nat} {o : wO} {ke51 : wS → Option (Int32 × wS)} {ke59 : wS → Option (Int32 × wS)} {n : Nat} {x2 : Int32} {w : wS} {r : Int32 × wS} (hG : aGood G) (hX : aTxt G) (E : EX Hf bx o) (hL : P_X7_is_S2_24 o ke51 ke59 n x2 w = some r) (Hke51 : ∀ (w : wS), ke51  w = some r → AG G M_X7_is 51 [none, none, none] [] (Hf w) (.inl (some (.int r.1)), Hf r.2)) (Hke59 : ∀ (w : wS), ke59  w = some r → AG G M_X7_is 59 [none, none, none] [] (Hf w) (.inl (some (.int r.1)), Hf r.2)) : AG G M_X7_is 24 [some (.ref (bx + 2)), some (.ref 3), some (.int (x2))] [] (Hf w) (.inl (some (.int r.1)), Hf r.2) :=
  xLoop_ok (Q := fun (σ : Int32 × wS) => AG G M_X7_is 24 [some (.ref (bx + 2)), some (.ref 3), some (.int (σ.1))] [] (Hf σ.2) (.inl (some (.int r.1)), Hf r.2)) (fun kk hk σ hσ => B_X7_is_S2_24_ok hG hX E hσ (fun x2 w h9 => hk (x2, w) h9) Hke51 Hke59) n (x2, w) hL
def J_X7_is_S2_20 (o : wO) (w : wS) : Option (Int32 × wS) :=
  some (0, w)
set_option maxRecDepth 20000 in
theorem J_X7_is_S2_20_ok {G : aG} {Hf : wS → aH} {bx : Nat} {o : wO} {w : wS} {r : Int32 × wS} (hG : aGood G) (hX : aTxt G) (E : EX Hf bx o) (hL : J_X7_is_S2_20 o   w = some r) : AG G M_X7_is 20 [none, none, none] [] (Hf w) (.inl (some (.int r.1)), Hf r.2) := by
  unfold J_X7_is_S2_20 at hL
  refine g_iconst (v := 0) dX7_is_20 (by decide) ?_
  obtain rfl := Option.some.inj hL
  exact g_zret rfl (by decide) dX7_is_21
def L_X7_is_S2 (o : wO) (w : wS) : Option (Int32 × wS) :=
  xB (xGet w 202) fun v7 => if v7 = 97 then xB (xGet w 204) fun v8 => if v8 = 4 then P_X7_is_S2_24 o (fun w9 => some (0, w9)) (fun w10 => some (1, w10)) 5000 (0) w else J_X7_is_S2_20 o   w else J_X7_is_S2_20 o   w
set_option maxRecDepth 20000 in
theorem C_X7_is_S2 {G : aG} {Hf : wS → aH} {bx : Nat} {o : wO} {w : wS} {r : Int32 × wS} (hG : aGood G) (hX : aTxt G) (E : EX Hf bx o) (hL : L_X7_is_S2 o  w = some r) : AC G M_X7_is [.ref (bx + 2), .ref 3] (Hf w) (.inl (some (.int r.1)), Hf r.2) := by
  unfold L_X7_is_S2 at hL
  refine AC.of (by decide) rfl (Nat.le_of_ble_eq_true rfl) ?_
  show AG G M_X7_is 0 [some (.ref (bx + 2)), some (.ref 3), none] [] _ _
  refine g_aload_n dX7_is_0 rfl rfl ?_
  refine s_getI (k := 2) (j := 2) E.1 hL rfl rfl f_X7_19 dX7_is_1 ?_
  intro v7 hL
  refine g_bipush (v := 97) dX7_is_4 (by decide) ?_
  refine g_icmp_ne (tgt := 20) dX7_is_6 (by decide) (fun q12 => ?_) (fun q12 => ?_)
  · rw [if_neg q12] at hL
    refine g_none 0 ?_
    refine g_none 1 ?_
    exact J_X7_is_S2_20_ok hG hX E hL 
  · rw [if_pos q12] at hL
    refine g_aload_n dX7_is_9 rfl rfl ?_
    refine s_getI (k := 2) (j := 4) E.1 hL rfl rfl f_X7_25 dX7_is_10 ?_
    intro v8 hL
    refine g_aload_n dX7_is_13 rfl rfl ?_
    refine g_callSt (M' := M_J0_length_8abf5) (k := 2) (as := []) (v := some (.int 4)) hX.2.2 (by decide) l_X7_48 kV_J0_length_8abf5 (by decide) rfl (hX.1 2 _ _ rfl) rfl (Nat.le_of_ble_eq_true rfl) dX7_is_14 ?_
    refine g_icmp_eq (tgt := 22) dX7_is_17 (by decide) (fun q11 => ?_) (fun q11 => ?_)
    · rw [if_pos q11] at hL
      refine g_iconst (v := 0) dX7_is_22 (by decide) ?_
      refine g_istore_n (i := 2) dX7_is_23 rfl (by decide) rfl ?_
      refine P_X7_is_S2_24_ok hG hX E hL ?_ ?_
      · intro w9 hL
        refine g_iconst (v := 0) dX7_is_51 (by decide) ?_
        obtain rfl := Option.some.inj hL
        exact g_zret rfl (by decide) dX7_is_52
      · intro w10 hL
        refine g_iconst (v := 1) dX7_is_59 (by decide) ?_
        obtain rfl := Option.some.inj hL
        exact g_zret rfl (by decide) dX7_is_60
    · rw [if_neg q11] at hL
      refine g_none 0 ?_
      refine g_none 1 ?_
      exact J_X7_is_S2_20_ok hG hX E hL 
def B_X7_is_S3_24 (o : wO) (kh24 : Int32 → wS → Option (Int32 × wS)) (ke51 : wS → Option (Int32 × wS)) (ke59 : wS → Option (Int32 × wS)) (x2 : Int32) (w : wS) : Option (Int32 × wS) :=
  xB (xGet w 204) fun v1 => if v1 ≤ x2 then ke59  w else xB (xGet w 203) fun v2 => xB (xAld w 3 700 ((v2 + x2))) fun v3 => xB (xChr (aChr.getD 3 []) (x2)) fun v4 => if v3 = v4 then kh24 ((x2 + 1)) w else ke51  w
set_option maxRecDepth 20000 in
theorem B_X7_is_S3_24_ok {G : aG} {Hf : wS → aH} {bx : Nat} {o : wO} {kh24 : Int32 → wS → Option (Int32 × wS)} {ke51 : wS → Option (Int32 × wS)} {ke59 : wS → Option (Int32 × wS)} {x2 : Int32} {w : wS} {r : Int32 × wS} (hG : aGood G) (hX : aTxt G) (E : EX Hf bx o) (hL : B_X7_is_S3_24 o kh24 ke51 ke59 x2 w = some r) (Hkh24 : ∀ (z0 : Int32) (w : wS), kh24 z0 w = some r → AG G M_X7_is 24 [some (.ref (bx + 2)), some (.ref 4), some (.int (z0))] [] (Hf w) (.inl (some (.int r.1)), Hf r.2)) (Hke51 : ∀ (w : wS), ke51  w = some r → AG G M_X7_is 51 [none, none, none] [] (Hf w) (.inl (some (.int r.1)), Hf r.2)) (Hke59 : ∀ (w : wS), ke59  w = some r → AG G M_X7_is 59 [none, none, none] [] (Hf w) (.inl (some (.int r.1)), Hf r.2)) : AG G M_X7_is 24 [some (.ref (bx + 2)), some (.ref 4), some (.int (x2))] [] (Hf w) (.inl (some (.int r.1)), Hf r.2) := by
  unfold B_X7_is_S3_24 at hL
  refine g_iload_n dX7_is_24 rfl rfl ?_
  refine g_aload_n dX7_is_25 rfl rfl ?_
  refine s_getI (k := 2) (j := 4) E.1 hL rfl rfl f_X7_25 dX7_is_26 ?_
  intro v1 hL
  refine g_icmp_ge (tgt := 59) dX7_is_29 (by decide) (fun q6 => ?_) (fun q6 => ?_)
  · rw [if_pos q6] at hL
    refine g_none 0 ?_
    refine g_none 1 ?_
    refine g_none 2 ?_
    exact Hke59  _ hL
  · rw [if_neg q6] at hL
    refine g_aload_n dX7_is_32 rfl rfl ?_
    refine s_getR (k := 2) (j := 0) E.1 rfl rfl f_X7_9 dX7_is_33 ?_
    refine g_aload_n dX7_is_36 rfl rfl ?_
    refine s_getI (k := 2) (j := 3) E.1 hL rfl rfl f_X7_22 dX7_is_37 ?_
    intro v2 hL
    refine g_iload_n dX7_is_40 rfl rfl ?_
    refine g_iadd dX7_is_41 ?_
    refine s_bald (k := 3) E.1 hL rfl dX7_is_42 ?_
    intro v3 hL
    refine g_aload_n dX7_is_43 rfl rfl ?_
    refine g_iload_n dX7_is_44 rfl rfl ?_
    obtain ⟨v4, hc, hL⟩ := xB_some hL
    refine g_callSt (M' := M_J0_charAt_5068e) (k := 3) (as := [.int (x2)]) (v := some (.int v4)) hX.2.2 (by decide) l_X7_53 kV_J0_charAt_5068e (by decide) rfl (hX.2.1 3 _ _ _ _ rfl hc) rfl (Nat.le_of_ble_eq_true rfl) dX7_is_45 ?_
    refine g_icmp_eq (tgt := 53) dX7_is_48 (by decide) (fun q5 => ?_) (fun q5 => ?_)
    · rw [if_pos q5] at hL
      refine g_iincV (v := (x2 + 1)) dX7_is_53 rfl rfl (by decide) rfl ?_
      refine g_goto (tgt := 24) dX7_is_56 (by decide) ?_
      exact Hkh24 _ _ hL
    · rw [if_neg q5] at hL
      refine g_none 0 ?_
      refine g_none 1 ?_
      refine g_none 2 ?_
      exact Hke51  _ hL
def P_X7_is_S3_24 (o : wO) (ke51 : wS → Option (Int32 × wS)) (ke59 : wS → Option (Int32 × wS)) (n : Nat) (x2 : Int32) (w : wS) : Option (Int32 × wS) :=
  xLoop (fun (kk : Int32 × wS → Option (Int32 × wS)) σ => B_X7_is_S3_24 o (fun x2 w => kk (x2, w)) ke51 ke59 (σ.1) (σ.2)) n (x2, w)
theorem P_X7_is_S3_24_ok {G : aG} {Hf : wS → aH} {bx : Nat} {o : wO} {ke51 : wS → Option (Int32 × wS)} {ke59 : wS → Option (Int32 × wS)} {n : Nat} {x2 : Int32} {w : wS} {r : Int32 × wS} (hG : aGood G) (hX : aTxt G) (E : EX Hf bx o) (hL : P_X7_is_S3_24 o ke51 ke59 n x2 w = some r) (Hke51 : ∀ (w : wS), ke51  w = some r → AG G M_X7_is 51 [none, none, none] [] (Hf w) (.inl (some (.int r.1)), Hf r.2)) (Hke59 : ∀ (w : wS), ke59  w = some r → AG G M_X7_is 59 [none, none, none] [] (Hf w) (.inl (some (.int r.1)), Hf r.2)) : AG G M_X7_is 24 [some (.ref (bx + 2)), some (.ref 4), some (.int (x2))] [] (Hf w) (.inl (some (.int r.1)), Hf r.2) :=
  xLoop_ok (Q := fun (σ : Int32 × wS) => AG G M_X7_is 24 [some (.ref (bx + 2)), some (.ref 4), some (.int (σ.1))] [] (Hf σ.2) (.inl (some (.int r.1)), Hf r.2)) (fun kk hk σ hσ => B_X7_is_S3_24_ok hG hX E hσ (fun x2 w h9 => hk (x2, w) h9) Hke51 Hke59) n (x2, w) hL
def J_X7_is_S3_20 (o : wO) (w : wS) : Option (Int32 × wS) :=
  some (0, w)
set_option maxRecDepth 20000 in
theorem J_X7_is_S3_20_ok {G : aG} {Hf : wS → aH} {bx : Nat} {o : wO} {w : wS} {r : Int32 × wS} (hG : aGood G) (hX : aTxt G) (E : EX Hf bx o) (hL : J_X7_is_S3_20 o   w = some r) : AG G M_X7_is 20 [none, none, none] [] (Hf w) (.inl (some (.int r.1)), Hf r.2) := by
  unfold J_X7_is_S3_20 at hL
  refine g_iconst (v := 0) dX7_is_20 (by decide) ?_
  obtain rfl := Option.some.inj hL
  exact g_zret rfl (by decide) dX7_is_21
def L_X7_is_S3 (o : wO) (w : wS) : Option (Int32 × wS) :=
  xB (xGet w 202) fun v7 => if v7 = 97 then xB (xGet w 204) fun v8 => if v8 = 4 then P_X7_is_S3_24 o (fun w9 => some (0, w9)) (fun w10 => some (1, w10)) 5000 (0) w else J_X7_is_S3_20 o   w else J_X7_is_S3_20 o   w
set_option maxRecDepth 20000 in
theorem C_X7_is_S3 {G : aG} {Hf : wS → aH} {bx : Nat} {o : wO} {w : wS} {r : Int32 × wS} (hG : aGood G) (hX : aTxt G) (E : EX Hf bx o) (hL : L_X7_is_S3 o  w = some r) : AC G M_X7_is [.ref (bx + 2), .ref 4] (Hf w) (.inl (some (.int r.1)), Hf r.2) := by
  unfold L_X7_is_S3 at hL
  refine AC.of (by decide) rfl (Nat.le_of_ble_eq_true rfl) ?_
  show AG G M_X7_is 0 [some (.ref (bx + 2)), some (.ref 4), none] [] _ _
  refine g_aload_n dX7_is_0 rfl rfl ?_
  refine s_getI (k := 2) (j := 2) E.1 hL rfl rfl f_X7_19 dX7_is_1 ?_
  intro v7 hL
  refine g_bipush (v := 97) dX7_is_4 (by decide) ?_
  refine g_icmp_ne (tgt := 20) dX7_is_6 (by decide) (fun q12 => ?_) (fun q12 => ?_)
  · rw [if_neg q12] at hL
    refine g_none 0 ?_
    refine g_none 1 ?_
    exact J_X7_is_S3_20_ok hG hX E hL 
  · rw [if_pos q12] at hL
    refine g_aload_n dX7_is_9 rfl rfl ?_
    refine s_getI (k := 2) (j := 4) E.1 hL rfl rfl f_X7_25 dX7_is_10 ?_
    intro v8 hL
    refine g_aload_n dX7_is_13 rfl rfl ?_
    refine g_callSt (M' := M_J0_length_8abf5) (k := 3) (as := []) (v := some (.int 4)) hX.2.2 (by decide) l_X7_48 kV_J0_length_8abf5 (by decide) rfl (hX.1 3 _ _ rfl) rfl (Nat.le_of_ble_eq_true rfl) dX7_is_14 ?_
    refine g_icmp_eq (tgt := 22) dX7_is_17 (by decide) (fun q11 => ?_) (fun q11 => ?_)
    · rw [if_pos q11] at hL
      refine g_iconst (v := 0) dX7_is_22 (by decide) ?_
      refine g_istore_n (i := 2) dX7_is_23 rfl (by decide) rfl ?_
      refine P_X7_is_S3_24_ok hG hX E hL ?_ ?_
      · intro w9 hL
        refine g_iconst (v := 0) dX7_is_51 (by decide) ?_
        obtain rfl := Option.some.inj hL
        exact g_zret rfl (by decide) dX7_is_52
      · intro w10 hL
        refine g_iconst (v := 1) dX7_is_59 (by decide) ?_
        obtain rfl := Option.some.inj hL
        exact g_zret rfl (by decide) dX7_is_60
    · rw [if_neg q11] at hL
      refine g_none 0 ?_
      refine g_none 1 ?_
      exact J_X7_is_S3_20_ok hG hX E hL 
def B_X7_is_S4_24 (o : wO) (kh24 : Int32 → wS → Option (Int32 × wS)) (ke51 : wS → Option (Int32 × wS)) (ke59 : wS → Option (Int32 × wS)) (x2 : Int32) (w : wS) : Option (Int32 × wS) :=
  xB (xGet w 204) fun v1 => if v1 ≤ x2 then ke59  w else xB (xGet w 203) fun v2 => xB (xAld w 3 700 ((v2 + x2))) fun v3 => xB (xChr (aChr.getD 4 []) (x2)) fun v4 => if v3 = v4 then kh24 ((x2 + 1)) w else ke51  w
set_option maxRecDepth 20000 in
theorem B_X7_is_S4_24_ok {G : aG} {Hf : wS → aH} {bx : Nat} {o : wO} {kh24 : Int32 → wS → Option (Int32 × wS)} {ke51 : wS → Option (Int32 × wS)} {ke59 : wS → Option (Int32 × wS)} {x2 : Int32} {w : wS} {r : Int32 × wS} (hG : aGood G) (hX : aTxt G) (E : EX Hf bx o) (hL : B_X7_is_S4_24 o kh24 ke51 ke59 x2 w = some r) (Hkh24 : ∀ (z0 : Int32) (w : wS), kh24 z0 w = some r → AG G M_X7_is 24 [some (.ref (bx + 2)), some (.ref 5), some (.int (z0))] [] (Hf w) (.inl (some (.int r.1)), Hf r.2)) (Hke51 : ∀ (w : wS), ke51  w = some r → AG G M_X7_is 51 [none, none, none] [] (Hf w) (.inl (some (.int r.1)), Hf r.2)) (Hke59 : ∀ (w : wS), ke59  w = some r → AG G M_X7_is 59 [none, none, none] [] (Hf w) (.inl (some (.int r.1)), Hf r.2)) : AG G M_X7_is 24 [some (.ref (bx + 2)), some (.ref 5), some (.int (x2))] [] (Hf w) (.inl (some (.int r.1)), Hf r.2) := by
  unfold B_X7_is_S4_24 at hL
  refine g_iload_n dX7_is_24 rfl rfl ?_
  refine g_aload_n dX7_is_25 rfl rfl ?_
  refine s_getI (k := 2) (j := 4) E.1 hL rfl rfl f_X7_25 dX7_is_26 ?_
  intro v1 hL
  refine g_icmp_ge (tgt := 59) dX7_is_29 (by decide) (fun q6 => ?_) (fun q6 => ?_)
  · rw [if_pos q6] at hL
    refine g_none 0 ?_
    refine g_none 1 ?_
    refine g_none 2 ?_
    exact Hke59  _ hL
  · rw [if_neg q6] at hL
    refine g_aload_n dX7_is_32 rfl rfl ?_
    refine s_getR (k := 2) (j := 0) E.1 rfl rfl f_X7_9 dX7_is_33 ?_
    refine g_aload_n dX7_is_36 rfl rfl ?_
    refine s_getI (k := 2) (j := 3) E.1 hL rfl rfl f_X7_22 dX7_is_37 ?_
    intro v2 hL
    refine g_iload_n dX7_is_40 rfl rfl ?_
    refine g_iadd dX7_is_41 ?_
    refine s_bald (k := 3) E.1 hL rfl dX7_is_42 ?_
    intro v3 hL
    refine g_aload_n dX7_is_43 rfl rfl ?_
    refine g_iload_n dX7_is_44 rfl rfl ?_
    obtain ⟨v4, hc, hL⟩ := xB_some hL
    refine g_callSt (M' := M_J0_charAt_5068e) (k := 4) (as := [.int (x2)]) (v := some (.int v4)) hX.2.2 (by decide) l_X7_53 kV_J0_charAt_5068e (by decide) rfl (hX.2.1 4 _ _ _ _ rfl hc) rfl (Nat.le_of_ble_eq_true rfl) dX7_is_45 ?_
    refine g_icmp_eq (tgt := 53) dX7_is_48 (by decide) (fun q5 => ?_) (fun q5 => ?_)
    · rw [if_pos q5] at hL
      refine g_iincV (v := (x2 + 1)) dX7_is_53 rfl rfl (by decide) rfl ?_
      refine g_goto (tgt := 24) dX7_is_56 (by decide) ?_
      exact Hkh24 _ _ hL
    · rw [if_neg q5] at hL
      refine g_none 0 ?_
      refine g_none 1 ?_
      refine g_none 2 ?_
      exact Hke51  _ hL
def P_X7_is_S4_24 (o : wO) (ke51 : wS → Option (Int32 × wS)) (ke59 : wS → Option (Int32 × wS)) (n : Nat) (x2 : Int32) (w : wS) : Option (Int32 × wS) :=
  xLoop (fun (kk : Int32 × wS → Option (Int32 × wS)) σ => B_X7_is_S4_24 o (fun x2 w => kk (x2, w)) ke51 ke59 (σ.1) (σ.2)) n (x2, w)
theorem P_X7_is_S4_24_ok {G : aG} {Hf : wS → aH} {bx : Nat} {o : wO} {ke51 : wS → Option (Int32 × wS)} {ke59 : wS → Option (Int32 × wS)} {n : Nat} {x2 : Int32} {w : wS} {r : Int32 × wS} (hG : aGood G) (hX : aTxt G) (E : EX Hf bx o) (hL : P_X7_is_S4_24 o ke51 ke59 n x2 w = some r) (Hke51 : ∀ (w : wS), ke51  w = some r → AG G M_X7_is 51 [none, none, none] [] (Hf w) (.inl (some (.int r.1)), Hf r.2)) (Hke59 : ∀ (w : wS), ke59  w = some r → AG G M_X7_is 59 [none, none, none] [] (Hf w) (.inl (some (.int r.1)), Hf r.2)) : AG G M_X7_is 24 [some (.ref (bx + 2)), some (.ref 5), some (.int (x2))] [] (Hf w) (.inl (some (.int r.1)), Hf r.2) :=
  xLoop_ok (Q := fun (σ : Int32 × wS) => AG G M_X7_is 24 [some (.ref (bx + 2)), some (.ref 5), some (.int (σ.1))] [] (Hf σ.2) (.inl (some (.int r.1)), Hf r.2)) (fun kk hk σ hσ => B_X7_is_S4_24_ok hG hX E hσ (fun x2 w h9 => hk (x2, w) h9) Hke51 Hke59) n (x2, w) hL
def J_X7_is_S4_20 (o : wO) (w : wS) : Option (Int32 × wS) :=
  some (0, w)
set_option maxRecDepth 20000 in
theorem J_X7_is_S4_20_ok {G : aG} {Hf : wS → aH} {bx : Nat} {o : wO} {w : wS} {r : Int32 × wS} (hG : aGood G) (hX : aTxt G) (E : EX Hf bx o) (hL : J_X7_is_S4_20 o   w = some r) : AG G M_X7_is 20 [none, none, none] [] (Hf w) (.inl (some (.int r.1)), Hf r.2) := by
  unfold J_X7_is_S4_20 at hL
  refine g_iconst (v := 0) dX7_is_20 (by decide) ?_
  obtain rfl := Option.some.inj hL
  exact g_zret rfl (by decide) dX7_is_21
def L_X7_is_S4 (o : wO) (w : wS) : Option (Int32 × wS) :=
  xB (xGet w 202) fun v7 => if v7 = 97 then xB (xGet w 204) fun v8 => if v8 = 4 then P_X7_is_S4_24 o (fun w9 => some (0, w9)) (fun w10 => some (1, w10)) 5000 (0) w else J_X7_is_S4_20 o   w else J_X7_is_S4_20 o   w
set_option maxRecDepth 20000 in
theorem C_X7_is_S4 {G : aG} {Hf : wS → aH} {bx : Nat} {o : wO} {w : wS} {r : Int32 × wS} (hG : aGood G) (hX : aTxt G) (E : EX Hf bx o) (hL : L_X7_is_S4 o  w = some r) : AC G M_X7_is [.ref (bx + 2), .ref 5] (Hf w) (.inl (some (.int r.1)), Hf r.2) := by
  unfold L_X7_is_S4 at hL
  refine AC.of (by decide) rfl (Nat.le_of_ble_eq_true rfl) ?_
  show AG G M_X7_is 0 [some (.ref (bx + 2)), some (.ref 5), none] [] _ _
  refine g_aload_n dX7_is_0 rfl rfl ?_
  refine s_getI (k := 2) (j := 2) E.1 hL rfl rfl f_X7_19 dX7_is_1 ?_
  intro v7 hL
  refine g_bipush (v := 97) dX7_is_4 (by decide) ?_
  refine g_icmp_ne (tgt := 20) dX7_is_6 (by decide) (fun q12 => ?_) (fun q12 => ?_)
  · rw [if_neg q12] at hL
    refine g_none 0 ?_
    refine g_none 1 ?_
    exact J_X7_is_S4_20_ok hG hX E hL 
  · rw [if_pos q12] at hL
    refine g_aload_n dX7_is_9 rfl rfl ?_
    refine s_getI (k := 2) (j := 4) E.1 hL rfl rfl f_X7_25 dX7_is_10 ?_
    intro v8 hL
    refine g_aload_n dX7_is_13 rfl rfl ?_
    refine g_callSt (M' := M_J0_length_8abf5) (k := 4) (as := []) (v := some (.int 4)) hX.2.2 (by decide) l_X7_48 kV_J0_length_8abf5 (by decide) rfl (hX.1 4 _ _ rfl) rfl (Nat.le_of_ble_eq_true rfl) dX7_is_14 ?_
    refine g_icmp_eq (tgt := 22) dX7_is_17 (by decide) (fun q11 => ?_) (fun q11 => ?_)
    · rw [if_pos q11] at hL
      refine g_iconst (v := 0) dX7_is_22 (by decide) ?_
      refine g_istore_n (i := 2) dX7_is_23 rfl (by decide) rfl ?_
      refine P_X7_is_S4_24_ok hG hX E hL ?_ ?_
      · intro w9 hL
        refine g_iconst (v := 0) dX7_is_51 (by decide) ?_
        obtain rfl := Option.some.inj hL
        exact g_zret rfl (by decide) dX7_is_52
      · intro w10 hL
        refine g_iconst (v := 1) dX7_is_59 (by decide) ?_
        obtain rfl := Option.some.inj hL
        exact g_zret rfl (by decide) dX7_is_60
    · rw [if_neg q11] at hL
      refine g_none 0 ?_
      refine g_none 1 ?_
      exact J_X7_is_S4_20_ok hG hX E hL 
def B_X7_is_S5_24 (o : wO) (kh24 : Int32 → wS → Option (Int32 × wS)) (ke51 : wS → Option (Int32 × wS)) (ke59 : wS → Option (Int32 × wS)) (x2 : Int32) (w : wS) : Option (Int32 × wS) :=
  xB (xGet w 204) fun v1 => if v1 ≤ x2 then ke59  w else xB (xGet w 203) fun v2 => xB (xAld w 3 700 ((v2 + x2))) fun v3 => xB (xChr (aChr.getD 5 []) (x2)) fun v4 => if v3 = v4 then kh24 ((x2 + 1)) w else ke51  w
set_option maxRecDepth 20000 in
theorem B_X7_is_S5_24_ok {G : aG} {Hf : wS → aH} {bx : Nat} {o : wO} {kh24 : Int32 → wS → Option (Int32 × wS)} {ke51 : wS → Option (Int32 × wS)} {ke59 : wS → Option (Int32 × wS)} {x2 : Int32} {w : wS} {r : Int32 × wS} (hG : aGood G) (hX : aTxt G) (E : EX Hf bx o) (hL : B_X7_is_S5_24 o kh24 ke51 ke59 x2 w = some r) (Hkh24 : ∀ (z0 : Int32) (w : wS), kh24 z0 w = some r → AG G M_X7_is 24 [some (.ref (bx + 2)), some (.ref 6), some (.int (z0))] [] (Hf w) (.inl (some (.int r.1)), Hf r.2)) (Hke51 : ∀ (w : wS), ke51  w = some r → AG G M_X7_is 51 [none, none, none] [] (Hf w) (.inl (some (.int r.1)), Hf r.2)) (Hke59 : ∀ (w : wS), ke59  w = some r → AG G M_X7_is 59 [none, none, none] [] (Hf w) (.inl (some (.int r.1)), Hf r.2)) : AG G M_X7_is 24 [some (.ref (bx + 2)), some (.ref 6), some (.int (x2))] [] (Hf w) (.inl (some (.int r.1)), Hf r.2) := by
  unfold B_X7_is_S5_24 at hL
  refine g_iload_n dX7_is_24 rfl rfl ?_
  refine g_aload_n dX7_is_25 rfl rfl ?_
  refine s_getI (k := 2) (j := 4) E.1 hL rfl rfl f_X7_25 dX7_is_26 ?_
  intro v1 hL
  refine g_icmp_ge (tgt := 59) dX7_is_29 (by decide) (fun q6 => ?_) (fun q6 => ?_)
  · rw [if_pos q6] at hL
    refine g_none 0 ?_
    refine g_none 1 ?_
    refine g_none 2 ?_
    exact Hke59  _ hL
  · rw [if_neg q6] at hL
    refine g_aload_n dX7_is_32 rfl rfl ?_
    refine s_getR (k := 2) (j := 0) E.1 rfl rfl f_X7_9 dX7_is_33 ?_
    refine g_aload_n dX7_is_36 rfl rfl ?_
    refine s_getI (k := 2) (j := 3) E.1 hL rfl rfl f_X7_22 dX7_is_37 ?_
    intro v2 hL
    refine g_iload_n dX7_is_40 rfl rfl ?_
    refine g_iadd dX7_is_41 ?_
    refine s_bald (k := 3) E.1 hL rfl dX7_is_42 ?_
    intro v3 hL
    refine g_aload_n dX7_is_43 rfl rfl ?_
    refine g_iload_n dX7_is_44 rfl rfl ?_
    obtain ⟨v4, hc, hL⟩ := xB_some hL
    refine g_callSt (M' := M_J0_charAt_5068e) (k := 5) (as := [.int (x2)]) (v := some (.int v4)) hX.2.2 (by decide) l_X7_53 kV_J0_charAt_5068e (by decide) rfl (hX.2.1 5 _ _ _ _ rfl hc) rfl (Nat.le_of_ble_eq_true rfl) dX7_is_45 ?_
    refine g_icmp_eq (tgt := 53) dX7_is_48 (by decide) (fun q5 => ?_) (fun q5 => ?_)
    · rw [if_pos q5] at hL
      refine g_iincV (v := (x2 + 1)) dX7_is_53 rfl rfl (by decide) rfl ?_
      refine g_goto (tgt := 24) dX7_is_56 (by decide) ?_
      exact Hkh24 _ _ hL
    · rw [if_neg q5] at hL
      refine g_none 0 ?_
      refine g_none 1 ?_
      refine g_none 2 ?_
      exact Hke51  _ hL
def P_X7_is_S5_24 (o : wO) (ke51 : wS → Option (Int32 × wS)) (ke59 : wS → Option (Int32 × wS)) (n : Nat) (x2 : Int32) (w : wS) : Option (Int32 × wS) :=
  xLoop (fun (kk : Int32 × wS → Option (Int32 × wS)) σ => B_X7_is_S5_24 o (fun x2 w => kk (x2, w)) ke51 ke59 (σ.1) (σ.2)) n (x2, w)
theorem P_X7_is_S5_24_ok {G : aG} {Hf : wS → aH} {bx : Nat} {o : wO} {ke51 : wS → Option (Int32 × wS)} {ke59 : wS → Option (Int32 × wS)} {n : Nat} {x2 : Int32} {w : wS} {r : Int32 × wS} (hG : aGood G) (hX : aTxt G) (E : EX Hf bx o) (hL : P_X7_is_S5_24 o ke51 ke59 n x2 w = some r) (Hke51 : ∀ (w : wS), ke51  w = some r → AG G M_X7_is 51 [none, none, none] [] (Hf w) (.inl (some (.int r.1)), Hf r.2)) (Hke59 : ∀ (w : wS), ke59  w = some r → AG G M_X7_is 59 [none, none, none] [] (Hf w) (.inl (some (.int r.1)), Hf r.2)) : AG G M_X7_is 24 [some (.ref (bx + 2)), some (.ref 6), some (.int (x2))] [] (Hf w) (.inl (some (.int r.1)), Hf r.2) :=
  xLoop_ok (Q := fun (σ : Int32 × wS) => AG G M_X7_is 24 [some (.ref (bx + 2)), some (.ref 6), some (.int (σ.1))] [] (Hf σ.2) (.inl (some (.int r.1)), Hf r.2)) (fun kk hk σ hσ => B_X7_is_S5_24_ok hG hX E hσ (fun x2 w h9 => hk (x2, w) h9) Hke51 Hke59) n (x2, w) hL
def J_X7_is_S5_20 (o : wO) (w : wS) : Option (Int32 × wS) :=
  some (0, w)
set_option maxRecDepth 20000 in
theorem J_X7_is_S5_20_ok {G : aG} {Hf : wS → aH} {bx : Nat} {o : wO} {w : wS} {r : Int32 × wS} (hG : aGood G) (hX : aTxt G) (E : EX Hf bx o) (hL : J_X7_is_S5_20 o   w = some r) : AG G M_X7_is 20 [none, none, none] [] (Hf w) (.inl (some (.int r.1)), Hf r.2) := by
  unfold J_X7_is_S5_20 at hL
  refine g_iconst (v := 0) dX7_is_20 (by decide) ?_
  obtain rfl := Option.some.inj hL
  exact g_zret rfl (by decide) dX7_is_21
def L_X7_is_S5 (o : wO) (w : wS) : Option (Int32 × wS) :=
  xB (xGet w 202) fun v7 => if v7 = 97 then xB (xGet w 204) fun v8 => if v8 = 4 then P_X7_is_S5_24 o (fun w9 => some (0, w9)) (fun w10 => some (1, w10)) 5000 (0) w else J_X7_is_S5_20 o   w else J_X7_is_S5_20 o   w
set_option maxRecDepth 20000 in
theorem C_X7_is_S5 {G : aG} {Hf : wS → aH} {bx : Nat} {o : wO} {w : wS} {r : Int32 × wS} (hG : aGood G) (hX : aTxt G) (E : EX Hf bx o) (hL : L_X7_is_S5 o  w = some r) : AC G M_X7_is [.ref (bx + 2), .ref 6] (Hf w) (.inl (some (.int r.1)), Hf r.2) := by
  unfold L_X7_is_S5 at hL
  refine AC.of (by decide) rfl (Nat.le_of_ble_eq_true rfl) ?_
  show AG G M_X7_is 0 [some (.ref (bx + 2)), some (.ref 6), none] [] _ _
  refine g_aload_n dX7_is_0 rfl rfl ?_
  refine s_getI (k := 2) (j := 2) E.1 hL rfl rfl f_X7_19 dX7_is_1 ?_
  intro v7 hL
  refine g_bipush (v := 97) dX7_is_4 (by decide) ?_
  refine g_icmp_ne (tgt := 20) dX7_is_6 (by decide) (fun q12 => ?_) (fun q12 => ?_)
  · rw [if_neg q12] at hL
    refine g_none 0 ?_
    refine g_none 1 ?_
    exact J_X7_is_S5_20_ok hG hX E hL 
  · rw [if_pos q12] at hL
    refine g_aload_n dX7_is_9 rfl rfl ?_
    refine s_getI (k := 2) (j := 4) E.1 hL rfl rfl f_X7_25 dX7_is_10 ?_
    intro v8 hL
    refine g_aload_n dX7_is_13 rfl rfl ?_
    refine g_callSt (M' := M_J0_length_8abf5) (k := 5) (as := []) (v := some (.int 4)) hX.2.2 (by decide) l_X7_48 kV_J0_length_8abf5 (by decide) rfl (hX.1 5 _ _ rfl) rfl (Nat.le_of_ble_eq_true rfl) dX7_is_14 ?_
    refine g_icmp_eq (tgt := 22) dX7_is_17 (by decide) (fun q11 => ?_) (fun q11 => ?_)
    · rw [if_pos q11] at hL
      refine g_iconst (v := 0) dX7_is_22 (by decide) ?_
      refine g_istore_n (i := 2) dX7_is_23 rfl (by decide) rfl ?_
      refine P_X7_is_S5_24_ok hG hX E hL ?_ ?_
      · intro w9 hL
        refine g_iconst (v := 0) dX7_is_51 (by decide) ?_
        obtain rfl := Option.some.inj hL
        exact g_zret rfl (by decide) dX7_is_52
      · intro w10 hL
        refine g_iconst (v := 1) dX7_is_59 (by decide) ?_
        obtain rfl := Option.some.inj hL
        exact g_zret rfl (by decide) dX7_is_60
    · rw [if_neg q11] at hL
      refine g_none 0 ?_
      refine g_none 1 ?_
      exact J_X7_is_S5_20_ok hG hX E hL 
def B_X7_is_S6_24 (o : wO) (kh24 : Int32 → wS → Option (Int32 × wS)) (ke51 : wS → Option (Int32 × wS)) (ke59 : wS → Option (Int32 × wS)) (x2 : Int32) (w : wS) : Option (Int32 × wS) :=
  xB (xGet w 204) fun v1 => if v1 ≤ x2 then ke59  w else xB (xGet w 203) fun v2 => xB (xAld w 3 700 ((v2 + x2))) fun v3 => xB (xChr (aChr.getD 6 []) (x2)) fun v4 => if v3 = v4 then kh24 ((x2 + 1)) w else ke51  w
set_option maxRecDepth 20000 in
theorem B_X7_is_S6_24_ok {G : aG} {Hf : wS → aH} {bx : Nat} {o : wO} {kh24 : Int32 → wS → Option (Int32 × wS)} {ke51 : wS → Option (Int32 × wS)} {ke59 : wS → Option (Int32 × wS)} {x2 : Int32} {w : wS} {r : Int32 × wS} (hG : aGood G) (hX : aTxt G) (E : EX Hf bx o) (hL : B_X7_is_S6_24 o kh24 ke51 ke59 x2 w = some r) (Hkh24 : ∀ (z0 : Int32) (w : wS), kh24 z0 w = some r → AG G M_X7_is 24 [some (.ref (bx + 2)), some (.ref 7), some (.int (z0))] [] (Hf w) (.inl (some (.int r.1)), Hf r.2)) (Hke51 : ∀ (w : wS), ke51  w = some r → AG G M_X7_is 51 [none, none, none] [] (Hf w) (.inl (some (.int r.1)), Hf r.2)) (Hke59 : ∀ (w : wS), ke59  w = some r → AG G M_X7_is 59 [none, none, none] [] (Hf w) (.inl (some (.int r.1)), Hf r.2)) : AG G M_X7_is 24 [some (.ref (bx + 2)), some (.ref 7), some (.int (x2))] [] (Hf w) (.inl (some (.int r.1)), Hf r.2) := by
  unfold B_X7_is_S6_24 at hL
  refine g_iload_n dX7_is_24 rfl rfl ?_
  refine g_aload_n dX7_is_25 rfl rfl ?_
  refine s_getI (k := 2) (j := 4) E.1 hL rfl rfl f_X7_25 dX7_is_26 ?_
  intro v1 hL
  refine g_icmp_ge (tgt := 59) dX7_is_29 (by decide) (fun q6 => ?_) (fun q6 => ?_)
  · rw [if_pos q6] at hL
    refine g_none 0 ?_
    refine g_none 1 ?_
    refine g_none 2 ?_
    exact Hke59  _ hL
  · rw [if_neg q6] at hL
    refine g_aload_n dX7_is_32 rfl rfl ?_
    refine s_getR (k := 2) (j := 0) E.1 rfl rfl f_X7_9 dX7_is_33 ?_
    refine g_aload_n dX7_is_36 rfl rfl ?_
    refine s_getI (k := 2) (j := 3) E.1 hL rfl rfl f_X7_22 dX7_is_37 ?_
    intro v2 hL
    refine g_iload_n dX7_is_40 rfl rfl ?_
    refine g_iadd dX7_is_41 ?_
    refine s_bald (k := 3) E.1 hL rfl dX7_is_42 ?_
    intro v3 hL
    refine g_aload_n dX7_is_43 rfl rfl ?_
    refine g_iload_n dX7_is_44 rfl rfl ?_
    obtain ⟨v4, hc, hL⟩ := xB_some hL
    refine g_callSt (M' := M_J0_charAt_5068e) (k := 6) (as := [.int (x2)]) (v := some (.int v4)) hX.2.2 (by decide) l_X7_53 kV_J0_charAt_5068e (by decide) rfl (hX.2.1 6 _ _ _ _ rfl hc) rfl (Nat.le_of_ble_eq_true rfl) dX7_is_45 ?_
    refine g_icmp_eq (tgt := 53) dX7_is_48 (by decide) (fun q5 => ?_) (fun q5 => ?_)
    · rw [if_pos q5] at hL
      refine g_iincV (v := (x2 + 1)) dX7_is_53 rfl rfl (by decide) rfl ?_
      refine g_goto (tgt := 24) dX7_is_56 (by decide) ?_
      exact Hkh24 _ _ hL
    · rw [if_neg q5] at hL
      refine g_none 0 ?_
      refine g_none 1 ?_
      refine g_none 2 ?_
      exact Hke51  _ hL
def P_X7_is_S6_24 (o : wO) (ke51 : wS → Option (Int32 × wS)) (ke59 : wS → Option (Int32 × wS)) (n : Nat) (x2 : Int32) (w : wS) : Option (Int32 × wS) :=
  xLoop (fun (kk : Int32 × wS → Option (Int32 × wS)) σ => B_X7_is_S6_24 o (fun x2 w => kk (x2, w)) ke51 ke59 (σ.1) (σ.2)) n (x2, w)
theorem P_X7_is_S6_24_ok {G : aG} {Hf : wS → aH} {bx : Nat} {o : wO} {ke51 : wS → Option (Int32 × wS)} {ke59 : wS → Option (Int32 × wS)} {n : Nat} {x2 : Int32} {w : wS} {r : Int32 × wS} (hG : aGood G) (hX : aTxt G) (E : EX Hf bx o) (hL : P_X7_is_S6_24 o ke51 ke59 n x2 w = some r) (Hke51 : ∀ (w : wS), ke51  w = some r → AG G M_X7_is 51 [none, none, none] [] (Hf w) (.inl (some (.int r.1)), Hf r.2)) (Hke59 : ∀ (w : wS), ke59  w = some r → AG G M_X7_is 59 [none, none, none] [] (Hf w) (.inl (some (.int r.1)), Hf r.2)) : AG G M_X7_is 24 [some (.ref (bx + 2)), some (.ref 7), some (.int (x2))] [] (Hf w) (.inl (some (.int r.1)), Hf r.2) :=
  xLoop_ok (Q := fun (σ : Int32 × wS) => AG G M_X7_is 24 [some (.ref (bx + 2)), some (.ref 7), some (.int (σ.1))] [] (Hf σ.2) (.inl (some (.int r.1)), Hf r.2)) (fun kk hk σ hσ => B_X7_is_S6_24_ok hG hX E hσ (fun x2 w h9 => hk (x2, w) h9) Hke51 Hke59) n (x2, w) hL
def J_X7_is_S6_20 (o : wO) (w : wS) : Option (Int32 × wS) :=
  some (0, w)
set_option maxRecDepth 20000 in
theorem J_X7_is_S6_20_ok {G : aG} {Hf : wS → aH} {bx : Nat} {o : wO} {w : wS} {r : Int32 × wS} (hG : aGood G) (hX : aTxt G) (E : EX Hf bx o) (hL : J_X7_is_S6_20 o   w = some r) : AG G M_X7_is 20 [none, none, none] [] (Hf w) (.inl (some (.int r.1)), Hf r.2) := by
  unfold J_X7_is_S6_20 at hL
  refine g_iconst (v := 0) dX7_is_20 (by decide) ?_
  obtain rfl := Option.some.inj hL
  exact g_zret rfl (by decide) dX7_is_21
def L_X7_is_S6 (o : wO) (w : wS) : Option (Int32 × wS) :=
  xB (xGet w 202) fun v7 => if v7 = 97 then xB (xGet w 204) fun v8 => if v8 = 5 then P_X7_is_S6_24 o (fun w9 => some (0, w9)) (fun w10 => some (1, w10)) 5000 (0) w else J_X7_is_S6_20 o   w else J_X7_is_S6_20 o   w
set_option maxRecDepth 20000 in
theorem C_X7_is_S6 {G : aG} {Hf : wS → aH} {bx : Nat} {o : wO} {w : wS} {r : Int32 × wS} (hG : aGood G) (hX : aTxt G) (E : EX Hf bx o) (hL : L_X7_is_S6 o  w = some r) : AC G M_X7_is [.ref (bx + 2), .ref 7] (Hf w) (.inl (some (.int r.1)), Hf r.2) := by
  unfold L_X7_is_S6 at hL
  refine AC.of (by decide) rfl (Nat.le_of_ble_eq_true rfl) ?_
  show AG G M_X7_is 0 [some (.ref (bx + 2)), some (.ref 7), none] [] _ _
  refine g_aload_n dX7_is_0 rfl rfl ?_
  refine s_getI (k := 2) (j := 2) E.1 hL rfl rfl f_X7_19 dX7_is_1 ?_
  intro v7 hL
  refine g_bipush (v := 97) dX7_is_4 (by decide) ?_
  refine g_icmp_ne (tgt := 20) dX7_is_6 (by decide) (fun q12 => ?_) (fun q12 => ?_)
  · rw [if_neg q12] at hL
    refine g_none 0 ?_
    refine g_none 1 ?_
    exact J_X7_is_S6_20_ok hG hX E hL 
  · rw [if_pos q12] at hL
    refine g_aload_n dX7_is_9 rfl rfl ?_
    refine s_getI (k := 2) (j := 4) E.1 hL rfl rfl f_X7_25 dX7_is_10 ?_
    intro v8 hL
    refine g_aload_n dX7_is_13 rfl rfl ?_
    refine g_callSt (M' := M_J0_length_8abf5) (k := 6) (as := []) (v := some (.int 5)) hX.2.2 (by decide) l_X7_48 kV_J0_length_8abf5 (by decide) rfl (hX.1 6 _ _ rfl) rfl (Nat.le_of_ble_eq_true rfl) dX7_is_14 ?_
    refine g_icmp_eq (tgt := 22) dX7_is_17 (by decide) (fun q11 => ?_) (fun q11 => ?_)
    · rw [if_pos q11] at hL
      refine g_iconst (v := 0) dX7_is_22 (by decide) ?_
      refine g_istore_n (i := 2) dX7_is_23 rfl (by decide) rfl ?_
      refine P_X7_is_S6_24_ok hG hX E hL ?_ ?_
      · intro w9 hL
        refine g_iconst (v := 0) dX7_is_51 (by decide) ?_
        obtain rfl := Option.some.inj hL
        exact g_zret rfl (by decide) dX7_is_52
      · intro w10 hL
        refine g_iconst (v := 1) dX7_is_59 (by decide) ?_
        obtain rfl := Option.some.inj hL
        exact g_zret rfl (by decide) dX7_is_60
    · rw [if_neg q11] at hL
      refine g_none 0 ?_
      refine g_none 1 ?_
      exact J_X7_is_S6_20_ok hG hX E hL 
def B_X7_is_S7_24 (o : wO) (kh24 : Int32 → wS → Option (Int32 × wS)) (ke51 : wS → Option (Int32 × wS)) (ke59 : wS → Option (Int32 × wS)) (x2 : Int32) (w : wS) : Option (Int32 × wS) :=
  xB (xGet w 204) fun v1 => if v1 ≤ x2 then ke59  w else xB (xGet w 203) fun v2 => xB (xAld w 3 700 ((v2 + x2))) fun v3 => xB (xChr (aChr.getD 7 []) (x2)) fun v4 => if v3 = v4 then kh24 ((x2 + 1)) w else ke51  w
set_option maxRecDepth 20000 in
theorem B_X7_is_S7_24_ok {G : aG} {Hf : wS → aH} {bx : Nat} {o : wO} {kh24 : Int32 → wS → Option (Int32 × wS)} {ke51 : wS → Option (Int32 × wS)} {ke59 : wS → Option (Int32 × wS)} {x2 : Int32} {w : wS} {r : Int32 × wS} (hG : aGood G) (hX : aTxt G) (E : EX Hf bx o) (hL : B_X7_is_S7_24 o kh24 ke51 ke59 x2 w = some r) (Hkh24 : ∀ (z0 : Int32) (w : wS), kh24 z0 w = some r → AG G M_X7_is 24 [some (.ref (bx + 2)), some (.ref 8), some (.int (z0))] [] (Hf w) (.inl (some (.int r.1)), Hf r.2)) (Hke51 : ∀ (w : wS), ke51  w = some r → AG G M_X7_is 51 [none, none, none] [] (Hf w) (.inl (some (.int r.1)), Hf r.2)) (Hke59 : ∀ (w : wS), ke59  w = some r → AG G M_X7_is 59 [none, none, none] [] (Hf w) (.inl (some (.int r.1)), Hf r.2)) : AG G M_X7_is 24 [some (.ref (bx + 2)), some (.ref 8), some (.int (x2))] [] (Hf w) (.inl (some (.int r.1)), Hf r.2) := by
  unfold B_X7_is_S7_24 at hL
  refine g_iload_n dX7_is_24 rfl rfl ?_
  refine g_aload_n dX7_is_25 rfl rfl ?_
  refine s_getI (k := 2) (j := 4) E.1 hL rfl rfl f_X7_25 dX7_is_26 ?_
  intro v1 hL
  refine g_icmp_ge (tgt := 59) dX7_is_29 (by decide) (fun q6 => ?_) (fun q6 => ?_)
  · rw [if_pos q6] at hL
    refine g_none 0 ?_
    refine g_none 1 ?_
    refine g_none 2 ?_
    exact Hke59  _ hL
  · rw [if_neg q6] at hL
    refine g_aload_n dX7_is_32 rfl rfl ?_
    refine s_getR (k := 2) (j := 0) E.1 rfl rfl f_X7_9 dX7_is_33 ?_
    refine g_aload_n dX7_is_36 rfl rfl ?_
    refine s_getI (k := 2) (j := 3) E.1 hL rfl rfl f_X7_22 dX7_is_37 ?_
    intro v2 hL
    refine g_iload_n dX7_is_40 rfl rfl ?_
    refine g_iadd dX7_is_41 ?_
    refine s_bald (k := 3) E.1 hL rfl dX7_is_42 ?_
    intro v3 hL
    refine g_aload_n dX7_is_43 rfl rfl ?_
    refine g_iload_n dX7_is_44 rfl rfl ?_
    obtain ⟨v4, hc, hL⟩ := xB_some hL
    refine g_callSt (M' := M_J0_charAt_5068e) (k := 7) (as := [.int (x2)]) (v := some (.int v4)) hX.2.2 (by decide) l_X7_53 kV_J0_charAt_5068e (by decide) rfl (hX.2.1 7 _ _ _ _ rfl hc) rfl (Nat.le_of_ble_eq_true rfl) dX7_is_45 ?_
    refine g_icmp_eq (tgt := 53) dX7_is_48 (by decide) (fun q5 => ?_) (fun q5 => ?_)
    · rw [if_pos q5] at hL
      refine g_iincV (v := (x2 + 1)) dX7_is_53 rfl rfl (by decide) rfl ?_
      refine g_goto (tgt := 24) dX7_is_56 (by decide) ?_
      exact Hkh24 _ _ hL
    · rw [if_neg q5] at hL
      refine g_none 0 ?_
      refine g_none 1 ?_
      refine g_none 2 ?_
      exact Hke51  _ hL
def P_X7_is_S7_24 (o : wO) (ke51 : wS → Option (Int32 × wS)) (ke59 : wS → Option (Int32 × wS)) (n : Nat) (x2 : Int32) (w : wS) : Option (Int32 × wS) :=
  xLoop (fun (kk : Int32 × wS → Option (Int32 × wS)) σ => B_X7_is_S7_24 o (fun x2 w => kk (x2, w)) ke51 ke59 (σ.1) (σ.2)) n (x2, w)
theorem P_X7_is_S7_24_ok {G : aG} {Hf : wS → aH} {bx : Nat} {o : wO} {ke51 : wS → Option (Int32 × wS)} {ke59 : wS → Option (Int32 × wS)} {n : Nat} {x2 : Int32} {w : wS} {r : Int32 × wS} (hG : aGood G) (hX : aTxt G) (E : EX Hf bx o) (hL : P_X7_is_S7_24 o ke51 ke59 n x2 w = some r) (Hke51 : ∀ (w : wS), ke51  w = some r → AG G M_X7_is 51 [none, none, none] [] (Hf w) (.inl (some (.int r.1)), Hf r.2)) (Hke59 : ∀ (w : wS), ke59  w = some r → AG G M_X7_is 59 [none, none, none] [] (Hf w) (.inl (some (.int r.1)), Hf r.2)) : AG G M_X7_is 24 [some (.ref (bx + 2)), some (.ref 8), some (.int (x2))] [] (Hf w) (.inl (some (.int r.1)), Hf r.2) :=
  xLoop_ok (Q := fun (σ : Int32 × wS) => AG G M_X7_is 24 [some (.ref (bx + 2)), some (.ref 8), some (.int (σ.1))] [] (Hf σ.2) (.inl (some (.int r.1)), Hf r.2)) (fun kk hk σ hσ => B_X7_is_S7_24_ok hG hX E hσ (fun x2 w h9 => hk (x2, w) h9) Hke51 Hke59) n (x2, w) hL
def J_X7_is_S7_20 (o : wO) (w : wS) : Option (Int32 × wS) :=
  some (0, w)
set_option maxRecDepth 20000 in
theorem J_X7_is_S7_20_ok {G : aG} {Hf : wS → aH} {bx : Nat} {o : wO} {w : wS} {r : Int32 × wS} (hG : aGood G) (hX : aTxt G) (E : EX Hf bx o) (hL : J_X7_is_S7_20 o   w = some r) : AG G M_X7_is 20 [none, none, none] [] (Hf w) (.inl (some (.int r.1)), Hf r.2) := by
  unfold J_X7_is_S7_20 at hL
  refine g_iconst (v := 0) dX7_is_20 (by decide) ?_
  obtain rfl := Option.some.inj hL
  exact g_zret rfl (by decide) dX7_is_21
def L_X7_is_S7 (o : wO) (w : wS) : Option (Int32 × wS) :=
  xB (xGet w 202) fun v7 => if v7 = 97 then xB (xGet w 204) fun v8 => if v8 = 3 then P_X7_is_S7_24 o (fun w9 => some (0, w9)) (fun w10 => some (1, w10)) 5000 (0) w else J_X7_is_S7_20 o   w else J_X7_is_S7_20 o   w
set_option maxRecDepth 20000 in
theorem C_X7_is_S7 {G : aG} {Hf : wS → aH} {bx : Nat} {o : wO} {w : wS} {r : Int32 × wS} (hG : aGood G) (hX : aTxt G) (E : EX Hf bx o) (hL : L_X7_is_S7 o  w = some r) : AC G M_X7_is [.ref (bx + 2), .ref 8] (Hf w) (.inl (some (.int r.1)), Hf r.2) := by
  unfold L_X7_is_S7 at hL
  refine AC.of (by decide) rfl (Nat.le_of_ble_eq_true rfl) ?_
  show AG G M_X7_is 0 [some (.ref (bx + 2)), some (.ref 8), none] [] _ _
  refine g_aload_n dX7_is_0 rfl rfl ?_
  refine s_getI (k := 2) (j := 2) E.1 hL rfl rfl f_X7_19 dX7_is_1 ?_
  intro v7 hL
  refine g_bipush (v := 97) dX7_is_4 (by decide) ?_
  refine g_icmp_ne (tgt := 20) dX7_is_6 (by decide) (fun q12 => ?_) (fun q12 => ?_)
  · rw [if_neg q12] at hL
    refine g_none 0 ?_
    refine g_none 1 ?_
    exact J_X7_is_S7_20_ok hG hX E hL 
  · rw [if_pos q12] at hL
    refine g_aload_n dX7_is_9 rfl rfl ?_
    refine s_getI (k := 2) (j := 4) E.1 hL rfl rfl f_X7_25 dX7_is_10 ?_
    intro v8 hL
    refine g_aload_n dX7_is_13 rfl rfl ?_
    refine g_callSt (M' := M_J0_length_8abf5) (k := 7) (as := []) (v := some (.int 3)) hX.2.2 (by decide) l_X7_48 kV_J0_length_8abf5 (by decide) rfl (hX.1 7 _ _ rfl) rfl (Nat.le_of_ble_eq_true rfl) dX7_is_14 ?_
    refine g_icmp_eq (tgt := 22) dX7_is_17 (by decide) (fun q11 => ?_) (fun q11 => ?_)
    · rw [if_pos q11] at hL
      refine g_iconst (v := 0) dX7_is_22 (by decide) ?_
      refine g_istore_n (i := 2) dX7_is_23 rfl (by decide) rfl ?_
      refine P_X7_is_S7_24_ok hG hX E hL ?_ ?_
      · intro w9 hL
        refine g_iconst (v := 0) dX7_is_51 (by decide) ?_
        obtain rfl := Option.some.inj hL
        exact g_zret rfl (by decide) dX7_is_52
      · intro w10 hL
        refine g_iconst (v := 1) dX7_is_59 (by decide) ?_
        obtain rfl := Option.some.inj hL
        exact g_zret rfl (by decide) dX7_is_60
    · rw [if_neg q11] at hL
      refine g_none 0 ?_
      refine g_none 1 ?_
      exact J_X7_is_S7_20_ok hG hX E hL 
def B_X7_is_S8_24 (o : wO) (kh24 : Int32 → wS → Option (Int32 × wS)) (ke51 : wS → Option (Int32 × wS)) (ke59 : wS → Option (Int32 × wS)) (x2 : Int32) (w : wS) : Option (Int32 × wS) :=
  xB (xGet w 204) fun v1 => if v1 ≤ x2 then ke59  w else xB (xGet w 203) fun v2 => xB (xAld w 3 700 ((v2 + x2))) fun v3 => xB (xChr (aChr.getD 8 []) (x2)) fun v4 => if v3 = v4 then kh24 ((x2 + 1)) w else ke51  w
set_option maxRecDepth 20000 in
theorem B_X7_is_S8_24_ok {G : aG} {Hf : wS → aH} {bx : Nat} {o : wO} {kh24 : Int32 → wS → Option (Int32 × wS)} {ke51 : wS → Option (Int32 × wS)} {ke59 : wS → Option (Int32 × wS)} {x2 : Int32} {w : wS} {r : Int32 × wS} (hG : aGood G) (hX : aTxt G) (E : EX Hf bx o) (hL : B_X7_is_S8_24 o kh24 ke51 ke59 x2 w = some r) (Hkh24 : ∀ (z0 : Int32) (w : wS), kh24 z0 w = some r → AG G M_X7_is 24 [some (.ref (bx + 2)), some (.ref 9), some (.int (z0))] [] (Hf w) (.inl (some (.int r.1)), Hf r.2)) (Hke51 : ∀ (w : wS), ke51  w = some r → AG G M_X7_is 51 [none, none, none] [] (Hf w) (.inl (some (.int r.1)), Hf r.2)) (Hke59 : ∀ (w : wS), ke59  w = some r → AG G M_X7_is 59 [none, none, none] [] (Hf w) (.inl (some (.int r.1)), Hf r.2)) : AG G M_X7_is 24 [some (.ref (bx + 2)), some (.ref 9), some (.int (x2))] [] (Hf w) (.inl (some (.int r.1)), Hf r.2) := by
  unfold B_X7_is_S8_24 at hL
  refine g_iload_n dX7_is_24 rfl rfl ?_
  refine g_aload_n dX7_is_25 rfl rfl ?_
  refine s_getI (k := 2) (j := 4) E.1 hL rfl rfl f_X7_25 dX7_is_26 ?_
  intro v1 hL
  refine g_icmp_ge (tgt := 59) dX7_is_29 (by decide) (fun q6 => ?_) (fun q6 => ?_)
  · rw [if_pos q6] at hL
    refine g_none 0 ?_
    refine g_none 1 ?_
    refine g_none 2 ?_
    exact Hke59  _ hL
  · rw [if_neg q6] at hL
    refine g_aload_n dX7_is_32 rfl rfl ?_
    refine s_getR (k := 2) (j := 0) E.1 rfl rfl f_X7_9 dX7_is_33 ?_
    refine g_aload_n dX7_is_36 rfl rfl ?_
    refine s_getI (k := 2) (j := 3) E.1 hL rfl rfl f_X7_22 dX7_is_37 ?_
    intro v2 hL
    refine g_iload_n dX7_is_40 rfl rfl ?_
    refine g_iadd dX7_is_41 ?_
    refine s_bald (k := 3) E.1 hL rfl dX7_is_42 ?_
    intro v3 hL
    refine g_aload_n dX7_is_43 rfl rfl ?_
    refine g_iload_n dX7_is_44 rfl rfl ?_
    obtain ⟨v4, hc, hL⟩ := xB_some hL
    refine g_callSt (M' := M_J0_charAt_5068e) (k := 8) (as := [.int (x2)]) (v := some (.int v4)) hX.2.2 (by decide) l_X7_53 kV_J0_charAt_5068e (by decide) rfl (hX.2.1 8 _ _ _ _ rfl hc) rfl (Nat.le_of_ble_eq_true rfl) dX7_is_45 ?_
    refine g_icmp_eq (tgt := 53) dX7_is_48 (by decide) (fun q5 => ?_) (fun q5 => ?_)
    · rw [if_pos q5] at hL
      refine g_iincV (v := (x2 + 1)) dX7_is_53 rfl rfl (by decide) rfl ?_
      refine g_goto (tgt := 24) dX7_is_56 (by decide) ?_
      exact Hkh24 _ _ hL
    · rw [if_neg q5] at hL
      refine g_none 0 ?_
      refine g_none 1 ?_
      refine g_none 2 ?_
      exact Hke51  _ hL
def P_X7_is_S8_24 (o : wO) (ke51 : wS → Option (Int32 × wS)) (ke59 : wS → Option (Int32 × wS)) (n : Nat) (x2 : Int32) (w : wS) : Option (Int32 × wS) :=
  xLoop (fun (kk : Int32 × wS → Option (Int32 × wS)) σ => B_X7_is_S8_24 o (fun x2 w => kk (x2, w)) ke51 ke59 (σ.1) (σ.2)) n (x2, w)
theorem P_X7_is_S8_24_ok {G : aG} {Hf : wS → aH} {bx : Nat} {o : wO} {ke51 : wS → Option (Int32 × wS)} {ke59 : wS → Option (Int32 × wS)} {n : Nat} {x2 : Int32} {w : wS} {r : Int32 × wS} (hG : aGood G) (hX : aTxt G) (E : EX Hf bx o) (hL : P_X7_is_S8_24 o ke51 ke59 n x2 w = some r) (Hke51 : ∀ (w : wS), ke51  w = some r → AG G M_X7_is 51 [none, none, none] [] (Hf w) (.inl (some (.int r.1)), Hf r.2)) (Hke59 : ∀ (w : wS), ke59  w = some r → AG G M_X7_is 59 [none, none, none] [] (Hf w) (.inl (some (.int r.1)), Hf r.2)) : AG G M_X7_is 24 [some (.ref (bx + 2)), some (.ref 9), some (.int (x2))] [] (Hf w) (.inl (some (.int r.1)), Hf r.2) :=
  xLoop_ok (Q := fun (σ : Int32 × wS) => AG G M_X7_is 24 [some (.ref (bx + 2)), some (.ref 9), some (.int (σ.1))] [] (Hf σ.2) (.inl (some (.int r.1)), Hf r.2)) (fun kk hk σ hσ => B_X7_is_S8_24_ok hG hX E hσ (fun x2 w h9 => hk (x2, w) h9) Hke51 Hke59) n (x2, w) hL
def J_X7_is_S8_20 (o : wO) (w : wS) : Option (Int32 × wS) :=
  some (0, w)
set_option maxRecDepth 20000 in
theorem J_X7_is_S8_20_ok {G : aG} {Hf : wS → aH} {bx : Nat} {o : wO} {w : wS} {r : Int32 × wS} (hG : aGood G) (hX : aTxt G) (E : EX Hf bx o) (hL : J_X7_is_S8_20 o   w = some r) : AG G M_X7_is 20 [none, none, none] [] (Hf w) (.inl (some (.int r.1)), Hf r.2) := by
  unfold J_X7_is_S8_20 at hL
  refine g_iconst (v := 0) dX7_is_20 (by decide) ?_
  obtain rfl := Option.some.inj hL
  exact g_zret rfl (by decide) dX7_is_21
def L_X7_is_S8 (o : wO) (w : wS) : Option (Int32 × wS) :=
  xB (xGet w 202) fun v7 => if v7 = 97 then xB (xGet w 204) fun v8 => if v8 = 4 then P_X7_is_S8_24 o (fun w9 => some (0, w9)) (fun w10 => some (1, w10)) 5000 (0) w else J_X7_is_S8_20 o   w else J_X7_is_S8_20 o   w
set_option maxRecDepth 20000 in
theorem C_X7_is_S8 {G : aG} {Hf : wS → aH} {bx : Nat} {o : wO} {w : wS} {r : Int32 × wS} (hG : aGood G) (hX : aTxt G) (E : EX Hf bx o) (hL : L_X7_is_S8 o  w = some r) : AC G M_X7_is [.ref (bx + 2), .ref 9] (Hf w) (.inl (some (.int r.1)), Hf r.2) := by
  unfold L_X7_is_S8 at hL
  refine AC.of (by decide) rfl (Nat.le_of_ble_eq_true rfl) ?_
  show AG G M_X7_is 0 [some (.ref (bx + 2)), some (.ref 9), none] [] _ _
  refine g_aload_n dX7_is_0 rfl rfl ?_
  refine s_getI (k := 2) (j := 2) E.1 hL rfl rfl f_X7_19 dX7_is_1 ?_
  intro v7 hL
  refine g_bipush (v := 97) dX7_is_4 (by decide) ?_
  refine g_icmp_ne (tgt := 20) dX7_is_6 (by decide) (fun q12 => ?_) (fun q12 => ?_)
  · rw [if_neg q12] at hL
    refine g_none 0 ?_
    refine g_none 1 ?_
    exact J_X7_is_S8_20_ok hG hX E hL 
  · rw [if_pos q12] at hL
    refine g_aload_n dX7_is_9 rfl rfl ?_
    refine s_getI (k := 2) (j := 4) E.1 hL rfl rfl f_X7_25 dX7_is_10 ?_
    intro v8 hL
    refine g_aload_n dX7_is_13 rfl rfl ?_
    refine g_callSt (M' := M_J0_length_8abf5) (k := 8) (as := []) (v := some (.int 4)) hX.2.2 (by decide) l_X7_48 kV_J0_length_8abf5 (by decide) rfl (hX.1 8 _ _ rfl) rfl (Nat.le_of_ble_eq_true rfl) dX7_is_14 ?_
    refine g_icmp_eq (tgt := 22) dX7_is_17 (by decide) (fun q11 => ?_) (fun q11 => ?_)
    · rw [if_pos q11] at hL
      refine g_iconst (v := 0) dX7_is_22 (by decide) ?_
      refine g_istore_n (i := 2) dX7_is_23 rfl (by decide) rfl ?_
      refine P_X7_is_S8_24_ok hG hX E hL ?_ ?_
      · intro w9 hL
        refine g_iconst (v := 0) dX7_is_51 (by decide) ?_
        obtain rfl := Option.some.inj hL
        exact g_zret rfl (by decide) dX7_is_52
      · intro w10 hL
        refine g_iconst (v := 1) dX7_is_59 (by decide) ?_
        obtain rfl := Option.some.inj hL
        exact g_zret rfl (by decide) dX7_is_60
    · rw [if_neg q11] at hL
      refine g_none 0 ?_
      refine g_none 1 ?_
      exact J_X7_is_S8_20_ok hG hX E hL 
def B_X7_is_S9_24 (o : wO) (kh24 : Int32 → wS → Option (Int32 × wS)) (ke51 : wS → Option (Int32 × wS)) (ke59 : wS → Option (Int32 × wS)) (x2 : Int32) (w : wS) : Option (Int32 × wS) :=
  xB (xGet w 204) fun v1 => if v1 ≤ x2 then ke59  w else xB (xGet w 203) fun v2 => xB (xAld w 3 700 ((v2 + x2))) fun v3 => xB (xChr (aChr.getD 9 []) (x2)) fun v4 => if v3 = v4 then kh24 ((x2 + 1)) w else ke51  w
set_option maxRecDepth 20000 in
theorem B_X7_is_S9_24_ok {G : aG} {Hf : wS → aH} {bx : Nat} {o : wO} {kh24 : Int32 → wS → Option (Int32 × wS)} {ke51 : wS → Option (Int32 × wS)} {ke59 : wS → Option (Int32 × wS)} {x2 : Int32} {w : wS} {r : Int32 × wS} (hG : aGood G) (hX : aTxt G) (E : EX Hf bx o) (hL : B_X7_is_S9_24 o kh24 ke51 ke59 x2 w = some r) (Hkh24 : ∀ (z0 : Int32) (w : wS), kh24 z0 w = some r → AG G M_X7_is 24 [some (.ref (bx + 2)), some (.ref 10), some (.int (z0))] [] (Hf w) (.inl (some (.int r.1)), Hf r.2)) (Hke51 : ∀ (w : wS), ke51  w = some r → AG G M_X7_is 51 [none, none, none] [] (Hf w) (.inl (some (.int r.1)), Hf r.2)) (Hke59 : ∀ (w : wS), ke59  w = some r → AG G M_X7_is 59 [none, none, none] [] (Hf w) (.inl (some (.int r.1)), Hf r.2)) : AG G M_X7_is 24 [some (.ref (bx + 2)), some (.ref 10), some (.int (x2))] [] (Hf w) (.inl (some (.int r.1)), Hf r.2) := by
  unfold B_X7_is_S9_24 at hL
  refine g_iload_n dX7_is_24 rfl rfl ?_
  refine g_aload_n dX7_is_25 rfl rfl ?_
  refine s_getI (k := 2) (j := 4) E.1 hL rfl rfl f_X7_25 dX7_is_26 ?_
  intro v1 hL
  refine g_icmp_ge (tgt := 59) dX7_is_29 (by decide) (fun q6 => ?_) (fun q6 => ?_)
  · rw [if_pos q6] at hL
    refine g_none 0 ?_
    refine g_none 1 ?_
    refine g_none 2 ?_
    exact Hke59  _ hL
  · rw [if_neg q6] at hL
    refine g_aload_n dX7_is_32 rfl rfl ?_
    refine s_getR (k := 2) (j := 0) E.1 rfl rfl f_X7_9 dX7_is_33 ?_
    refine g_aload_n dX7_is_36 rfl rfl ?_
    refine s_getI (k := 2) (j := 3) E.1 hL rfl rfl f_X7_22 dX7_is_37 ?_
    intro v2 hL
    refine g_iload_n dX7_is_40 rfl rfl ?_
    refine g_iadd dX7_is_41 ?_
    refine s_bald (k := 3) E.1 hL rfl dX7_is_42 ?_
    intro v3 hL
    refine g_aload_n dX7_is_43 rfl rfl ?_
    refine g_iload_n dX7_is_44 rfl rfl ?_
    obtain ⟨v4, hc, hL⟩ := xB_some hL
    refine g_callSt (M' := M_J0_charAt_5068e) (k := 9) (as := [.int (x2)]) (v := some (.int v4)) hX.2.2 (by decide) l_X7_53 kV_J0_charAt_5068e (by decide) rfl (hX.2.1 9 _ _ _ _ rfl hc) rfl (Nat.le_of_ble_eq_true rfl) dX7_is_45 ?_
    refine g_icmp_eq (tgt := 53) dX7_is_48 (by decide) (fun q5 => ?_) (fun q5 => ?_)
    · rw [if_pos q5] at hL
      refine g_iincV (v := (x2 + 1)) dX7_is_53 rfl rfl (by decide) rfl ?_
      refine g_goto (tgt := 24) dX7_is_56 (by decide) ?_
      exact Hkh24 _ _ hL
    · rw [if_neg q5] at hL
      refine g_none 0 ?_
      refine g_none 1 ?_
      refine g_none 2 ?_
      exact Hke51  _ hL
def P_X7_is_S9_24 (o : wO) (ke51 : wS → Option (Int32 × wS)) (ke59 : wS → Option (Int32 × wS)) (n : Nat) (x2 : Int32) (w : wS) : Option (Int32 × wS) :=
  xLoop (fun (kk : Int32 × wS → Option (Int32 × wS)) σ => B_X7_is_S9_24 o (fun x2 w => kk (x2, w)) ke51 ke59 (σ.1) (σ.2)) n (x2, w)
theorem P_X7_is_S9_24_ok {G : aG} {Hf : wS → aH} {bx : Nat} {o : wO} {ke51 : wS → Option (Int32 × wS)} {ke59 : wS → Option (Int32 × wS)} {n : Nat} {x2 : Int32} {w : wS} {r : Int32 × wS} (hG : aGood G) (hX : aTxt G) (E : EX Hf bx o) (hL : P_X7_is_S9_24 o ke51 ke59 n x2 w = some r) (Hke51 : ∀ (w : wS), ke51  w = some r → AG G M_X7_is 51 [none, none, none] [] (Hf w) (.inl (some (.int r.1)), Hf r.2)) (Hke59 : ∀ (w : wS), ke59  w = some r → AG G M_X7_is 59 [none, none, none] [] (Hf w) (.inl (some (.int r.1)), Hf r.2)) : AG G M_X7_is 24 [some (.ref (bx + 2)), some (.ref 10), some (.int (x2))] [] (Hf w) (.inl (some (.int r.1)), Hf r.2) :=
  xLoop_ok (Q := fun (σ : Int32 × wS) => AG G M_X7_is 24 [some (.ref (bx + 2)), some (.ref 10), some (.int (σ.1))] [] (Hf σ.2) (.inl (some (.int r.1)), Hf r.2)) (fun kk hk σ hσ => B_X7_is_S9_24_ok hG hX E hσ (fun x2 w h9 => hk (x2, w) h9) Hke51 Hke59) n (x2, w) hL
def J_X7_is_S9_20 (o : wO) (w : wS) : Option (Int32 × wS) :=
  some (0, w)
set_option maxRecDepth 20000 in
theorem J_X7_is_S9_20_ok {G : aG} {Hf : wS → aH} {bx : Nat} {o : wO} {w : wS} {r : Int32 × wS} (hG : aGood G) (hX : aTxt G) (E : EX Hf bx o) (hL : J_X7_is_S9_20 o   w = some r) : AG G M_X7_is 20 [none, none, none] [] (Hf w) (.inl (some (.int r.1)), Hf r.2) := by
  unfold J_X7_is_S9_20 at hL
  refine g_iconst (v := 0) dX7_is_20 (by decide) ?_
  obtain rfl := Option.some.inj hL
  exact g_zret rfl (by decide) dX7_is_21
def L_X7_is_S9 (o : wO) (w : wS) : Option (Int32 × wS) :=
  xB (xGet w 202) fun v7 => if v7 = 97 then xB (xGet w 204) fun v8 => if v8 = 5 then P_X7_is_S9_24 o (fun w9 => some (0, w9)) (fun w10 => some (1, w10)) 5000 (0) w else J_X7_is_S9_20 o   w else J_X7_is_S9_20 o   w
set_option maxRecDepth 20000 in
theorem C_X7_is_S9 {G : aG} {Hf : wS → aH} {bx : Nat} {o : wO} {w : wS} {r : Int32 × wS} (hG : aGood G) (hX : aTxt G) (E : EX Hf bx o) (hL : L_X7_is_S9 o  w = some r) : AC G M_X7_is [.ref (bx + 2), .ref 10] (Hf w) (.inl (some (.int r.1)), Hf r.2) := by
  unfold L_X7_is_S9 at hL
  refine AC.of (by decide) rfl (Nat.le_of_ble_eq_true rfl) ?_
  show AG G M_X7_is 0 [some (.ref (bx + 2)), some (.ref 10), none] [] _ _
  refine g_aload_n dX7_is_0 rfl rfl ?_
  refine s_getI (k := 2) (j := 2) E.1 hL rfl rfl f_X7_19 dX7_is_1 ?_
  intro v7 hL
  refine g_bipush (v := 97) dX7_is_4 (by decide) ?_
  refine g_icmp_ne (tgt := 20) dX7_is_6 (by decide) (fun q12 => ?_) (fun q12 => ?_)
  · rw [if_neg q12] at hL
    refine g_none 0 ?_
    refine g_none 1 ?_
    exact J_X7_is_S9_20_ok hG hX E hL 
  · rw [if_pos q12] at hL
    refine g_aload_n dX7_is_9 rfl rfl ?_
    refine s_getI (k := 2) (j := 4) E.1 hL rfl rfl f_X7_25 dX7_is_10 ?_
    intro v8 hL
    refine g_aload_n dX7_is_13 rfl rfl ?_
    refine g_callSt (M' := M_J0_length_8abf5) (k := 9) (as := []) (v := some (.int 5)) hX.2.2 (by decide) l_X7_48 kV_J0_length_8abf5 (by decide) rfl (hX.1 9 _ _ rfl) rfl (Nat.le_of_ble_eq_true rfl) dX7_is_14 ?_
    refine g_icmp_eq (tgt := 22) dX7_is_17 (by decide) (fun q11 => ?_) (fun q11 => ?_)
    · rw [if_pos q11] at hL
      refine g_iconst (v := 0) dX7_is_22 (by decide) ?_
      refine g_istore_n (i := 2) dX7_is_23 rfl (by decide) rfl ?_
      refine P_X7_is_S9_24_ok hG hX E hL ?_ ?_
      · intro w9 hL
        refine g_iconst (v := 0) dX7_is_51 (by decide) ?_
        obtain rfl := Option.some.inj hL
        exact g_zret rfl (by decide) dX7_is_52
      · intro w10 hL
        refine g_iconst (v := 1) dX7_is_59 (by decide) ?_
        obtain rfl := Option.some.inj hL
        exact g_zret rfl (by decide) dX7_is_60
    · rw [if_neg q11] at hL
      refine g_none 0 ?_
      refine g_none 1 ?_
      exact J_X7_is_S9_20_ok hG hX E hL 
def B_X7_is_S10_24 (o : wO) (kh24 : Int32 → wS → Option (Int32 × wS)) (ke51 : wS → Option (Int32 × wS)) (ke59 : wS → Option (Int32 × wS)) (x2 : Int32) (w : wS) : Option (Int32 × wS) :=
  xB (xGet w 204) fun v1 => if v1 ≤ x2 then ke59  w else xB (xGet w 203) fun v2 => xB (xAld w 3 700 ((v2 + x2))) fun v3 => xB (xChr (aChr.getD 10 []) (x2)) fun v4 => if v3 = v4 then kh24 ((x2 + 1)) w else ke51  w
set_option maxRecDepth 20000 in
theorem B_X7_is_S10_24_ok {G : aG} {Hf : wS → aH} {bx : Nat} {o : wO} {kh24 : Int32 → wS → Option (Int32 × wS)} {ke51 : wS → Option (Int32 × wS)} {ke59 : wS → Option (Int32 × wS)} {x2 : Int32} {w : wS} {r : Int32 × wS} (hG : aGood G) (hX : aTxt G) (E : EX Hf bx o) (hL : B_X7_is_S10_24 o kh24 ke51 ke59 x2 w = some r) (Hkh24 : ∀ (z0 : Int32) (w : wS), kh24 z0 w = some r → AG G M_X7_is 24 [some (.ref (bx + 2)), some (.ref 11), some (.int (z0))] [] (Hf w) (.inl (some (.int r.1)), Hf r.2)) (Hke51 : ∀ (w : wS), ke51  w = some r → AG G M_X7_is 51 [none, none, none] [] (Hf w) (.inl (some (.int r.1)), Hf r.2)) (Hke59 : ∀ (w : wS), ke59  w = some r → AG G M_X7_is 59 [none, none, none] [] (Hf w) (.inl (some (.int r.1)), Hf r.2)) : AG G M_X7_is 24 [some (.ref (bx + 2)), some (.ref 11), some (.int (x2))] [] (Hf w) (.inl (some (.int r.1)), Hf r.2) := by
  unfold B_X7_is_S10_24 at hL
  refine g_iload_n dX7_is_24 rfl rfl ?_
  refine g_aload_n dX7_is_25 rfl rfl ?_
  refine s_getI (k := 2) (j := 4) E.1 hL rfl rfl f_X7_25 dX7_is_26 ?_
  intro v1 hL
  refine g_icmp_ge (tgt := 59) dX7_is_29 (by decide) (fun q6 => ?_) (fun q6 => ?_)
  · rw [if_pos q6] at hL
    refine g_none 0 ?_
    refine g_none 1 ?_
    refine g_none 2 ?_
    exact Hke59  _ hL
  · rw [if_neg q6] at hL
    refine g_aload_n dX7_is_32 rfl rfl ?_
    refine s_getR (k := 2) (j := 0) E.1 rfl rfl f_X7_9 dX7_is_33 ?_
    refine g_aload_n dX7_is_36 rfl rfl ?_
    refine s_getI (k := 2) (j := 3) E.1 hL rfl rfl f_X7_22 dX7_is_37 ?_
    intro v2 hL
    refine g_iload_n dX7_is_40 rfl rfl ?_
    refine g_iadd dX7_is_41 ?_
    refine s_bald (k := 3) E.1 hL rfl dX7_is_42 ?_
    intro v3 hL
    refine g_aload_n dX7_is_43 rfl rfl ?_
    refine g_iload_n dX7_is_44 rfl rfl ?_
    obtain ⟨v4, hc, hL⟩ := xB_some hL
    refine g_callSt (M' := M_J0_charAt_5068e) (k := 10) (as := [.int (x2)]) (v := some (.int v4)) hX.2.2 (by decide) l_X7_53 kV_J0_charAt_5068e (by decide) rfl (hX.2.1 10 _ _ _ _ rfl hc) rfl (Nat.le_of_ble_eq_true rfl) dX7_is_45 ?_
    refine g_icmp_eq (tgt := 53) dX7_is_48 (by decide) (fun q5 => ?_) (fun q5 => ?_)
    · rw [if_pos q5] at hL
      refine g_iincV (v := (x2 + 1)) dX7_is_53 rfl rfl (by decide) rfl ?_
      refine g_goto (tgt := 24) dX7_is_56 (by decide) ?_
      exact Hkh24 _ _ hL
    · rw [if_neg q5] at hL
      refine g_none 0 ?_
      refine g_none 1 ?_
      refine g_none 2 ?_
      exact Hke51  _ hL
def P_X7_is_S10_24 (o : wO) (ke51 : wS → Option (Int32 × wS)) (ke59 : wS → Option (Int32 × wS)) (n : Nat) (x2 : Int32) (w : wS) : Option (Int32 × wS) :=
  xLoop (fun (kk : Int32 × wS → Option (Int32 × wS)) σ => B_X7_is_S10_24 o (fun x2 w => kk (x2, w)) ke51 ke59 (σ.1) (σ.2)) n (x2, w)
theorem P_X7_is_S10_24_ok {G : aG} {Hf : wS → aH} {bx : Nat} {o : wO} {ke51 : wS → Option (Int32 × wS)} {ke59 : wS → Option (Int32 × wS)} {n : Nat} {x2 : Int32} {w : wS} {r : Int32 × wS} (hG : aGood G) (hX : aTxt G) (E : EX Hf bx o) (hL : P_X7_is_S10_24 o ke51 ke59 n x2 w = some r) (Hke51 : ∀ (w : wS), ke51  w = some r → AG G M_X7_is 51 [none, none, none] [] (Hf w) (.inl (some (.int r.1)), Hf r.2)) (Hke59 : ∀ (w : wS), ke59  w = some r → AG G M_X7_is 59 [none, none, none] [] (Hf w) (.inl (some (.int r.1)), Hf r.2)) : AG G M_X7_is 24 [some (.ref (bx + 2)), some (.ref 11), some (.int (x2))] [] (Hf w) (.inl (some (.int r.1)), Hf r.2) :=
  xLoop_ok (Q := fun (σ : Int32 × wS) => AG G M_X7_is 24 [some (.ref (bx + 2)), some (.ref 11), some (.int (σ.1))] [] (Hf σ.2) (.inl (some (.int r.1)), Hf r.2)) (fun kk hk σ hσ => B_X7_is_S10_24_ok hG hX E hσ (fun x2 w h9 => hk (x2, w) h9) Hke51 Hke59) n (x2, w) hL
def J_X7_is_S10_20 (o : wO) (w : wS) : Option (Int32 × wS) :=
  some (0, w)
set_option maxRecDepth 20000 in
theorem J_X7_is_S10_20_ok {G : aG} {Hf : wS → aH} {bx : Nat} {o : wO} {w : wS} {r : Int32 × wS} (hG : aGood G) (hX : aTxt G) (E : EX Hf bx o) (hL : J_X7_is_S10_20 o   w = some r) : AG G M_X7_is 20 [none, none, none] [] (Hf w) (.inl (some (.int r.1)), Hf r.2) := by
  unfold J_X7_is_S10_20 at hL
  refine g_iconst (v := 0) dX7_is_20 (by decide) ?_
  obtain rfl := Option.some.inj hL
  exact g_zret rfl (by decide) dX7_is_21
def L_X7_is_S10 (o : wO) (w : wS) : Option (Int32 × wS) :=
  xB (xGet w 202) fun v7 => if v7 = 97 then xB (xGet w 204) fun v8 => if v8 = 5 then P_X7_is_S10_24 o (fun w9 => some (0, w9)) (fun w10 => some (1, w10)) 5000 (0) w else J_X7_is_S10_20 o   w else J_X7_is_S10_20 o   w
set_option maxRecDepth 20000 in
theorem C_X7_is_S10 {G : aG} {Hf : wS → aH} {bx : Nat} {o : wO} {w : wS} {r : Int32 × wS} (hG : aGood G) (hX : aTxt G) (E : EX Hf bx o) (hL : L_X7_is_S10 o  w = some r) : AC G M_X7_is [.ref (bx + 2), .ref 11] (Hf w) (.inl (some (.int r.1)), Hf r.2) := by
  unfold L_X7_is_S10 at hL
  refine AC.of (by decide) rfl (Nat.le_of_ble_eq_true rfl) ?_
  show AG G M_X7_is 0 [some (.ref (bx + 2)), some (.ref 11), none] [] _ _
  refine g_aload_n dX7_is_0 rfl rfl ?_
  refine s_getI (k := 2) (j := 2) E.1 hL rfl rfl f_X7_19 dX7_is_1 ?_
  intro v7 hL
  refine g_bipush (v := 97) dX7_is_4 (by decide) ?_
  refine g_icmp_ne (tgt := 20) dX7_is_6 (by decide) (fun q12 => ?_) (fun q12 => ?_)
  · rw [if_neg q12] at hL
    refine g_none 0 ?_
    refine g_none 1 ?_
    exact J_X7_is_S10_20_ok hG hX E hL 
  · rw [if_pos q12] at hL
    refine g_aload_n dX7_is_9 rfl rfl ?_
    refine s_getI (k := 2) (j := 4) E.1 hL rfl rfl f_X7_25 dX7_is_10 ?_
    intro v8 hL
    refine g_aload_n dX7_is_13 rfl rfl ?_
    refine g_callSt (M' := M_J0_length_8abf5) (k := 10) (as := []) (v := some (.int 5)) hX.2.2 (by decide) l_X7_48 kV_J0_length_8abf5 (by decide) rfl (hX.1 10 _ _ rfl) rfl (Nat.le_of_ble_eq_true rfl) dX7_is_14 ?_
    refine g_icmp_eq (tgt := 22) dX7_is_17 (by decide) (fun q11 => ?_) (fun q11 => ?_)
    · rw [if_pos q11] at hL
      refine g_iconst (v := 0) dX7_is_22 (by decide) ?_
      refine g_istore_n (i := 2) dX7_is_23 rfl (by decide) rfl ?_
      refine P_X7_is_S10_24_ok hG hX E hL ?_ ?_
      · intro w9 hL
        refine g_iconst (v := 0) dX7_is_51 (by decide) ?_
        obtain rfl := Option.some.inj hL
        exact g_zret rfl (by decide) dX7_is_52
      · intro w10 hL
        refine g_iconst (v := 1) dX7_is_59 (by decide) ?_
        obtain rfl := Option.some.inj hL
        exact g_zret rfl (by decide) dX7_is_60
    · rw [if_neg q11] at hL
      refine g_none 0 ?_
      refine g_none 1 ?_
      exact J_X7_is_S10_20_ok hG hX E hL 
def B_X7_is_S11_24 (o : wO) (kh24 : Int32 → wS → Option (Int32 × wS)) (ke51 : wS → Option (Int32 × wS)) (ke59 : wS → Option (Int32 × wS)) (x2 : Int32) (w : wS) : Option (Int32 × wS) :=
  xB (xGet w 204) fun v1 => if v1 ≤ x2 then ke59  w else xB (xGet w 203) fun v2 => xB (xAld w 3 700 ((v2 + x2))) fun v3 => xB (xChr (aChr.getD 11 []) (x2)) fun v4 => if v3 = v4 then kh24 ((x2 + 1)) w else ke51  w
set_option maxRecDepth 20000 in
theorem B_X7_is_S11_24_ok {G : aG} {Hf : wS → aH} {bx : Nat} {o : wO} {kh24 : Int32 → wS → Option (Int32 × wS)} {ke51 : wS → Option (Int32 × wS)} {ke59 : wS → Option (Int32 × wS)} {x2 : Int32} {w : wS} {r : Int32 × wS} (hG : aGood G) (hX : aTxt G) (E : EX Hf bx o) (hL : B_X7_is_S11_24 o kh24 ke51 ke59 x2 w = some r) (Hkh24 : ∀ (z0 : Int32) (w : wS), kh24 z0 w = some r → AG G M_X7_is 24 [some (.ref (bx + 2)), some (.ref 12), some (.int (z0))] [] (Hf w) (.inl (some (.int r.1)), Hf r.2)) (Hke51 : ∀ (w : wS), ke51  w = some r → AG G M_X7_is 51 [none, none, none] [] (Hf w) (.inl (some (.int r.1)), Hf r.2)) (Hke59 : ∀ (w : wS), ke59  w = some r → AG G M_X7_is 59 [none, none, none] [] (Hf w) (.inl (some (.int r.1)), Hf r.2)) : AG G M_X7_is 24 [some (.ref (bx + 2)), some (.ref 12), some (.int (x2))] [] (Hf w) (.inl (some (.int r.1)), Hf r.2) := by
  unfold B_X7_is_S11_24 at hL
  refine g_iload_n dX7_is_24 rfl rfl ?_
  refine g_aload_n dX7_is_25 rfl rfl ?_
  refine s_getI (k := 2) (j := 4) E.1 hL rfl rfl f_X7_25 dX7_is_26 ?_
  intro v1 hL
  refine g_icmp_ge (tgt := 59) dX7_is_29 (by decide) (fun q6 => ?_) (fun q6 => ?_)
  · rw [if_pos q6] at hL
    refine g_none 0 ?_
    refine g_none 1 ?_
    refine g_none 2 ?_
    exact Hke59  _ hL
  · rw [if_neg q6] at hL
    refine g_aload_n dX7_is_32 rfl rfl ?_
    refine s_getR (k := 2) (j := 0) E.1 rfl rfl f_X7_9 dX7_is_33 ?_
    refine g_aload_n dX7_is_36 rfl rfl ?_
    refine s_getI (k := 2) (j := 3) E.1 hL rfl rfl f_X7_22 dX7_is_37 ?_
    intro v2 hL
    refine g_iload_n dX7_is_40 rfl rfl ?_
    refine g_iadd dX7_is_41 ?_
    refine s_bald (k := 3) E.1 hL rfl dX7_is_42 ?_
    intro v3 hL
    refine g_aload_n dX7_is_43 rfl rfl ?_
    refine g_iload_n dX7_is_44 rfl rfl ?_
    obtain ⟨v4, hc, hL⟩ := xB_some hL
    refine g_callSt (M' := M_J0_charAt_5068e) (k := 11) (as := [.int (x2)]) (v := some (.int v4)) hX.2.2 (by decide) l_X7_53 kV_J0_charAt_5068e (by decide) rfl (hX.2.1 11 _ _ _ _ rfl hc) rfl (Nat.le_of_ble_eq_true rfl) dX7_is_45 ?_
    refine g_icmp_eq (tgt := 53) dX7_is_48 (by decide) (fun q5 => ?_) (fun q5 => ?_)
    · rw [if_pos q5] at hL
      refine g_iincV (v := (x2 + 1)) dX7_is_53 rfl rfl (by decide) rfl ?_
      refine g_goto (tgt := 24) dX7_is_56 (by decide) ?_
      exact Hkh24 _ _ hL
    · rw [if_neg q5] at hL
      refine g_none 0 ?_
      refine g_none 1 ?_
      refine g_none 2 ?_
      exact Hke51  _ hL
def P_X7_is_S11_24 (o : wO) (ke51 : wS → Option (Int32 × wS)) (ke59 : wS → Option (Int32 × wS)) (n : Nat) (x2 : Int32) (w : wS) : Option (Int32 × wS) :=
  xLoop (fun (kk : Int32 × wS → Option (Int32 × wS)) σ => B_X7_is_S11_24 o (fun x2 w => kk (x2, w)) ke51 ke59 (σ.1) (σ.2)) n (x2, w)
theorem P_X7_is_S11_24_ok {G : aG} {Hf : wS → aH} {bx : Nat} {o : wO} {ke51 : wS → Option (Int32 × wS)} {ke59 : wS → Option (Int32 × wS)} {n : Nat} {x2 : Int32} {w : wS} {r : Int32 × wS} (hG : aGood G) (hX : aTxt G) (E : EX Hf bx o) (hL : P_X7_is_S11_24 o ke51 ke59 n x2 w = some r) (Hke51 : ∀ (w : wS), ke51  w = some r → AG G M_X7_is 51 [none, none, none] [] (Hf w) (.inl (some (.int r.1)), Hf r.2)) (Hke59 : ∀ (w : wS), ke59  w = some r → AG G M_X7_is 59 [none, none, none] [] (Hf w) (.inl (some (.int r.1)), Hf r.2)) : AG G M_X7_is 24 [some (.ref (bx + 2)), some (.ref 12), some (.int (x2))] [] (Hf w) (.inl (some (.int r.1)), Hf r.2) :=
  xLoop_ok (Q := fun (σ : Int32 × wS) => AG G M_X7_is 24 [some (.ref (bx + 2)), some (.ref 12), some (.int (σ.1))] [] (Hf σ.2) (.inl (some (.int r.1)), Hf r.2)) (fun kk hk σ hσ => B_X7_is_S11_24_ok hG hX E hσ (fun x2 w h9 => hk (x2, w) h9) Hke51 Hke59) n (x2, w) hL
def J_X7_is_S11_20 (o : wO) (w : wS) : Option (Int32 × wS) :=
  some (0, w)
set_option maxRecDepth 20000 in
theorem J_X7_is_S11_20_ok {G : aG} {Hf : wS → aH} {bx : Nat} {o : wO} {w : wS} {r : Int32 × wS} (hG : aGood G) (hX : aTxt G) (E : EX Hf bx o) (hL : J_X7_is_S11_20 o   w = some r) : AG G M_X7_is 20 [none, none, none] [] (Hf w) (.inl (some (.int r.1)), Hf r.2) := by
  unfold J_X7_is_S11_20 at hL
  refine g_iconst (v := 0) dX7_is_20 (by decide) ?_
  obtain rfl := Option.some.inj hL
  exact g_zret rfl (by decide) dX7_is_21
def L_X7_is_S11 (o : wO) (w : wS) : Option (Int32 × wS) :=
  xB (xGet w 202) fun v7 => if v7 = 97 then xB (xGet w 204) fun v8 => if v8 = 4 then P_X7_is_S11_24 o (fun w9 => some (0, w9)) (fun w10 => some (1, w10)) 5000 (0) w else J_X7_is_S11_20 o   w else J_X7_is_S11_20 o   w
set_option maxRecDepth 20000 in
theorem C_X7_is_S11 {G : aG} {Hf : wS → aH} {bx : Nat} {o : wO} {w : wS} {r : Int32 × wS} (hG : aGood G) (hX : aTxt G) (E : EX Hf bx o) (hL : L_X7_is_S11 o  w = some r) : AC G M_X7_is [.ref (bx + 2), .ref 12] (Hf w) (.inl (some (.int r.1)), Hf r.2) := by
  unfold L_X7_is_S11 at hL
  refine AC.of (by decide) rfl (Nat.le_of_ble_eq_true rfl) ?_
  show AG G M_X7_is 0 [some (.ref (bx + 2)), some (.ref 12), none] [] _ _
  refine g_aload_n dX7_is_0 rfl rfl ?_
  refine s_getI (k := 2) (j := 2) E.1 hL rfl rfl f_X7_19 dX7_is_1 ?_
  intro v7 hL
  refine g_bipush (v := 97) dX7_is_4 (by decide) ?_
  refine g_icmp_ne (tgt := 20) dX7_is_6 (by decide) (fun q12 => ?_) (fun q12 => ?_)
  · rw [if_neg q12] at hL
    refine g_none 0 ?_
    refine g_none 1 ?_
    exact J_X7_is_S11_20_ok hG hX E hL 
  · rw [if_pos q12] at hL
    refine g_aload_n dX7_is_9 rfl rfl ?_
    refine s_getI (k := 2) (j := 4) E.1 hL rfl rfl f_X7_25 dX7_is_10 ?_
    intro v8 hL
    refine g_aload_n dX7_is_13 rfl rfl ?_
    refine g_callSt (M' := M_J0_length_8abf5) (k := 11) (as := []) (v := some (.int 4)) hX.2.2 (by decide) l_X7_48 kV_J0_length_8abf5 (by decide) rfl (hX.1 11 _ _ rfl) rfl (Nat.le_of_ble_eq_true rfl) dX7_is_14 ?_
    refine g_icmp_eq (tgt := 22) dX7_is_17 (by decide) (fun q11 => ?_) (fun q11 => ?_)
    · rw [if_pos q11] at hL
      refine g_iconst (v := 0) dX7_is_22 (by decide) ?_
      refine g_istore_n (i := 2) dX7_is_23 rfl (by decide) rfl ?_
      refine P_X7_is_S11_24_ok hG hX E hL ?_ ?_
      · intro w9 hL
        refine g_iconst (v := 0) dX7_is_51 (by decide) ?_
        obtain rfl := Option.some.inj hL
        exact g_zret rfl (by decide) dX7_is_52
      · intro w10 hL
        refine g_iconst (v := 1) dX7_is_59 (by decide) ?_
        obtain rfl := Option.some.inj hL
        exact g_zret rfl (by decide) dX7_is_60
    · rw [if_neg q11] at hL
      refine g_none 0 ?_
      refine g_none 1 ?_
      exact J_X7_is_S11_20_ok hG hX E hL 
def B_X7_is_S12_24 (o : wO) (kh24 : Int32 → wS → Option (Int32 × wS)) (ke51 : wS → Option (Int32 × wS)) (ke59 : wS → Option (Int32 × wS)) (x2 : Int32) (w : wS) : Option (Int32 × wS) :=
  xB (xGet w 204) fun v1 => if v1 ≤ x2 then ke59  w else xB (xGet w 203) fun v2 => xB (xAld w 3 700 ((v2 + x2))) fun v3 => xB (xChr (aChr.getD 12 []) (x2)) fun v4 => if v3 = v4 then kh24 ((x2 + 1)) w else ke51  w
set_option maxRecDepth 20000 in
theorem B_X7_is_S12_24_ok {G : aG} {Hf : wS → aH} {bx : Nat} {o : wO} {kh24 : Int32 → wS → Option (Int32 × wS)} {ke51 : wS → Option (Int32 × wS)} {ke59 : wS → Option (Int32 × wS)} {x2 : Int32} {w : wS} {r : Int32 × wS} (hG : aGood G) (hX : aTxt G) (E : EX Hf bx o) (hL : B_X7_is_S12_24 o kh24 ke51 ke59 x2 w = some r) (Hkh24 : ∀ (z0 : Int32) (w : wS), kh24 z0 w = some r → AG G M_X7_is 24 [some (.ref (bx + 2)), some (.ref 13), some (.int (z0))] [] (Hf w) (.inl (some (.int r.1)), Hf r.2)) (Hke51 : ∀ (w : wS), ke51  w = some r → AG G M_X7_is 51 [none, none, none] [] (Hf w) (.inl (some (.int r.1)), Hf r.2)) (Hke59 : ∀ (w : wS), ke59  w = some r → AG G M_X7_is 59 [none, none, none] [] (Hf w) (.inl (some (.int r.1)), Hf r.2)) : AG G M_X7_is 24 [some (.ref (bx + 2)), some (.ref 13), some (.int (x2))] [] (Hf w) (.inl (some (.int r.1)), Hf r.2) := by
  unfold B_X7_is_S12_24 at hL
  refine g_iload_n dX7_is_24 rfl rfl ?_
  refine g_aload_n dX7_is_25 rfl rfl ?_
  refine s_getI (k := 2) (j := 4) E.1 hL rfl rfl f_X7_25 dX7_is_26 ?_
  intro v1 hL
  refine g_icmp_ge (tgt := 59) dX7_is_29 (by decide) (fun q6 => ?_) (fun q6 => ?_)
  · rw [if_pos q6] at hL
    refine g_none 0 ?_
    refine g_none 1 ?_
    refine g_none 2 ?_
    exact Hke59  _ hL
  · rw [if_neg q6] at hL
    refine g_aload_n dX7_is_32 rfl rfl ?_
    refine s_getR (k := 2) (j := 0) E.1 rfl rfl f_X7_9 dX7_is_33 ?_
    refine g_aload_n dX7_is_36 rfl rfl ?_
    refine s_getI (k := 2) (j := 3) E.1 hL rfl rfl f_X7_22 dX7_is_37 ?_
    intro v2 hL
    refine g_iload_n dX7_is_40 rfl rfl ?_
    refine g_iadd dX7_is_41 ?_
    refine s_bald (k := 3) E.1 hL rfl dX7_is_42 ?_
    intro v3 hL
    refine g_aload_n dX7_is_43 rfl rfl ?_
    refine g_iload_n dX7_is_44 rfl rfl ?_
    obtain ⟨v4, hc, hL⟩ := xB_some hL
    refine g_callSt (M' := M_J0_charAt_5068e) (k := 12) (as := [.int (x2)]) (v := some (.int v4)) hX.2.2 (by decide) l_X7_53 kV_J0_charAt_5068e (by decide) rfl (hX.2.1 12 _ _ _ _ rfl hc) rfl (Nat.le_of_ble_eq_true rfl) dX7_is_45 ?_
    refine g_icmp_eq (tgt := 53) dX7_is_48 (by decide) (fun q5 => ?_) (fun q5 => ?_)
    · rw [if_pos q5] at hL
      refine g_iincV (v := (x2 + 1)) dX7_is_53 rfl rfl (by decide) rfl ?_
      refine g_goto (tgt := 24) dX7_is_56 (by decide) ?_
      exact Hkh24 _ _ hL
    · rw [if_neg q5] at hL
      refine g_none 0 ?_
      refine g_none 1 ?_
      refine g_none 2 ?_
      exact Hke51  _ hL
def P_X7_is_S12_24 (o : wO) (ke51 : wS → Option (Int32 × wS)) (ke59 : wS → Option (Int32 × wS)) (n : Nat) (x2 : Int32) (w : wS) : Option (Int32 × wS) :=
  xLoop (fun (kk : Int32 × wS → Option (Int32 × wS)) σ => B_X7_is_S12_24 o (fun x2 w => kk (x2, w)) ke51 ke59 (σ.1) (σ.2)) n (x2, w)
theorem P_X7_is_S12_24_ok {G : aG} {Hf : wS → aH} {bx : Nat} {o : wO} {ke51 : wS → Option (Int32 × wS)} {ke59 : wS → Option (Int32 × wS)} {n : Nat} {x2 : Int32} {w : wS} {r : Int32 × wS} (hG : aGood G) (hX : aTxt G) (E : EX Hf bx o) (hL : P_X7_is_S12_24 o ke51 ke59 n x2 w = some r) (Hke51 : ∀ (w : wS), ke51  w = some r → AG G M_X7_is 51 [none, none, none] [] (Hf w) (.inl (some (.int r.1)), Hf r.2)) (Hke59 : ∀ (w : wS), ke59  w = some r → AG G M_X7_is 59 [none, none, none] [] (Hf w) (.inl (some (.int r.1)), Hf r.2)) : AG G M_X7_is 24 [some (.ref (bx + 2)), some (.ref 13), some (.int (x2))] [] (Hf w) (.inl (some (.int r.1)), Hf r.2) :=
  xLoop_ok (Q := fun (σ : Int32 × wS) => AG G M_X7_is 24 [some (.ref (bx + 2)), some (.ref 13), some (.int (σ.1))] [] (Hf σ.2) (.inl (some (.int r.1)), Hf r.2)) (fun kk hk σ hσ => B_X7_is_S12_24_ok hG hX E hσ (fun x2 w h9 => hk (x2, w) h9) Hke51 Hke59) n (x2, w) hL
def J_X7_is_S12_20 (o : wO) (w : wS) : Option (Int32 × wS) :=
  some (0, w)
set_option maxRecDepth 20000 in
theorem J_X7_is_S12_20_ok {G : aG} {Hf : wS → aH} {bx : Nat} {o : wO} {w : wS} {r : Int32 × wS} (hG : aGood G) (hX : aTxt G) (E : EX Hf bx o) (hL : J_X7_is_S12_20 o   w = some r) : AG G M_X7_is 20 [none, none, none] [] (Hf w) (.inl (some (.int r.1)), Hf r.2) := by
  unfold J_X7_is_S12_20 at hL
  refine g_iconst (v := 0) dX7_is_20 (by decide) ?_
  obtain rfl := Option.some.inj hL
  exact g_zret rfl (by decide) dX7_is_21
def L_X7_is_S12 (o : wO) (w : wS) : Option (Int32 × wS) :=
  xB (xGet w 202) fun v7 => if v7 = 97 then xB (xGet w 204) fun v8 => if v8 = 3 then P_X7_is_S12_24 o (fun w9 => some (0, w9)) (fun w10 => some (1, w10)) 5000 (0) w else J_X7_is_S12_20 o   w else J_X7_is_S12_20 o   w
set_option maxRecDepth 20000 in
theorem C_X7_is_S12 {G : aG} {Hf : wS → aH} {bx : Nat} {o : wO} {w : wS} {r : Int32 × wS} (hG : aGood G) (hX : aTxt G) (E : EX Hf bx o) (hL : L_X7_is_S12 o  w = some r) : AC G M_X7_is [.ref (bx + 2), .ref 13] (Hf w) (.inl (some (.int r.1)), Hf r.2) := by
  unfold L_X7_is_S12 at hL
  refine AC.of (by decide) rfl (Nat.le_of_ble_eq_true rfl) ?_
  show AG G M_X7_is 0 [some (.ref (bx + 2)), some (.ref 13), none] [] _ _
  refine g_aload_n dX7_is_0 rfl rfl ?_
  refine s_getI (k := 2) (j := 2) E.1 hL rfl rfl f_X7_19 dX7_is_1 ?_
  intro v7 hL
  refine g_bipush (v := 97) dX7_is_4 (by decide) ?_
  refine g_icmp_ne (tgt := 20) dX7_is_6 (by decide) (fun q12 => ?_) (fun q12 => ?_)
  · rw [if_neg q12] at hL
    refine g_none 0 ?_
    refine g_none 1 ?_
    exact J_X7_is_S12_20_ok hG hX E hL 
  · rw [if_pos q12] at hL
    refine g_aload_n dX7_is_9 rfl rfl ?_
    refine s_getI (k := 2) (j := 4) E.1 hL rfl rfl f_X7_25 dX7_is_10 ?_
    intro v8 hL
    refine g_aload_n dX7_is_13 rfl rfl ?_
    refine g_callSt (M' := M_J0_length_8abf5) (k := 12) (as := []) (v := some (.int 3)) hX.2.2 (by decide) l_X7_48 kV_J0_length_8abf5 (by decide) rfl (hX.1 12 _ _ rfl) rfl (Nat.le_of_ble_eq_true rfl) dX7_is_14 ?_
    refine g_icmp_eq (tgt := 22) dX7_is_17 (by decide) (fun q11 => ?_) (fun q11 => ?_)
    · rw [if_pos q11] at hL
      refine g_iconst (v := 0) dX7_is_22 (by decide) ?_
      refine g_istore_n (i := 2) dX7_is_23 rfl (by decide) rfl ?_
      refine P_X7_is_S12_24_ok hG hX E hL ?_ ?_
      · intro w9 hL
        refine g_iconst (v := 0) dX7_is_51 (by decide) ?_
        obtain rfl := Option.some.inj hL
        exact g_zret rfl (by decide) dX7_is_52
      · intro w10 hL
        refine g_iconst (v := 1) dX7_is_59 (by decide) ?_
        obtain rfl := Option.some.inj hL
        exact g_zret rfl (by decide) dX7_is_60
    · rw [if_neg q11] at hL
      refine g_none 0 ?_
      refine g_none 1 ?_
      exact J_X7_is_S12_20_ok hG hX E hL 
def B_X7_is_S13_24 (o : wO) (kh24 : Int32 → wS → Option (Int32 × wS)) (ke51 : wS → Option (Int32 × wS)) (ke59 : wS → Option (Int32 × wS)) (x2 : Int32) (w : wS) : Option (Int32 × wS) :=
  xB (xGet w 204) fun v1 => if v1 ≤ x2 then ke59  w else xB (xGet w 203) fun v2 => xB (xAld w 3 700 ((v2 + x2))) fun v3 => xB (xChr (aChr.getD 13 []) (x2)) fun v4 => if v3 = v4 then kh24 ((x2 + 1)) w else ke51  w
set_option maxRecDepth 20000 in
theorem B_X7_is_S13_24_ok {G : aG} {Hf : wS → aH} {bx : Nat} {o : wO} {kh24 : Int32 → wS → Option (Int32 × wS)} {ke51 : wS → Option (Int32 × wS)} {ke59 : wS → Option (Int32 × wS)} {x2 : Int32} {w : wS} {r : Int32 × wS} (hG : aGood G) (hX : aTxt G) (E : EX Hf bx o) (hL : B_X7_is_S13_24 o kh24 ke51 ke59 x2 w = some r) (Hkh24 : ∀ (z0 : Int32) (w : wS), kh24 z0 w = some r → AG G M_X7_is 24 [some (.ref (bx + 2)), some (.ref 14), some (.int (z0))] [] (Hf w) (.inl (some (.int r.1)), Hf r.2)) (Hke51 : ∀ (w : wS), ke51  w = some r → AG G M_X7_is 51 [none, none, none] [] (Hf w) (.inl (some (.int r.1)), Hf r.2)) (Hke59 : ∀ (w : wS), ke59  w = some r → AG G M_X7_is 59 [none, none, none] [] (Hf w) (.inl (some (.int r.1)), Hf r.2)) : AG G M_X7_is 24 [some (.ref (bx + 2)), some (.ref 14), some (.int (x2))] [] (Hf w) (.inl (some (.int r.1)), Hf r.2) := by
  unfold B_X7_is_S13_24 at hL
  refine g_iload_n dX7_is_24 rfl rfl ?_
  refine g_aload_n dX7_is_25 rfl rfl ?_
  refine s_getI (k := 2) (j := 4) E.1 hL rfl rfl f_X7_25 dX7_is_26 ?_
  intro v1 hL
  refine g_icmp_ge (tgt := 59) dX7_is_29 (by decide) (fun q6 => ?_) (fun q6 => ?_)
  · rw [if_pos q6] at hL
    refine g_none 0 ?_
    refine g_none 1 ?_
    refine g_none 2 ?_
    exact Hke59  _ hL
  · rw [if_neg q6] at hL
    refine g_aload_n dX7_is_32 rfl rfl ?_
    refine s_getR (k := 2) (j := 0) E.1 rfl rfl f_X7_9 dX7_is_33 ?_
    refine g_aload_n dX7_is_36 rfl rfl ?_
    refine s_getI (k := 2) (j := 3) E.1 hL rfl rfl f_X7_22 dX7_is_37 ?_
    intro v2 hL
    refine g_iload_n dX7_is_40 rfl rfl ?_
    refine g_iadd dX7_is_41 ?_
    refine s_bald (k := 3) E.1 hL rfl dX7_is_42 ?_
    intro v3 hL
    refine g_aload_n dX7_is_43 rfl rfl ?_
    refine g_iload_n dX7_is_44 rfl rfl ?_
    obtain ⟨v4, hc, hL⟩ := xB_some hL
    refine g_callSt (M' := M_J0_charAt_5068e) (k := 13) (as := [.int (x2)]) (v := some (.int v4)) hX.2.2 (by decide) l_X7_53 kV_J0_charAt_5068e (by decide) rfl (hX.2.1 13 _ _ _ _ rfl hc) rfl (Nat.le_of_ble_eq_true rfl) dX7_is_45 ?_
    refine g_icmp_eq (tgt := 53) dX7_is_48 (by decide) (fun q5 => ?_) (fun q5 => ?_)
    · rw [if_pos q5] at hL
      refine g_iincV (v := (x2 + 1)) dX7_is_53 rfl rfl (by decide) rfl ?_
      refine g_goto (tgt := 24) dX7_is_56 (by decide) ?_
      exact Hkh24 _ _ hL
    · rw [if_neg q5] at hL
      refine g_none 0 ?_
      refine g_none 1 ?_
      refine g_none 2 ?_
      exact Hke51  _ hL
def P_X7_is_S13_24 (o : wO) (ke51 : wS → Option (Int32 × wS)) (ke59 : wS → Option (Int32 × wS)) (n : Nat) (x2 : Int32) (w : wS) : Option (Int32 × wS) :=
  xLoop (fun (kk : Int32 × wS → Option (Int32 × wS)) σ => B_X7_is_S13_24 o (fun x2 w => kk (x2, w)) ke51 ke59 (σ.1) (σ.2)) n (x2, w)
theorem P_X7_is_S13_24_ok {G : aG} {Hf : wS → aH} {bx : Nat} {o : wO} {ke51 : wS → Option (Int32 × wS)} {ke59 : wS → Option (Int32 × wS)} {n : Nat} {x2 : Int32} {w : wS} {r : Int32 × wS} (hG : aGood G) (hX : aTxt G) (E : EX Hf bx o) (hL : P_X7_is_S13_24 o ke51 ke59 n x2 w = some r) (Hke51 : ∀ (w : wS), ke51  w = some r → AG G M_X7_is 51 [none, none, none] [] (Hf w) (.inl (some (.int r.1)), Hf r.2)) (Hke59 : ∀ (w : wS), ke59  w = some r → AG G M_X7_is 59 [none, none, none] [] (Hf w) (.inl (some (.int r.1)), Hf r.2)) : AG G M_X7_is 24 [some (.ref (bx + 2)), some (.ref 14), some (.int (x2))] [] (Hf w) (.inl (some (.int r.1)), Hf r.2) :=
  xLoop_ok (Q := fun (σ : Int32 × wS) => AG G M_X7_is 24 [some (.ref (bx + 2)), some (.ref 14), some (.int (σ.1))] [] (Hf σ.2) (.inl (some (.int r.1)), Hf r.2)) (fun kk hk σ hσ => B_X7_is_S13_24_ok hG hX E hσ (fun x2 w h9 => hk (x2, w) h9) Hke51 Hke59) n (x2, w) hL
def J_X7_is_S13_20 (o : wO) (w : wS) : Option (Int32 × wS) :=
  some (0, w)
set_option maxRecDepth 20000 in
theorem J_X7_is_S13_20_ok {G : aG} {Hf : wS → aH} {bx : Nat} {o : wO} {w : wS} {r : Int32 × wS} (hG : aGood G) (hX : aTxt G) (E : EX Hf bx o) (hL : J_X7_is_S13_20 o   w = some r) : AG G M_X7_is 20 [none, none, none] [] (Hf w) (.inl (some (.int r.1)), Hf r.2) := by
  unfold J_X7_is_S13_20 at hL
  refine g_iconst (v := 0) dX7_is_20 (by decide) ?_
  obtain rfl := Option.some.inj hL
  exact g_zret rfl (by decide) dX7_is_21
def L_X7_is_S13 (o : wO) (w : wS) : Option (Int32 × wS) :=
  xB (xGet w 202) fun v7 => if v7 = 97 then xB (xGet w 204) fun v8 => if v8 = 3 then P_X7_is_S13_24 o (fun w9 => some (0, w9)) (fun w10 => some (1, w10)) 5000 (0) w else J_X7_is_S13_20 o   w else J_X7_is_S13_20 o   w
set_option maxRecDepth 20000 in
theorem C_X7_is_S13 {G : aG} {Hf : wS → aH} {bx : Nat} {o : wO} {w : wS} {r : Int32 × wS} (hG : aGood G) (hX : aTxt G) (E : EX Hf bx o) (hL : L_X7_is_S13 o  w = some r) : AC G M_X7_is [.ref (bx + 2), .ref 14] (Hf w) (.inl (some (.int r.1)), Hf r.2) := by
  unfold L_X7_is_S13 at hL
  refine AC.of (by decide) rfl (Nat.le_of_ble_eq_true rfl) ?_
  show AG G M_X7_is 0 [some (.ref (bx + 2)), some (.ref 14), none] [] _ _
  refine g_aload_n dX7_is_0 rfl rfl ?_
  refine s_getI (k := 2) (j := 2) E.1 hL rfl rfl f_X7_19 dX7_is_1 ?_
  intro v7 hL
  refine g_bipush (v := 97) dX7_is_4 (by decide) ?_
  refine g_icmp_ne (tgt := 20) dX7_is_6 (by decide) (fun q12 => ?_) (fun q12 => ?_)
  · rw [if_neg q12] at hL
    refine g_none 0 ?_
    refine g_none 1 ?_
    exact J_X7_is_S13_20_ok hG hX E hL 
  · rw [if_pos q12] at hL
    refine g_aload_n dX7_is_9 rfl rfl ?_
    refine s_getI (k := 2) (j := 4) E.1 hL rfl rfl f_X7_25 dX7_is_10 ?_
    intro v8 hL
    refine g_aload_n dX7_is_13 rfl rfl ?_
    refine g_callSt (M' := M_J0_length_8abf5) (k := 13) (as := []) (v := some (.int 3)) hX.2.2 (by decide) l_X7_48 kV_J0_length_8abf5 (by decide) rfl (hX.1 13 _ _ rfl) rfl (Nat.le_of_ble_eq_true rfl) dX7_is_14 ?_
    refine g_icmp_eq (tgt := 22) dX7_is_17 (by decide) (fun q11 => ?_) (fun q11 => ?_)
    · rw [if_pos q11] at hL
      refine g_iconst (v := 0) dX7_is_22 (by decide) ?_
      refine g_istore_n (i := 2) dX7_is_23 rfl (by decide) rfl ?_
      refine P_X7_is_S13_24_ok hG hX E hL ?_ ?_
      · intro w9 hL
        refine g_iconst (v := 0) dX7_is_51 (by decide) ?_
        obtain rfl := Option.some.inj hL
        exact g_zret rfl (by decide) dX7_is_52
      · intro w10 hL
        refine g_iconst (v := 1) dX7_is_59 (by decide) ?_
        obtain rfl := Option.some.inj hL
        exact g_zret rfl (by decide) dX7_is_60
    · rw [if_neg q11] at hL
      refine g_none 0 ?_
      refine g_none 1 ?_
      exact J_X7_is_S13_20_ok hG hX E hL 
def B_X7_is_S14_24 (o : wO) (kh24 : Int32 → wS → Option (Int32 × wS)) (ke51 : wS → Option (Int32 × wS)) (ke59 : wS → Option (Int32 × wS)) (x2 : Int32) (w : wS) : Option (Int32 × wS) :=
  xB (xGet w 204) fun v1 => if v1 ≤ x2 then ke59  w else xB (xGet w 203) fun v2 => xB (xAld w 3 700 ((v2 + x2))) fun v3 => xB (xChr (aChr.getD 14 []) (x2)) fun v4 => if v3 = v4 then kh24 ((x2 + 1)) w else ke51  w
set_option maxRecDepth 20000 in
theorem B_X7_is_S14_24_ok {G : aG} {Hf : wS → aH} {bx : Nat} {o : wO} {kh24 : Int32 → wS → Option (Int32 × wS)} {ke51 : wS → Option (Int32 × wS)} {ke59 : wS → Option (Int32 × wS)} {x2 : Int32} {w : wS} {r : Int32 × wS} (hG : aGood G) (hX : aTxt G) (E : EX Hf bx o) (hL : B_X7_is_S14_24 o kh24 ke51 ke59 x2 w = some r) (Hkh24 : ∀ (z0 : Int32) (w : wS), kh24 z0 w = some r → AG G M_X7_is 24 [some (.ref (bx + 2)), some (.ref 15), some (.int (z0))] [] (Hf w) (.inl (some (.int r.1)), Hf r.2)) (Hke51 : ∀ (w : wS), ke51  w = some r → AG G M_X7_is 51 [none, none, none] [] (Hf w) (.inl (some (.int r.1)), Hf r.2)) (Hke59 : ∀ (w : wS), ke59  w = some r → AG G M_X7_is 59 [none, none, none] [] (Hf w) (.inl (some (.int r.1)), Hf r.2)) : AG G M_X7_is 24 [some (.ref (bx + 2)), some (.ref 15), some (.int (x2))] [] (Hf w) (.inl (some (.int r.1)), Hf r.2) := by
  unfold B_X7_is_S14_24 at hL
  refine g_iload_n dX7_is_24 rfl rfl ?_
  refine g_aload_n dX7_is_25 rfl rfl ?_
  refine s_getI (k := 2) (j := 4) E.1 hL rfl rfl f_X7_25 dX7_is_26 ?_
  intro v1 hL
  refine g_icmp_ge (tgt := 59) dX7_is_29 (by decide) (fun q6 => ?_) (fun q6 => ?_)
  · rw [if_pos q6] at hL
    refine g_none 0 ?_
    refine g_none 1 ?_
    refine g_none 2 ?_
    exact Hke59  _ hL
  · rw [if_neg q6] at hL
    refine g_aload_n dX7_is_32 rfl rfl ?_
    refine s_getR (k := 2) (j := 0) E.1 rfl rfl f_X7_9 dX7_is_33 ?_
    refine g_aload_n dX7_is_36 rfl rfl ?_
    refine s_getI (k := 2) (j := 3) E.1 hL rfl rfl f_X7_22 dX7_is_37 ?_
    intro v2 hL
    refine g_iload_n dX7_is_40 rfl rfl ?_
    refine g_iadd dX7_is_41 ?_
    refine s_bald (k := 3) E.1 hL rfl dX7_is_42 ?_
    intro v3 hL
    refine g_aload_n dX7_is_43 rfl rfl ?_
    refine g_iload_n dX7_is_44 rfl rfl ?_
    obtain ⟨v4, hc, hL⟩ := xB_some hL
    refine g_callSt (M' := M_J0_charAt_5068e) (k := 14) (as := [.int (x2)]) (v := some (.int v4)) hX.2.2 (by decide) l_X7_53 kV_J0_charAt_5068e (by decide) rfl (hX.2.1 14 _ _ _ _ rfl hc) rfl (Nat.le_of_ble_eq_true rfl) dX7_is_45 ?_
    refine g_icmp_eq (tgt := 53) dX7_is_48 (by decide) (fun q5 => ?_) (fun q5 => ?_)
    · rw [if_pos q5] at hL
      refine g_iincV (v := (x2 + 1)) dX7_is_53 rfl rfl (by decide) rfl ?_
      refine g_goto (tgt := 24) dX7_is_56 (by decide) ?_
      exact Hkh24 _ _ hL
    · rw [if_neg q5] at hL
      refine g_none 0 ?_
      refine g_none 1 ?_
      refine g_none 2 ?_
      exact Hke51  _ hL
def P_X7_is_S14_24 (o : wO) (ke51 : wS → Option (Int32 × wS)) (ke59 : wS → Option (Int32 × wS)) (n : Nat) (x2 : Int32) (w : wS) : Option (Int32 × wS) :=
  xLoop (fun (kk : Int32 × wS → Option (Int32 × wS)) σ => B_X7_is_S14_24 o (fun x2 w => kk (x2, w)) ke51 ke59 (σ.1) (σ.2)) n (x2, w)
theorem P_X7_is_S14_24_ok {G : aG} {Hf : wS → aH} {bx : Nat} {o : wO} {ke51 : wS → Option (Int32 × wS)} {ke59 : wS → Option (Int32 × wS)} {n : Nat} {x2 : Int32} {w : wS} {r : Int32 × wS} (hG : aGood G) (hX : aTxt G) (E : EX Hf bx o) (hL : P_X7_is_S14_24 o ke51 ke59 n x2 w = some r) (Hke51 : ∀ (w : wS), ke51  w = some r → AG G M_X7_is 51 [none, none, none] [] (Hf w) (.inl (some (.int r.1)), Hf r.2)) (Hke59 : ∀ (w : wS), ke59  w = some r → AG G M_X7_is 59 [none, none, none] [] (Hf w) (.inl (some (.int r.1)), Hf r.2)) : AG G M_X7_is 24 [some (.ref (bx + 2)), some (.ref 15), some (.int (x2))] [] (Hf w) (.inl (some (.int r.1)), Hf r.2) :=
  xLoop_ok (Q := fun (σ : Int32 × wS) => AG G M_X7_is 24 [some (.ref (bx + 2)), some (.ref 15), some (.int (σ.1))] [] (Hf σ.2) (.inl (some (.int r.1)), Hf r.2)) (fun kk hk σ hσ => B_X7_is_S14_24_ok hG hX E hσ (fun x2 w h9 => hk (x2, w) h9) Hke51 Hke59) n (x2, w) hL
def J_X7_is_S14_20 (o : wO) (w : wS) : Option (Int32 × wS) :=
  some (0, w)
set_option maxRecDepth 20000 in
theorem J_X7_is_S14_20_ok {G : aG} {Hf : wS → aH} {bx : Nat} {o : wO} {w : wS} {r : Int32 × wS} (hG : aGood G) (hX : aTxt G) (E : EX Hf bx o) (hL : J_X7_is_S14_20 o   w = some r) : AG G M_X7_is 20 [none, none, none] [] (Hf w) (.inl (some (.int r.1)), Hf r.2) := by
  unfold J_X7_is_S14_20 at hL
  refine g_iconst (v := 0) dX7_is_20 (by decide) ?_
  obtain rfl := Option.some.inj hL
  exact g_zret rfl (by decide) dX7_is_21
def L_X7_is_S14 (o : wO) (w : wS) : Option (Int32 × wS) :=
  xB (xGet w 202) fun v7 => if v7 = 97 then xB (xGet w 204) fun v8 => if v8 = 3 then P_X7_is_S14_24 o (fun w9 => some (0, w9)) (fun w10 => some (1, w10)) 5000 (0) w else J_X7_is_S14_20 o   w else J_X7_is_S14_20 o   w
set_option maxRecDepth 20000 in
theorem C_X7_is_S14 {G : aG} {Hf : wS → aH} {bx : Nat} {o : wO} {w : wS} {r : Int32 × wS} (hG : aGood G) (hX : aTxt G) (E : EX Hf bx o) (hL : L_X7_is_S14 o  w = some r) : AC G M_X7_is [.ref (bx + 2), .ref 15] (Hf w) (.inl (some (.int r.1)), Hf r.2) := by
  unfold L_X7_is_S14 at hL
  refine AC.of (by decide) rfl (Nat.le_of_ble_eq_true rfl) ?_
  show AG G M_X7_is 0 [some (.ref (bx + 2)), some (.ref 15), none] [] _ _
  refine g_aload_n dX7_is_0 rfl rfl ?_
  refine s_getI (k := 2) (j := 2) E.1 hL rfl rfl f_X7_19 dX7_is_1 ?_
  intro v7 hL
  refine g_bipush (v := 97) dX7_is_4 (by decide) ?_
  refine g_icmp_ne (tgt := 20) dX7_is_6 (by decide) (fun q12 => ?_) (fun q12 => ?_)
  · rw [if_neg q12] at hL
    refine g_none 0 ?_
    refine g_none 1 ?_
    exact J_X7_is_S14_20_ok hG hX E hL 
  · rw [if_pos q12] at hL
    refine g_aload_n dX7_is_9 rfl rfl ?_
    refine s_getI (k := 2) (j := 4) E.1 hL rfl rfl f_X7_25 dX7_is_10 ?_
    intro v8 hL
    refine g_aload_n dX7_is_13 rfl rfl ?_
    refine g_callSt (M' := M_J0_length_8abf5) (k := 14) (as := []) (v := some (.int 3)) hX.2.2 (by decide) l_X7_48 kV_J0_length_8abf5 (by decide) rfl (hX.1 14 _ _ rfl) rfl (Nat.le_of_ble_eq_true rfl) dX7_is_14 ?_
    refine g_icmp_eq (tgt := 22) dX7_is_17 (by decide) (fun q11 => ?_) (fun q11 => ?_)
    · rw [if_pos q11] at hL
      refine g_iconst (v := 0) dX7_is_22 (by decide) ?_
      refine g_istore_n (i := 2) dX7_is_23 rfl (by decide) rfl ?_
      refine P_X7_is_S14_24_ok hG hX E hL ?_ ?_
      · intro w9 hL
        refine g_iconst (v := 0) dX7_is_51 (by decide) ?_
        obtain rfl := Option.some.inj hL
        exact g_zret rfl (by decide) dX7_is_52
      · intro w10 hL
        refine g_iconst (v := 1) dX7_is_59 (by decide) ?_
        obtain rfl := Option.some.inj hL
        exact g_zret rfl (by decide) dX7_is_60
    · rw [if_neg q11] at hL
      refine g_none 0 ?_
      refine g_none 1 ?_
      exact J_X7_is_S14_20_ok hG hX E hL 
def B_X7_is_S15_24 (o : wO) (kh24 : Int32 → wS → Option (Int32 × wS)) (ke51 : wS → Option (Int32 × wS)) (ke59 : wS → Option (Int32 × wS)) (x2 : Int32) (w : wS) : Option (Int32 × wS) :=
  xB (xGet w 204) fun v1 => if v1 ≤ x2 then ke59  w else xB (xGet w 203) fun v2 => xB (xAld w 3 700 ((v2 + x2))) fun v3 => xB (xChr (aChr.getD 15 []) (x2)) fun v4 => if v3 = v4 then kh24 ((x2 + 1)) w else ke51  w
set_option maxRecDepth 20000 in
theorem B_X7_is_S15_24_ok {G : aG} {Hf : wS → aH} {bx : Nat} {o : wO} {kh24 : Int32 → wS → Option (Int32 × wS)} {ke51 : wS → Option (Int32 × wS)} {ke59 : wS → Option (Int32 × wS)} {x2 : Int32} {w : wS} {r : Int32 × wS} (hG : aGood G) (hX : aTxt G) (E : EX Hf bx o) (hL : B_X7_is_S15_24 o kh24 ke51 ke59 x2 w = some r) (Hkh24 : ∀ (z0 : Int32) (w : wS), kh24 z0 w = some r → AG G M_X7_is 24 [some (.ref (bx + 2)), some (.ref 16), some (.int (z0))] [] (Hf w) (.inl (some (.int r.1)), Hf r.2)) (Hke51 : ∀ (w : wS), ke51  w = some r → AG G M_X7_is 51 [none, none, none] [] (Hf w) (.inl (some (.int r.1)), Hf r.2)) (Hke59 : ∀ (w : wS), ke59  w = some r → AG G M_X7_is 59 [none, none, none] [] (Hf w) (.inl (some (.int r.1)), Hf r.2)) : AG G M_X7_is 24 [some (.ref (bx + 2)), some (.ref 16), some (.int (x2))] [] (Hf w) (.inl (some (.int r.1)), Hf r.2) := by
  unfold B_X7_is_S15_24 at hL
  refine g_iload_n dX7_is_24 rfl rfl ?_
  refine g_aload_n dX7_is_25 rfl rfl ?_
  refine s_getI (k := 2) (j := 4) E.1 hL rfl rfl f_X7_25 dX7_is_26 ?_
  intro v1 hL
  refine g_icmp_ge (tgt := 59) dX7_is_29 (by decide) (fun q6 => ?_) (fun q6 => ?_)
  · rw [if_pos q6] at hL
    refine g_none 0 ?_
    refine g_none 1 ?_
    refine g_none 2 ?_
    exact Hke59  _ hL
  · rw [if_neg q6] at hL
    refine g_aload_n dX7_is_32 rfl rfl ?_
    refine s_getR (k := 2) (j := 0) E.1 rfl rfl f_X7_9 dX7_is_33 ?_
    refine g_aload_n dX7_is_36 rfl rfl ?_
    refine s_getI (k := 2) (j := 3) E.1 hL rfl rfl f_X7_22 dX7_is_37 ?_
    intro v2 hL
    refine g_iload_n dX7_is_40 rfl rfl ?_
    refine g_iadd dX7_is_41 ?_
    refine s_bald (k := 3) E.1 hL rfl dX7_is_42 ?_
    intro v3 hL
    refine g_aload_n dX7_is_43 rfl rfl ?_
    refine g_iload_n dX7_is_44 rfl rfl ?_
    obtain ⟨v4, hc, hL⟩ := xB_some hL
    refine g_callSt (M' := M_J0_charAt_5068e) (k := 15) (as := [.int (x2)]) (v := some (.int v4)) hX.2.2 (by decide) l_X7_53 kV_J0_charAt_5068e (by decide) rfl (hX.2.1 15 _ _ _ _ rfl hc) rfl (Nat.le_of_ble_eq_true rfl) dX7_is_45 ?_
    refine g_icmp_eq (tgt := 53) dX7_is_48 (by decide) (fun q5 => ?_) (fun q5 => ?_)
    · rw [if_pos q5] at hL
      refine g_iincV (v := (x2 + 1)) dX7_is_53 rfl rfl (by decide) rfl ?_
      refine g_goto (tgt := 24) dX7_is_56 (by decide) ?_
      exact Hkh24 _ _ hL
    · rw [if_neg q5] at hL
      refine g_none 0 ?_
      refine g_none 1 ?_
      refine g_none 2 ?_
      exact Hke51  _ hL
def P_X7_is_S15_24 (o : wO) (ke51 : wS → Option (Int32 × wS)) (ke59 : wS → Option (Int32 × wS)) (n : Nat) (x2 : Int32) (w : wS) : Option (Int32 × wS) :=
  xLoop (fun (kk : Int32 × wS → Option (Int32 × wS)) σ => B_X7_is_S15_24 o (fun x2 w => kk (x2, w)) ke51 ke59 (σ.1) (σ.2)) n (x2, w)
theorem P_X7_is_S15_24_ok {G : aG} {Hf : wS → aH} {bx : Nat} {o : wO} {ke51 : wS → Option (Int32 × wS)} {ke59 : wS → Option (Int32 × wS)} {n : Nat} {x2 : Int32} {w : wS} {r : Int32 × wS} (hG : aGood G) (hX : aTxt G) (E : EX Hf bx o) (hL : P_X7_is_S15_24 o ke51 ke59 n x2 w = some r) (Hke51 : ∀ (w : wS), ke51  w = some r → AG G M_X7_is 51 [none, none, none] [] (Hf w) (.inl (some (.int r.1)), Hf r.2)) (Hke59 : ∀ (w : wS), ke59  w = some r → AG G M_X7_is 59 [none, none, none] [] (Hf w) (.inl (some (.int r.1)), Hf r.2)) : AG G M_X7_is 24 [some (.ref (bx + 2)), some (.ref 16), some (.int (x2))] [] (Hf w) (.inl (some (.int r.1)), Hf r.2) :=
  xLoop_ok (Q := fun (σ : Int32 × wS) => AG G M_X7_is 24 [some (.ref (bx + 2)), some (.ref 16), some (.int (σ.1))] [] (Hf σ.2) (.inl (some (.int r.1)), Hf r.2)) (fun kk hk σ hσ => B_X7_is_S15_24_ok hG hX E hσ (fun x2 w h9 => hk (x2, w) h9) Hke51 Hke59) n (x2, w) hL
def J_X7_is_S15_20 (o : wO) (w : wS) : Option (Int32 × wS) :=
  some (0, w)
set_option maxRecDepth 20000 in
theorem J_X7_is_S15_20_ok {G : aG} {Hf : wS → aH} {bx : Nat} {o : wO} {w : wS} {r : Int32 × wS} (hG : aGood G) (hX : aTxt G) (E : EX Hf bx o) (hL : J_X7_is_S15_20 o   w = some r) : AG G M_X7_is 20 [none, none, none] [] (Hf w) (.inl (some (.int r.1)), Hf r.2) := by
  unfold J_X7_is_S15_20 at hL
  refine g_iconst (v := 0) dX7_is_20 (by decide) ?_
  obtain rfl := Option.some.inj hL
  exact g_zret rfl (by decide) dX7_is_21
def L_X7_is_S15 (o : wO) (w : wS) : Option (Int32 × wS) :=
  xB (xGet w 202) fun v7 => if v7 = 97 then xB (xGet w 204) fun v8 => if v8 = 2 then P_X7_is_S15_24 o (fun w9 => some (0, w9)) (fun w10 => some (1, w10)) 5000 (0) w else J_X7_is_S15_20 o   w else J_X7_is_S15_20 o   w
set_option maxRecDepth 20000 in
theorem C_X7_is_S15 {G : aG} {Hf : wS → aH} {bx : Nat} {o : wO} {w : wS} {r : Int32 × wS} (hG : aGood G) (hX : aTxt G) (E : EX Hf bx o) (hL : L_X7_is_S15 o  w = some r) : AC G M_X7_is [.ref (bx + 2), .ref 16] (Hf w) (.inl (some (.int r.1)), Hf r.2) := by
  unfold L_X7_is_S15 at hL
  refine AC.of (by decide) rfl (Nat.le_of_ble_eq_true rfl) ?_
  show AG G M_X7_is 0 [some (.ref (bx + 2)), some (.ref 16), none] [] _ _
  refine g_aload_n dX7_is_0 rfl rfl ?_
  refine s_getI (k := 2) (j := 2) E.1 hL rfl rfl f_X7_19 dX7_is_1 ?_
  intro v7 hL
  refine g_bipush (v := 97) dX7_is_4 (by decide) ?_
  refine g_icmp_ne (tgt := 20) dX7_is_6 (by decide) (fun q12 => ?_) (fun q12 => ?_)
  · rw [if_neg q12] at hL
    refine g_none 0 ?_
    refine g_none 1 ?_
    exact J_X7_is_S15_20_ok hG hX E hL 
  · rw [if_pos q12] at hL
    refine g_aload_n dX7_is_9 rfl rfl ?_
    refine s_getI (k := 2) (j := 4) E.1 hL rfl rfl f_X7_25 dX7_is_10 ?_
    intro v8 hL
    refine g_aload_n dX7_is_13 rfl rfl ?_
    refine g_callSt (M' := M_J0_length_8abf5) (k := 15) (as := []) (v := some (.int 2)) hX.2.2 (by decide) l_X7_48 kV_J0_length_8abf5 (by decide) rfl (hX.1 15 _ _ rfl) rfl (Nat.le_of_ble_eq_true rfl) dX7_is_14 ?_
    refine g_icmp_eq (tgt := 22) dX7_is_17 (by decide) (fun q11 => ?_) (fun q11 => ?_)
    · rw [if_pos q11] at hL
      refine g_iconst (v := 0) dX7_is_22 (by decide) ?_
      refine g_istore_n (i := 2) dX7_is_23 rfl (by decide) rfl ?_
      refine P_X7_is_S15_24_ok hG hX E hL ?_ ?_
      · intro w9 hL
        refine g_iconst (v := 0) dX7_is_51 (by decide) ?_
        obtain rfl := Option.some.inj hL
        exact g_zret rfl (by decide) dX7_is_52
      · intro w10 hL
        refine g_iconst (v := 1) dX7_is_59 (by decide) ?_
        obtain rfl := Option.some.inj hL
        exact g_zret rfl (by decide) dX7_is_60
    · rw [if_neg q11] at hL
      refine g_none 0 ?_
      refine g_none 1 ?_
      exact J_X7_is_S15_20_ok hG hX E hL 
def B_X7_is_S16_24 (o : wO) (kh24 : Int32 → wS → Option (Int32 × wS)) (ke51 : wS → Option (Int32 × wS)) (ke59 : wS → Option (Int32 × wS)) (x2 : Int32) (w : wS) : Option (Int32 × wS) :=
  xB (xGet w 204) fun v1 => if v1 ≤ x2 then ke59  w else xB (xGet w 203) fun v2 => xB (xAld w 3 700 ((v2 + x2))) fun v3 => xB (xChr (aChr.getD 16 []) (x2)) fun v4 => if v3 = v4 then kh24 ((x2 + 1)) w else ke51  w
set_option maxRecDepth 20000 in
theorem B_X7_is_S16_24_ok {G : aG} {Hf : wS → aH} {bx : Nat} {o : wO} {kh24 : Int32 → wS → Option (Int32 × wS)} {ke51 : wS → Option (Int32 × wS)} {ke59 : wS → Option (Int32 × wS)} {x2 : Int32} {w : wS} {r : Int32 × wS} (hG : aGood G) (hX : aTxt G) (E : EX Hf bx o) (hL : B_X7_is_S16_24 o kh24 ke51 ke59 x2 w = some r) (Hkh24 : ∀ (z0 : Int32) (w : wS), kh24 z0 w = some r → AG G M_X7_is 24 [some (.ref (bx + 2)), some (.ref 17), some (.int (z0))] [] (Hf w) (.inl (some (.int r.1)), Hf r.2)) (Hke51 : ∀ (w : wS), ke51  w = some r → AG G M_X7_is 51 [none, none, none] [] (Hf w) (.inl (some (.int r.1)), Hf r.2)) (Hke59 : ∀ (w : wS), ke59  w = some r → AG G M_X7_is 59 [none, none, none] [] (Hf w) (.inl (some (.int r.1)), Hf r.2)) : AG G M_X7_is 24 [some (.ref (bx + 2)), some (.ref 17), some (.int (x2))] [] (Hf w) (.inl (some (.int r.1)), Hf r.2) := by
  unfold B_X7_is_S16_24 at hL
  refine g_iload_n dX7_is_24 rfl rfl ?_
  refine g_aload_n dX7_is_25 rfl rfl ?_
  refine s_getI (k := 2) (j := 4) E.1 hL rfl rfl f_X7_25 dX7_is_26 ?_
  intro v1 hL
  refine g_icmp_ge (tgt := 59) dX7_is_29 (by decide) (fun q6 => ?_) (fun q6 => ?_)
  · rw [if_pos q6] at hL
    refine g_none 0 ?_
    refine g_none 1 ?_
    refine g_none 2 ?_
    exact Hke59  _ hL
  · rw [if_neg q6] at hL
    refine g_aload_n dX7_is_32 rfl rfl ?_
    refine s_getR (k := 2) (j := 0) E.1 rfl rfl f_X7_9 dX7_is_33 ?_
    refine g_aload_n dX7_is_36 rfl rfl ?_
    refine s_getI (k := 2) (j := 3) E.1 hL rfl rfl f_X7_22 dX7_is_37 ?_
    intro v2 hL
    refine g_iload_n dX7_is_40 rfl rfl ?_
    refine g_iadd dX7_is_41 ?_
    refine s_bald (k := 3) E.1 hL rfl dX7_is_42 ?_
    intro v3 hL
    refine g_aload_n dX7_is_43 rfl rfl ?_
    refine g_iload_n dX7_is_44 rfl rfl ?_
    obtain ⟨v4, hc, hL⟩ := xB_some hL
    refine g_callSt (M' := M_J0_charAt_5068e) (k := 16) (as := [.int (x2)]) (v := some (.int v4)) hX.2.2 (by decide) l_X7_53 kV_J0_charAt_5068e (by decide) rfl (hX.2.1 16 _ _ _ _ rfl hc) rfl (Nat.le_of_ble_eq_true rfl) dX7_is_45 ?_
    refine g_icmp_eq (tgt := 53) dX7_is_48 (by decide) (fun q5 => ?_) (fun q5 => ?_)
    · rw [if_pos q5] at hL
      refine g_iincV (v := (x2 + 1)) dX7_is_53 rfl rfl (by decide) rfl ?_
      refine g_goto (tgt := 24) dX7_is_56 (by decide) ?_
      exact Hkh24 _ _ hL
    · rw [if_neg q5] at hL
      refine g_none 0 ?_
      refine g_none 1 ?_
      refine g_none 2 ?_
      exact Hke51  _ hL
def P_X7_is_S16_24 (o : wO) (ke51 : wS → Option (Int32 × wS)) (ke59 : wS → Option (Int32 × wS)) (n : Nat) (x2 : Int32) (w : wS) : Option (Int32 × wS) :=
  xLoop (fun (kk : Int32 × wS → Option (Int32 × wS)) σ => B_X7_is_S16_24 o (fun x2 w => kk (x2, w)) ke51 ke59 (σ.1) (σ.2)) n (x2, w)
theorem P_X7_is_S16_24_ok {G : aG} {Hf : wS → aH} {bx : Nat} {o : wO} {ke51 : wS → Option (Int32 × wS)} {ke59 : wS → Option (Int32 × wS)} {n : Nat} {x2 : Int32} {w : wS} {r : Int32 × wS} (hG : aGood G) (hX : aTxt G) (E : EX Hf bx o) (hL : P_X7_is_S16_24 o ke51 ke59 n x2 w = some r) (Hke51 : ∀ (w : wS), ke51  w = some r → AG G M_X7_is 51 [none, none, none] [] (Hf w) (.inl (some (.int r.1)), Hf r.2)) (Hke59 : ∀ (w : wS), ke59  w = some r → AG G M_X7_is 59 [none, none, none] [] (Hf w) (.inl (some (.int r.1)), Hf r.2)) : AG G M_X7_is 24 [some (.ref (bx + 2)), some (.ref 17), some (.int (x2))] [] (Hf w) (.inl (some (.int r.1)), Hf r.2) :=
  xLoop_ok (Q := fun (σ : Int32 × wS) => AG G M_X7_is 24 [some (.ref (bx + 2)), some (.ref 17), some (.int (σ.1))] [] (Hf σ.2) (.inl (some (.int r.1)), Hf r.2)) (fun kk hk σ hσ => B_X7_is_S16_24_ok hG hX E hσ (fun x2 w h9 => hk (x2, w) h9) Hke51 Hke59) n (x2, w) hL
def J_X7_is_S16_20 (o : wO) (w : wS) : Option (Int32 × wS) :=
  some (0, w)
set_option maxRecDepth 20000 in
theorem J_X7_is_S16_20_ok {G : aG} {Hf : wS → aH} {bx : Nat} {o : wO} {w : wS} {r : Int32 × wS} (hG : aGood G) (hX : aTxt G) (E : EX Hf bx o) (hL : J_X7_is_S16_20 o   w = some r) : AG G M_X7_is 20 [none, none, none] [] (Hf w) (.inl (some (.int r.1)), Hf r.2) := by
  unfold J_X7_is_S16_20 at hL
  refine g_iconst (v := 0) dX7_is_20 (by decide) ?_
  obtain rfl := Option.some.inj hL
  exact g_zret rfl (by decide) dX7_is_21
def L_X7_is_S16 (o : wO) (w : wS) : Option (Int32 × wS) :=
  xB (xGet w 202) fun v7 => if v7 = 97 then xB (xGet w 204) fun v8 => if v8 = 5 then P_X7_is_S16_24 o (fun w9 => some (0, w9)) (fun w10 => some (1, w10)) 5000 (0) w else J_X7_is_S16_20 o   w else J_X7_is_S16_20 o   w
set_option maxRecDepth 20000 in
theorem C_X7_is_S16 {G : aG} {Hf : wS → aH} {bx : Nat} {o : wO} {w : wS} {r : Int32 × wS} (hG : aGood G) (hX : aTxt G) (E : EX Hf bx o) (hL : L_X7_is_S16 o  w = some r) : AC G M_X7_is [.ref (bx + 2), .ref 17] (Hf w) (.inl (some (.int r.1)), Hf r.2) := by
  unfold L_X7_is_S16 at hL
  refine AC.of (by decide) rfl (Nat.le_of_ble_eq_true rfl) ?_
  show AG G M_X7_is 0 [some (.ref (bx + 2)), some (.ref 17), none] [] _ _
  refine g_aload_n dX7_is_0 rfl rfl ?_
  refine s_getI (k := 2) (j := 2) E.1 hL rfl rfl f_X7_19 dX7_is_1 ?_
  intro v7 hL
  refine g_bipush (v := 97) dX7_is_4 (by decide) ?_
  refine g_icmp_ne (tgt := 20) dX7_is_6 (by decide) (fun q12 => ?_) (fun q12 => ?_)
  · rw [if_neg q12] at hL
    refine g_none 0 ?_
    refine g_none 1 ?_
    exact J_X7_is_S16_20_ok hG hX E hL 
  · rw [if_pos q12] at hL
    refine g_aload_n dX7_is_9 rfl rfl ?_
    refine s_getI (k := 2) (j := 4) E.1 hL rfl rfl f_X7_25 dX7_is_10 ?_
    intro v8 hL
    refine g_aload_n dX7_is_13 rfl rfl ?_
    refine g_callSt (M' := M_J0_length_8abf5) (k := 16) (as := []) (v := some (.int 5)) hX.2.2 (by decide) l_X7_48 kV_J0_length_8abf5 (by decide) rfl (hX.1 16 _ _ rfl) rfl (Nat.le_of_ble_eq_true rfl) dX7_is_14 ?_
    refine g_icmp_eq (tgt := 22) dX7_is_17 (by decide) (fun q11 => ?_) (fun q11 => ?_)
    · rw [if_pos q11] at hL
      refine g_iconst (v := 0) dX7_is_22 (by decide) ?_
      refine g_istore_n (i := 2) dX7_is_23 rfl (by decide) rfl ?_
      refine P_X7_is_S16_24_ok hG hX E hL ?_ ?_
      · intro w9 hL
        refine g_iconst (v := 0) dX7_is_51 (by decide) ?_
        obtain rfl := Option.some.inj hL
        exact g_zret rfl (by decide) dX7_is_52
      · intro w10 hL
        refine g_iconst (v := 1) dX7_is_59 (by decide) ?_
        obtain rfl := Option.some.inj hL
        exact g_zret rfl (by decide) dX7_is_60
    · rw [if_neg q11] at hL
      refine g_none 0 ?_
      refine g_none 1 ?_
      exact J_X7_is_S16_20_ok hG hX E hL 
def J_X2_valueTold_114 (o : wO) (y0 : Int32) (w : wS) : Option (Int32 × wS) :=
  some (y0, w)
set_option maxRecDepth 20000 in
theorem J_X2_valueTold_114_ok {G : aG} {Hf : wS → aH} {bx : Nat} {o : wO} {y0 : Int32} {w : wS} {r : Int32 × wS} (hG : aGood G) (hX : aTxt G) (E : EX Hf bx o) (hL : J_X2_valueTold_114 o  y0 w = some r) : AG G M_X2_valueTold 114 [none] [.int (y0)] (Hf w) (.inl (some (.int r.1)), Hf r.2) := by
  unfold J_X2_valueTold_114 at hL
  obtain rfl := Option.some.inj hL
  exact g_iret rfl dX2_valueTold_114
def J_X2_valueTold_113 (o : wO) (w : wS) : Option (Int32 × wS) :=
  J_X2_valueTold_114 o  (0) w
set_option maxRecDepth 20000 in
theorem J_X2_valueTold_113_ok {G : aG} {Hf : wS → aH} {bx : Nat} {o : wO} {w : wS} {r : Int32 × wS} (hG : aGood G) (hX : aTxt G) (E : EX Hf bx o) (hL : J_X2_valueTold_113 o   w = some r) : AG G M_X2_valueTold 113 [none] [] (Hf w) (.inl (some (.int r.1)), Hf r.2) := by
  unfold J_X2_valueTold_113 at hL
  refine g_iconst (v := 0) dX2_valueTold_113 (by decide) ?_
  exact J_X2_valueTold_114_ok hG hX E hL 
def L_X2_valueTold (o : wO) (w : wS) : Option (Int32 × wS) :=
  xB2 (L_X7_is_S8 o  w) fun v1 w2 => if v1 = 0 then xB2 (L_X7_is_S9 o  w2) fun v3 w4 => if v3 = 0 then xB2 (L_X7_is_S10 o  w4) fun v5 w6 => if v5 = 0 then xB2 (L_X7_is_S11 o  w6) fun v7 w8 => if v7 = 0 then xB2 (L_X7_is_S4 o  w8) fun v9 w10 => if v9 = 0 then xB2 (L_X7_is_S12 o  w10) fun v11 w12 => if v11 = 0 then xB (xGet w12 105) fun v13 => if v13 = 0 then J_X2_valueTold_113 o   w12 else xB2 (L_X7_is_S13 o  w12) fun v14 w15 => if v14 = 0 then J_X2_valueTold_113 o   w15 else J_X2_valueTold_114 o  ((-7)) w15 else some ((-6), w12) else some ((-5), w10) else some ((-4), w8) else some ((-3), w6) else some ((-2), w4) else some ((-1), w2)
set_option maxRecDepth 20000 in
theorem C_X2_valueTold {G : aG} {Hf : wS → aH} {bx : Nat} {o : wO} {w : wS} {r : Int32 × wS} (hG : aGood G) (hX : aTxt G) (E : EX Hf bx o) (hL : L_X2_valueTold o  w = some r) : AC G M_X2_valueTold [.ref (bx + 1)] (Hf w) (.inl (some (.int r.1)), Hf r.2) := by
  unfold L_X2_valueTold at hL
  refine AC.of (by decide) rfl (Nat.le_of_ble_eq_true rfl) ?_
  show AG G M_X2_valueTold 0 [some (.ref (bx + 1))] [] _ _
  refine g_aload_n dX2_valueTold_0 rfl rfl ?_
  refine s_getR (k := 1) (j := 0) E.1 rfl rfl f_X2_12 dX2_valueTold_1 ?_
  refine g_ldcS (k := 8) hG (by decide) rfl dX2_valueTold_4 ?_
  obtain ⟨v1, w2, hc, hL⟩ := xB2_some hL
  refine g_callV (M' := M_X7_is) (as := [.ref 9]) (v := some (.int (v1))) l_X2_62 kV_X7_is (by decide) (C_X7_is_S8 hG hX E hc) rfl (by have := E.1.1; omega) (E.1.2.1 _ 2 _ rfl) ⟨_, _, rfl⟩ (Nat.le_of_ble_eq_true rfl) dX2_valueTold_6 ?_
  refine g_if_eq (tgt := 14) dX2_valueTold_9 (by decide) (fun q23 => ?_) (fun q23 => ?_)
  · rw [if_pos q23] at hL
    refine g_aload_n dX2_valueTold_14 rfl rfl ?_
    refine s_getR (k := 1) (j := 0) E.1 rfl rfl f_X2_12 dX2_valueTold_15 ?_
    refine g_ldcS (k := 9) hG (by decide) rfl dX2_valueTold_18 ?_
    obtain ⟨v3, w4, hc, hL⟩ := xB2_some hL
    refine g_callV (M' := M_X7_is) (as := [.ref 10]) (v := some (.int (v3))) l_X2_62 kV_X7_is (by decide) (C_X7_is_S9 hG hX E hc) rfl (by have := E.1.1; omega) (E.1.2.1 _ 2 _ rfl) ⟨_, _, rfl⟩ (Nat.le_of_ble_eq_true rfl) dX2_valueTold_20 ?_
    refine g_if_eq (tgt := 29) dX2_valueTold_23 (by decide) (fun q22 => ?_) (fun q22 => ?_)
    · rw [if_pos q22] at hL
      refine g_aload_n dX2_valueTold_29 rfl rfl ?_
      refine s_getR (k := 1) (j := 0) E.1 rfl rfl f_X2_12 dX2_valueTold_30 ?_
      refine g_ldcS (k := 10) hG (by decide) rfl dX2_valueTold_33 ?_
      obtain ⟨v5, w6, hc, hL⟩ := xB2_some hL
      refine g_callV (M' := M_X7_is) (as := [.ref 11]) (v := some (.int (v5))) l_X2_62 kV_X7_is (by decide) (C_X7_is_S10 hG hX E hc) rfl (by have := E.1.1; omega) (E.1.2.1 _ 2 _ rfl) ⟨_, _, rfl⟩ (Nat.le_of_ble_eq_true rfl) dX2_valueTold_35 ?_
      refine g_if_eq (tgt := 44) dX2_valueTold_38 (by decide) (fun q21 => ?_) (fun q21 => ?_)
      · rw [if_pos q21] at hL
        refine g_aload_n dX2_valueTold_44 rfl rfl ?_
        refine s_getR (k := 1) (j := 0) E.1 rfl rfl f_X2_12 dX2_valueTold_45 ?_
        refine g_ldcS (k := 11) hG (by decide) rfl dX2_valueTold_48 ?_
        obtain ⟨v7, w8, hc, hL⟩ := xB2_some hL
        refine g_callV (M' := M_X7_is) (as := [.ref 12]) (v := some (.int (v7))) l_X2_62 kV_X7_is (by decide) (C_X7_is_S11 hG hX E hc) rfl (by have := E.1.1; omega) (E.1.2.1 _ 2 _ rfl) ⟨_, _, rfl⟩ (Nat.le_of_ble_eq_true rfl) dX2_valueTold_50 ?_
        refine g_if_eq (tgt := 59) dX2_valueTold_53 (by decide) (fun q20 => ?_) (fun q20 => ?_)
        · rw [if_pos q20] at hL
          refine g_aload_n dX2_valueTold_59 rfl rfl ?_
          refine s_getR (k := 1) (j := 0) E.1 rfl rfl f_X2_12 dX2_valueTold_60 ?_
          refine g_ldcS (k := 4) hG (by decide) rfl dX2_valueTold_63 ?_
          obtain ⟨v9, w10, hc, hL⟩ := xB2_some hL
          refine g_callV (M' := M_X7_is) (as := [.ref 5]) (v := some (.int (v9))) l_X2_62 kV_X7_is (by decide) (C_X7_is_S4 hG hX E hc) rfl (by have := E.1.1; omega) (E.1.2.1 _ 2 _ rfl) ⟨_, _, rfl⟩ (Nat.le_of_ble_eq_true rfl) dX2_valueTold_65 ?_
          refine g_if_eq (tgt := 74) dX2_valueTold_68 (by decide) (fun q19 => ?_) (fun q19 => ?_)
          · rw [if_pos q19] at hL
            refine g_aload_n dX2_valueTold_74 rfl rfl ?_
            refine s_getR (k := 1) (j := 0) E.1 rfl rfl f_X2_12 dX2_valueTold_75 ?_
            refine g_ldcS (k := 12) hG (by decide) rfl dX2_valueTold_78 ?_
            obtain ⟨v11, w12, hc, hL⟩ := xB2_some hL
            refine g_callV (M' := M_X7_is) (as := [.ref 13]) (v := some (.int (v11))) l_X2_62 kV_X7_is (by decide) (C_X7_is_S12 hG hX E hc) rfl (by have := E.1.1; omega) (E.1.2.1 _ 2 _ rfl) ⟨_, _, rfl⟩ (Nat.le_of_ble_eq_true rfl) dX2_valueTold_80 ?_
            refine g_if_eq (tgt := 89) dX2_valueTold_83 (by decide) (fun q18 => ?_) (fun q18 => ?_)
            · rw [if_pos q18] at hL
              refine g_aload_n dX2_valueTold_89 rfl rfl ?_
              refine s_getI (k := 1) (j := 5) E.1 hL rfl rfl f_X2_32 dX2_valueTold_90 ?_
              intro v13 hL
              refine g_if_eq (tgt := 113) dX2_valueTold_93 (by decide) (fun q17 => ?_) (fun q17 => ?_)
              · rw [if_pos q17] at hL
                refine g_none 0 ?_
                exact J_X2_valueTold_113_ok hG hX E hL 
              · rw [if_neg q17] at hL
                refine g_aload_n dX2_valueTold_96 rfl rfl ?_
                refine g_none 0 ?_
                refine s_getR (k := 1) (j := 0) E.1 rfl rfl f_X2_12 dX2_valueTold_97 ?_
                refine g_ldcS (k := 13) hG (by decide) rfl dX2_valueTold_100 ?_
                obtain ⟨v14, w15, hc, hL⟩ := xB2_some hL
                refine g_callV (M' := M_X7_is) (as := [.ref 14]) (v := some (.int (v14))) l_X2_62 kV_X7_is (by decide) (C_X7_is_S13 hG hX E hc) rfl (by have := E.1.1; omega) (E.1.2.1 _ 2 _ rfl) ⟨_, _, rfl⟩ (Nat.le_of_ble_eq_true rfl) dX2_valueTold_102 ?_
                refine g_if_eq (tgt := 113) dX2_valueTold_105 (by decide) (fun q16 => ?_) (fun q16 => ?_)
                · rw [if_pos q16] at hL
                  exact J_X2_valueTold_113_ok hG hX E hL 
                · rw [if_neg q16] at hL
                  refine g_bipush (v := (-7)) dX2_valueTold_108 (by decide) ?_
                  refine g_goto (tgt := 114) dX2_valueTold_110 (by decide) ?_
                  exact J_X2_valueTold_114_ok hG hX E hL 
            · rw [if_neg q18] at hL
              refine g_none 0 ?_
              refine g_bipush (v := (-6)) dX2_valueTold_86 (by decide) ?_
              obtain rfl := Option.some.inj hL
              exact g_iret rfl dX2_valueTold_88
          · rw [if_neg q19] at hL
            refine g_none 0 ?_
            refine g_bipush (v := (-5)) dX2_valueTold_71 (by decide) ?_
            obtain rfl := Option.some.inj hL
            exact g_iret rfl dX2_valueTold_73
        · rw [if_neg q20] at hL
          refine g_none 0 ?_
          refine g_bipush (v := (-4)) dX2_valueTold_56 (by decide) ?_
          obtain rfl := Option.some.inj hL
          exact g_iret rfl dX2_valueTold_58
      · rw [if_neg q21] at hL
        refine g_none 0 ?_
        refine g_bipush (v := (-3)) dX2_valueTold_41 (by decide) ?_
        obtain rfl := Option.some.inj hL
        exact g_iret rfl dX2_valueTold_43
    · rw [if_neg q22] at hL
      refine g_none 0 ?_
      refine g_bipush (v := (-2)) dX2_valueTold_26 (by decide) ?_
      obtain rfl := Option.some.inj hL
      exact g_iret rfl dX2_valueTold_28
  · rw [if_neg q23] at hL
    refine g_none 0 ?_
    refine g_iconst (v := (-1)) dX2_valueTold_12 (by decide) ?_
    obtain rfl := Option.some.inj hL
    exact g_iret rfl dX2_valueTold_13
def J_X2_part_108 (rec : Int32 → wS → Option (Int32 × wS)) (o : wO) (x2 : Int32) (w : wS) : Option (Int32 × wS) :=
  xB (L_X7_advance o  w) fun w1 => xB2 (L_X2_emit o (x2) w1) fun v2 w3 => xB (xBool (v2)) fun v4 => some (v4, w3)
set_option maxRecDepth 20000 in
theorem J_X2_part_108_ok {G : aG} {Hf : wS → aH} {bx nd : Nat} {o : wO} {rec : Int32 → wS → Option (Int32 × wS)} {x2 : Int32} {w : wS} {r : Int32 × wS} (hG : aGood G) (hX : aTxt G) (E : EX Hf bx o) (hrec : ∀ (a : Int32) (w : wS) (r : Int32 × wS), rec a w = some r → AC G (M_X2_expr nd) [.ref (bx + 1), .int a] (Hf w) (.inl (some (.int r.1)), Hf r.2)) (hL : J_X2_part_108 rec o  x2 w = some r) : AG G (M_X2_part (nd + 1)) 108 [some (.ref (bx + 1)), none, some (.int (x2))] [] (Hf w) (.inl (some (.int r.1)), Hf r.2) := by
  unfold J_X2_part_108 at hL
  refine g_aload_n dX2_part_108 rfl rfl ?_
  refine s_getR (k := 1) (j := 0) E.1 rfl rfl f_X2_12 dX2_part_109 ?_
  obtain ⟨w1, hc, hL⟩ := xB_some hL
  refine g_callV (M' := M_X7_advance) (as := []) (v := none) l_X2_99 kV_X7_advance (by simp only [mD]; omega) (C_X7_advance hG hX E hc) rfl (by have := E.1.1; omega) (E.1.2.1 _ 2 _ rfl) ⟨_, _, rfl⟩ (Nat.le_of_ble_eq_true rfl) dX2_part_112 ?_
  refine g_aload_n dX2_part_115 rfl rfl ?_
  refine g_none 0 ?_
  refine g_iload_n dX2_part_116 rfl rfl ?_
  refine g_none 2 ?_
  obtain ⟨v2, w3, hc, hL⟩ := xB2_some hL
  refine g_callV (M' := M_X2_emit) (as := [.int (x2)]) (v := some (.int (v2))) l_X2_159 kV_X2_emit (by simp only [mD]; omega) (C_X2_emit hG hX E hc) rfl (by have := E.1.1; omega) (E.1.2.1 _ 1 _ rfl) ⟨_, _, rfl⟩ (Nat.le_of_ble_eq_true rfl) dX2_part_117 ?_
  obtain ⟨v4, hb, hR⟩ := xB_some hL
  obtain ⟨hz, hb2⟩ := xBool_some hb
  clear hL
  subst hz
  obtain rfl := Option.some.inj hR
  exact g_zret rfl (narrow_bool hb2) dX2_part_120
def J_X2_part_43 (rec : Int32 → wS → Option (Int32 × wS)) (o : wO) (y0 : Int32) (w : wS) : Option (Int32 × wS) :=
  xB (xBool (y0)) fun v5 => some (v5, w)
set_option maxRecDepth 20000 in
theorem J_X2_part_43_ok {G : aG} {Hf : wS → aH} {bx nd : Nat} {o : wO} {rec : Int32 → wS → Option (Int32 × wS)} {y0 : Int32} {w : wS} {r : Int32 × wS} (hG : aGood G) (hX : aTxt G) (E : EX Hf bx o) (hrec : ∀ (a : Int32) (w : wS) (r : Int32 × wS), rec a w = some r → AC G (M_X2_expr nd) [.ref (bx + 1), .int a] (Hf w) (.inl (some (.int r.1)), Hf r.2)) (hL : J_X2_part_43 rec o  y0 w = some r) : AG G (M_X2_part (nd + 1)) 43 [none, none, none] [.int (y0)] (Hf w) (.inl (some (.int r.1)), Hf r.2) := by
  unfold J_X2_part_43 at hL
  obtain ⟨v5, hb, hR⟩ := xB_some hL
  obtain ⟨hz, hb2⟩ := xBool_some hb
  clear hL
  subst hz
  obtain rfl := Option.some.inj hR
  exact g_zret rfl (narrow_bool hb2) dX2_part_43
def J_X2_part_42 (rec : Int32 → wS → Option (Int32 × wS)) (o : wO) (w : wS) : Option (Int32 × wS) :=
  J_X2_part_43 rec o  (0) w
set_option maxRecDepth 20000 in
theorem J_X2_part_42_ok {G : aG} {Hf : wS → aH} {bx nd : Nat} {o : wO} {rec : Int32 → wS → Option (Int32 × wS)} {w : wS} {r : Int32 × wS} (hG : aGood G) (hX : aTxt G) (E : EX Hf bx o) (hrec : ∀ (a : Int32) (w : wS) (r : Int32 × wS), rec a w = some r → AC G (M_X2_expr nd) [.ref (bx + 1), .int a] (Hf w) (.inl (some (.int r.1)), Hf r.2)) (hL : J_X2_part_42 rec o   w = some r) : AG G (M_X2_part (nd + 1)) 42 [none, none, none] [] (Hf w) (.inl (some (.int r.1)), Hf r.2) := by
  unfold J_X2_part_42 at hL
  refine g_iconst (v := 0) dX2_part_42 (by decide) ?_
  exact J_X2_part_43_ok hG hX E hrec hL 
def L_X2_part (rec : Int32 → wS → Option (Int32 × wS)) (o : wO) (a1 : Int32) (w : wS) : Option (Int32 × wS) :=
  xB (xGet w 202) fun v6 => if v6 = 40 then xB (L_X7_advance o  w) fun w26 => xB2 (rec ((a1 + (1 : Int32))) w26) fun v27 w28 => if v27 = 0 then J_X2_part_42 rec o   w28 else xB2 (L_X2_taken o (41) w28) fun v29 w30 => if v29 = 0 then J_X2_part_42 rec o   w30 else J_X2_part_43 rec o  (1) w30 else xB (xGet w 202) fun v7 => if v7 = 48 then xB2 (L_X7_value o  w) fun v19 w20 => if v19 = (-1) then xB2 (L_X2_refuse o (2) w20) fun v21 w22 => xB (xBool (v21)) fun v23 => some (v23, w22) else J_X2_part_108 rec o  (v19) w20 else xB (xGet w 202) fun v8 => if v8 = 97 then xB2 (L_X2_valueTold o  w) fun v12 w13 => if v12 = 0 then xB2 (L_X2_refuse o (3) w13) fun v14 w15 => xB (xBool (v14)) fun v16 => some (v16, w15) else J_X2_part_108 rec o  (v12) w13 else xB2 (L_X2_refuse o (1) w) fun v9 w10 => xB (xBool (v9)) fun v11 => some (v11, w10)
set_option maxRecDepth 20000 in
theorem C_X2_part {G : aG} {Hf : wS → aH} {bx nd : Nat} {o : wO} {rec : Int32 → wS → Option (Int32 × wS)} {a1 : Int32} {w : wS} {r : Int32 × wS} (hG : aGood G) (hX : aTxt G) (E : EX Hf bx o) (hrec : ∀ (a : Int32) (w : wS) (r : Int32 × wS), rec a w = some r → AC G (M_X2_expr nd) [.ref (bx + 1), .int a] (Hf w) (.inl (some (.int r.1)), Hf r.2)) (hL : L_X2_part rec o a1 w = some r) : AC G (M_X2_part (nd + 1)) [.ref (bx + 1), .int a1] (Hf w) (.inl (some (.int r.1)), Hf r.2) := by
  unfold L_X2_part at hL
  refine AC.of (show plainName RX2 = true by decide) rfl (Nat.le_of_ble_eq_true rfl) ?_
  show AG G (M_X2_part (nd + 1)) 0 [some (.ref (bx + 1)), some (.int (a1)), none] [] _ _
  refine g_aload_n dX2_part_0 rfl rfl ?_
  refine s_getR (k := 1) (j := 0) E.1 rfl rfl f_X2_12 dX2_part_1 ?_
  refine s_getI (k := 2) (j := 2) E.1 hL rfl rfl f_X2_50 dX2_part_4 ?_
  intro v6 hL
  refine g_bipush (v := 40) dX2_part_7 (by decide) ?_
  refine g_icmp_ne (tgt := 44) dX2_part_9 (by decide) (fun q33 => ?_) (fun q33 => ?_)
  · rw [if_neg q33] at hL
    refine g_none 1 ?_
    refine g_aload_n dX2_part_44 rfl rfl ?_
    refine s_getR (k := 1) (j := 0) E.1 rfl rfl f_X2_12 dX2_part_45 ?_
    refine s_getI (k := 2) (j := 2) E.1 hL rfl rfl f_X2_50 dX2_part_48 ?_
    intro v7 hL
    refine g_bipush (v := 48) dX2_part_51 (by decide) ?_
    refine g_icmp_ne (tgt := 75) dX2_part_53 (by decide) (fun q25 => ?_) (fun q25 => ?_)
    · rw [if_neg q25] at hL
      refine g_aload_n dX2_part_75 rfl rfl ?_
      refine s_getR (k := 1) (j := 0) E.1 rfl rfl f_X2_12 dX2_part_76 ?_
      refine s_getI (k := 2) (j := 2) E.1 hL rfl rfl f_X2_50 dX2_part_79 ?_
      intro v8 hL
      refine g_bipush (v := 97) dX2_part_82 (by decide) ?_
      refine g_icmp_ne (tgt := 102) dX2_part_84 (by decide) (fun q18 => ?_) (fun q18 => ?_)
      · rw [if_neg q18] at hL
        refine g_aload_n dX2_part_102 rfl rfl ?_
        refine g_none 0 ?_
        refine g_iconst (v := 1) dX2_part_103 (by decide) ?_
        obtain ⟨v9, w10, hc, hL⟩ := xB2_some hL
        refine g_callV (M' := M_X2_refuse) (as := [.int (1)]) (v := some (.int (v9))) l_X2_92 kV_X2_refuse (by simp only [mD]; omega) (C_X2_refuse hG hX E hc) rfl (by have := E.1.1; omega) (E.1.2.1 _ 1 _ rfl) ⟨_, _, rfl⟩ (Nat.le_of_ble_eq_true rfl) dX2_part_104 ?_
        obtain ⟨v11, hb, hR⟩ := xB_some hL
        obtain ⟨hz, hb2⟩ := xBool_some hb
        clear hL
        subst hz
        obtain rfl := Option.some.inj hR
        exact g_zret rfl (narrow_bool hb2) dX2_part_107
      · rw [if_pos q18] at hL
        refine g_aload_n dX2_part_87 rfl rfl ?_
        obtain ⟨v12, w13, hc, hL⟩ := xB2_some hL
        refine g_callV (M' := M_X2_valueTold) (as := []) (v := some (.int (v12))) l_X2_181 kV_X2_valueTold (by simp only [mD]; omega) (C_X2_valueTold hG hX E hc) rfl (by have := E.1.1; omega) (E.1.2.1 _ 1 _ rfl) ⟨_, _, rfl⟩ (Nat.le_of_ble_eq_true rfl) dX2_part_88 ?_
        refine g_istore_n (i := 2) dX2_part_91 rfl (Nat.le_of_ble_eq_true rfl) rfl ?_
        refine g_iload_n dX2_part_92 rfl rfl ?_
        refine g_if_ne (tgt := 108) dX2_part_93 (by decide) (fun q17 => ?_) (fun q17 => ?_)
        · rw [if_neg q17] at hL
          exact J_X2_part_108_ok hG hX E hrec hL 
        · rw [if_pos q17] at hL
          refine g_none 2 ?_
          refine g_aload_n dX2_part_96 rfl rfl ?_
          refine g_none 0 ?_
          refine g_iconst (v := 3) dX2_part_97 (by decide) ?_
          obtain ⟨v14, w15, hc, hL⟩ := xB2_some hL
          refine g_callV (M' := M_X2_refuse) (as := [.int (3)]) (v := some (.int (v14))) l_X2_92 kV_X2_refuse (by simp only [mD]; omega) (C_X2_refuse hG hX E hc) rfl (by have := E.1.1; omega) (E.1.2.1 _ 1 _ rfl) ⟨_, _, rfl⟩ (Nat.le_of_ble_eq_true rfl) dX2_part_98 ?_
          obtain ⟨v16, hb, hR⟩ := xB_some hL
          obtain ⟨hz, hb2⟩ := xBool_some hb
          clear hL
          subst hz
          obtain rfl := Option.some.inj hR
          exact g_zret rfl (narrow_bool hb2) dX2_part_101
    · rw [if_pos q25] at hL
      refine g_aload_n dX2_part_56 rfl rfl ?_
      refine s_getR (k := 1) (j := 0) E.1 rfl rfl f_X2_12 dX2_part_57 ?_
      obtain ⟨v19, w20, hc, hL⟩ := xB2_some hL
      refine g_callV (M' := M_X7_value) (as := []) (v := some (.int (v19))) l_X2_131 kV_X7_value (by simp only [mD]; omega) (C_X7_value hG hX E hc) rfl (by have := E.1.1; omega) (E.1.2.1 _ 2 _ rfl) ⟨_, _, rfl⟩ (Nat.le_of_ble_eq_true rfl) dX2_part_60 ?_
      refine g_istore_n (i := 2) dX2_part_63 rfl (Nat.le_of_ble_eq_true rfl) rfl ?_
      refine g_iload_n dX2_part_64 rfl rfl ?_
      refine g_iconst (v := (-1)) dX2_part_65 (by decide) ?_
      refine g_icmp_ne (tgt := 108) dX2_part_66 (by decide) (fun q24 => ?_) (fun q24 => ?_)
      · rw [if_neg q24] at hL
        exact J_X2_part_108_ok hG hX E hrec hL 
      · rw [if_pos q24] at hL
        refine g_none 2 ?_
        refine g_aload_n dX2_part_69 rfl rfl ?_
        refine g_none 0 ?_
        refine g_iconst (v := 2) dX2_part_70 (by decide) ?_
        obtain ⟨v21, w22, hc, hL⟩ := xB2_some hL
        refine g_callV (M' := M_X2_refuse) (as := [.int (2)]) (v := some (.int (v21))) l_X2_92 kV_X2_refuse (by simp only [mD]; omega) (C_X2_refuse hG hX E hc) rfl (by have := E.1.1; omega) (E.1.2.1 _ 1 _ rfl) ⟨_, _, rfl⟩ (Nat.le_of_ble_eq_true rfl) dX2_part_71 ?_
        obtain ⟨v23, hb, hR⟩ := xB_some hL
        obtain ⟨hz, hb2⟩ := xBool_some hb
        clear hL
        subst hz
        obtain rfl := Option.some.inj hR
        exact g_zret rfl (narrow_bool hb2) dX2_part_74
  · rw [if_pos q33] at hL
    refine g_aload_n dX2_part_12 rfl rfl ?_
    refine s_getR (k := 1) (j := 0) E.1 rfl rfl f_X2_12 dX2_part_13 ?_
    obtain ⟨w26, hc, hL⟩ := xB_some hL
    refine g_callV (M' := M_X7_advance) (as := []) (v := none) l_X2_99 kV_X7_advance (by simp only [mD]; omega) (C_X7_advance hG hX E hc) rfl (by have := E.1.1; omega) (E.1.2.1 _ 2 _ rfl) ⟨_, _, rfl⟩ (Nat.le_of_ble_eq_true rfl) dX2_part_16 ?_
    refine g_aload_n dX2_part_19 rfl rfl ?_
    refine g_iload_n dX2_part_20 rfl rfl ?_
    refine g_none 1 ?_
    refine g_iconst (v := 1) dX2_part_21 (by decide) ?_
    refine g_iadd dX2_part_22 ?_
    obtain ⟨v27, w28, hc, hL⟩ := xB2_some hL
    refine g_callV (M' := (M_X2_expr nd)) (as := [.int ((a1 + (1 : Int32)))]) (v := some (.int v27)) l_X2_140 (kV_X2_expr nd) (by simp only [mD]; omega) (hrec _ _ _ hc) rfl (by have := E.1.1; omega) (E.1.2.1 _ 1 _ rfl) ⟨_, _, rfl⟩ (Nat.le_of_ble_eq_true rfl) dX2_part_23 ?_
    refine g_if_eq (tgt := 42) dX2_part_26 (by decide) (fun q32 => ?_) (fun q32 => ?_)
    · rw [if_pos q32] at hL
      refine g_none 0 ?_
      exact J_X2_part_42_ok hG hX E hrec hL 
    · rw [if_neg q32] at hL
      refine g_aload_n dX2_part_29 rfl rfl ?_
      refine g_none 0 ?_
      refine g_bipush (v := 41) dX2_part_30 (by decide) ?_
      obtain ⟨v29, w30, hc, hL⟩ := xB2_some hL
      refine g_callV (M' := M_X2_taken) (as := [.int (41)]) (v := some (.int (v29))) l_X2_95 kV_X2_taken (by simp only [mD]; omega) (C_X2_taken hG hX E hc) rfl (by have := E.1.1; omega) (E.1.2.1 _ 1 _ rfl) ⟨_, _, rfl⟩ (Nat.le_of_ble_eq_true rfl) dX2_part_32 ?_
      refine g_if_eq (tgt := 42) dX2_part_35 (by decide) (fun q31 => ?_) (fun q31 => ?_)
      · rw [if_pos q31] at hL
        exact J_X2_part_42_ok hG hX E hrec hL 
      · rw [if_neg q31] at hL
        refine g_iconst (v := 1) dX2_part_38 (by decide) ?_
        refine g_goto (tgt := 43) dX2_part_39 (by decide) ?_
        exact J_X2_part_43_ok hG hX E hrec hL 
def J_X2_product_89 (rec : Int32 → wS → Option (Int32 × wS)) (o : wO) (x2 : Int32) (w : wS) : Option (Int32 × wS) :=
  xB (xBool (x2)) fun v1 => some (v1, w)
set_option maxRecDepth 20000 in
theorem J_X2_product_89_ok {G : aG} {Hf : wS → aH} {bx nd : Nat} {o : wO} {rec : Int32 → wS → Option (Int32 × wS)} {x2 : Int32} {w : wS} {r : Int32 × wS} (hG : aGood G) (hX : aTxt G) (E : EX Hf bx o) (hrec : ∀ (a : Int32) (w : wS) (r : Int32 × wS), rec a w = some r → AC G (M_X2_expr nd) [.ref (bx + 1), .int a] (Hf w) (.inl (some (.int r.1)), Hf r.2)) (hL : J_X2_product_89 rec o  x2 w = some r) : AG G (M_X2_product (nd + 1)) 89 [none, none, some (.int (x2)), none, none] [] (Hf w) (.inl (some (.int r.1)), Hf r.2) := by
  unfold J_X2_product_89 at hL
  refine g_iload_n dX2_product_89 rfl rfl ?_
  refine g_none 2 ?_
  obtain ⟨v1, hb, hR⟩ := xB_some hL
  obtain ⟨hz, hb2⟩ := xBool_some hb
  clear hL
  subst hz
  obtain rfl := Option.some.inj hR
  exact g_zret rfl (narrow_bool hb2) dX2_product_90
def J_X2_product_82 (rec : Int32 → wS → Option (Int32 × wS)) (o : wO) (kh8 : Int32 → Int32 → Int32 → wS → Option (Int32 × wS)) (ke89 : Int32 → wS → Option (Int32 × wS)) (x1 : Int32) (x3 : Int32) (y0 : Int32) (w : wS) : Option (Int32 × wS) :=
  kh8 (x1) (y0) ((x3 + 1)) w
set_option maxRecDepth 20000 in
theorem J_X2_product_82_ok {G : aG} {Hf : wS → aH} {bx nd : Nat} {o : wO} {rec : Int32 → wS → Option (Int32 × wS)} {kh8 : Int32 → Int32 → Int32 → wS → Option (Int32 × wS)} {ke89 : Int32 → wS → Option (Int32 × wS)} {x1 : Int32} {x3 : Int32} {y0 : Int32} {w : wS} {r : Int32 × wS} (hG : aGood G) (hX : aTxt G) (E : EX Hf bx o) (hrec : ∀ (a : Int32) (w : wS) (r : Int32 × wS), rec a w = some r → AC G (M_X2_expr nd) [.ref (bx + 1), .int a] (Hf w) (.inl (some (.int r.1)), Hf r.2)) (hL : J_X2_product_82 rec o kh8 ke89 x1 x3 y0 w = some r) (Hkh8 : ∀ (z0 : Int32) (z1 : Int32) (z2 : Int32) (w : wS), kh8 z0 z1 z2 w = some r → AG G (M_X2_product (nd + 1)) 8 [some (.ref (bx + 1)), some (.int (z0)), some (.int (z1)), some (.int (z2)), none] [] (Hf w) (.inl (some (.int r.1)), Hf r.2)) (Hke89 : ∀ (z0 : Int32) (w : wS), ke89 z0 w = some r → AG G (M_X2_product (nd + 1)) 89 [none, none, some (.int (z0)), none, none] [] (Hf w) (.inl (some (.int r.1)), Hf r.2)) : AG G (M_X2_product (nd + 1)) 82 [some (.ref (bx + 1)), some (.int (x1)), none, some (.int (x3)), none] [.int (y0)] (Hf w) (.inl (some (.int r.1)), Hf r.2) := by
  unfold J_X2_product_82 at hL
  refine g_istore_n (i := 2) dX2_product_82 rfl (Nat.le_of_ble_eq_true rfl) rfl ?_
  refine g_iincV (v := (x3 + 1)) dX2_product_83 rfl rfl (Nat.le_of_ble_eq_true rfl) rfl ?_
  refine g_goto (tgt := 8) dX2_product_86 (by decide) ?_
  exact Hkh8 _ _ _ _ hL
def J_X2_product_81 (rec : Int32 → wS → Option (Int32 × wS)) (o : wO) (kh8 : Int32 → Int32 → Int32 → wS → Option (Int32 × wS)) (ke89 : Int32 → wS → Option (Int32 × wS)) (x1 : Int32) (x3 : Int32) (w : wS) : Option (Int32 × wS) :=
  J_X2_product_82 rec o kh8 ke89 (x1) (x3) (0) w
set_option maxRecDepth 20000 in
theorem J_X2_product_81_ok {G : aG} {Hf : wS → aH} {bx nd : Nat} {o : wO} {rec : Int32 → wS → Option (Int32 × wS)} {kh8 : Int32 → Int32 → Int32 → wS → Option (Int32 × wS)} {ke89 : Int32 → wS → Option (Int32 × wS)} {x1 : Int32} {x3 : Int32} {w : wS} {r : Int32 × wS} (hG : aGood G) (hX : aTxt G) (E : EX Hf bx o) (hrec : ∀ (a : Int32) (w : wS) (r : Int32 × wS), rec a w = some r → AC G (M_X2_expr nd) [.ref (bx + 1), .int a] (Hf w) (.inl (some (.int r.1)), Hf r.2)) (hL : J_X2_product_81 rec o kh8 ke89 x1 x3 w = some r) (Hkh8 : ∀ (z0 : Int32) (z1 : Int32) (z2 : Int32) (w : wS), kh8 z0 z1 z2 w = some r → AG G (M_X2_product (nd + 1)) 8 [some (.ref (bx + 1)), some (.int (z0)), some (.int (z1)), some (.int (z2)), none] [] (Hf w) (.inl (some (.int r.1)), Hf r.2)) (Hke89 : ∀ (z0 : Int32) (w : wS), ke89 z0 w = some r → AG G (M_X2_product (nd + 1)) 89 [none, none, some (.int (z0)), none, none] [] (Hf w) (.inl (some (.int r.1)), Hf r.2)) : AG G (M_X2_product (nd + 1)) 81 [some (.ref (bx + 1)), some (.int (x1)), none, some (.int (x3)), none] [] (Hf w) (.inl (some (.int r.1)), Hf r.2) := by
  unfold J_X2_product_81 at hL
  refine g_iconst (v := 0) dX2_product_81 (by decide) ?_
  exact J_X2_product_82_ok hG hX E hrec hL Hkh8 Hke89
def J_X2_product_43 (rec : Int32 → wS → Option (Int32 × wS)) (o : wO) (kh8 : Int32 → Int32 → Int32 → wS → Option (Int32 × wS)) (ke89 : Int32 → wS → Option (Int32 × wS)) (x1 : Int32) (x3 : Int32) (w : wS) : Option (Int32 × wS) :=
  xB (xGet w 202) fun v2 => xB (L_X7_advance o  w) fun w3 => xB2 (L_X2_part rec o (x1) w3) fun v4 w5 => if v4 = 0 then J_X2_product_81 rec o kh8 ke89 (x1) (x3) w5 else xB2 (L_X2_emit o ((-v2)) w5) fun v6 w7 => if v6 = 0 then J_X2_product_81 rec o kh8 ke89 (x1) (x3) w7 else J_X2_product_82 rec o kh8 ke89 (x1) (x3) (1) w7
set_option maxRecDepth 20000 in
theorem J_X2_product_43_ok {G : aG} {Hf : wS → aH} {bx nd : Nat} {o : wO} {rec : Int32 → wS → Option (Int32 × wS)} {kh8 : Int32 → Int32 → Int32 → wS → Option (Int32 × wS)} {ke89 : Int32 → wS → Option (Int32 × wS)} {x1 : Int32} {x3 : Int32} {w : wS} {r : Int32 × wS} (hG : aGood G) (hX : aTxt G) (E : EX Hf bx o) (hrec : ∀ (a : Int32) (w : wS) (r : Int32 × wS), rec a w = some r → AC G (M_X2_expr nd) [.ref (bx + 1), .int a] (Hf w) (.inl (some (.int r.1)), Hf r.2)) (hL : J_X2_product_43 rec o kh8 ke89 x1 x3 w = some r) (Hkh8 : ∀ (z0 : Int32) (z1 : Int32) (z2 : Int32) (w : wS), kh8 z0 z1 z2 w = some r → AG G (M_X2_product (nd + 1)) 8 [some (.ref (bx + 1)), some (.int (z0)), some (.int (z1)), some (.int (z2)), none] [] (Hf w) (.inl (some (.int r.1)), Hf r.2)) (Hke89 : ∀ (z0 : Int32) (w : wS), ke89 z0 w = some r → AG G (M_X2_product (nd + 1)) 89 [none, none, some (.int (z0)), none, none] [] (Hf w) (.inl (some (.int r.1)), Hf r.2)) : AG G (M_X2_product (nd + 1)) 43 [some (.ref (bx + 1)), some (.int (x1)), none, some (.int (x3)), none] [] (Hf w) (.inl (some (.int r.1)), Hf r.2) := by
  unfold J_X2_product_43 at hL
  refine g_aload_n dX2_product_43 rfl rfl ?_
  refine s_getR (k := 1) (j := 0) E.1 rfl rfl f_X2_12 dX2_product_44 ?_
  refine s_getI (k := 2) (j := 2) E.1 hL rfl rfl f_X2_50 dX2_product_47 ?_
  intro v2 hL
  refine g_istore (i := 4) dX2_product_50 (Nat.le_of_ble_eq_true rfl) rfl ?_
  refine g_aload_n dX2_product_52 rfl rfl ?_
  refine s_getR (k := 1) (j := 0) E.1 rfl rfl f_X2_12 dX2_product_53 ?_
  obtain ⟨w3, hc, hL⟩ := xB_some hL
  refine g_callV (M' := M_X7_advance) (as := []) (v := none) l_X2_99 kV_X7_advance (by simp only [mD]; omega) (C_X7_advance hG hX E hc) rfl (by have := E.1.1; omega) (E.1.2.1 _ 2 _ rfl) ⟨_, _, rfl⟩ (Nat.le_of_ble_eq_true rfl) dX2_product_56 ?_
  refine g_aload_n dX2_product_59 rfl rfl ?_
  refine g_iload_n dX2_product_60 rfl rfl ?_
  obtain ⟨v4, w5, hc, hL⟩ := xB2_some hL
  refine g_callV (M' := (M_X2_part (nd + 1))) (as := [.int (x1)]) (v := some (.int v4)) l_X2_178 (kV_X2_part (nd + 1)) (by simp only [mD]; omega) (C_X2_part hG hX E hrec hc) rfl (by have := E.1.1; omega) (E.1.2.1 _ 1 _ rfl) ⟨_, _, rfl⟩ (Nat.le_of_ble_eq_true rfl) dX2_product_61 ?_
  refine g_if_eq (tgt := 81) dX2_product_64 (by decide) (fun q9 => ?_) (fun q9 => ?_)
  · rw [if_pos q9] at hL
    refine g_none 4 ?_
    exact J_X2_product_81_ok hG hX E hrec hL Hkh8 Hke89
  · rw [if_neg q9] at hL
    refine g_aload_n dX2_product_67 rfl rfl ?_
    refine g_iload dX2_product_68 rfl ?_
    refine g_none 4 ?_
    refine g_ineg dX2_product_70 ?_
    obtain ⟨v6, w7, hc, hL⟩ := xB2_some hL
    refine g_callV (M' := M_X2_emit) (as := [.int ((-v2))]) (v := some (.int (v6))) l_X2_159 kV_X2_emit (by simp only [mD]; omega) (C_X2_emit hG hX E hc) rfl (by have := E.1.1; omega) (E.1.2.1 _ 1 _ rfl) ⟨_, _, rfl⟩ (Nat.le_of_ble_eq_true rfl) dX2_product_71 ?_
    refine g_if_eq (tgt := 81) dX2_product_74 (by decide) (fun q8 => ?_) (fun q8 => ?_)
    · rw [if_pos q8] at hL
      exact J_X2_product_81_ok hG hX E hrec hL Hkh8 Hke89
    · rw [if_neg q8] at hL
      refine g_iconst (v := 1) dX2_product_77 (by decide) ?_
      refine g_goto (tgt := 82) dX2_product_78 (by decide) ?_
      exact J_X2_product_82_ok hG hX E hrec hL Hkh8 Hke89
def B_X2_product_8 (rec : Int32 → wS → Option (Int32 × wS)) (o : wO) (kh8 : Int32 → Int32 → Int32 → wS → Option (Int32 × wS)) (ke89 : Int32 → wS → Option (Int32 × wS)) (x1 : Int32) (x2 : Int32) (x3 : Int32) (w : wS) : Option (Int32 × wS) :=
  if 700 ≤ x3 then ke89 (x2) w else if x2 = 0 then ke89 (x2) w else xB (xGet w 202) fun v10 => if v10 = 42 then J_X2_product_43 rec o kh8 ke89 (x1) (x3) w else xB (xGet w 202) fun v11 => if v11 = 47 then J_X2_product_43 rec o kh8 ke89 (x1) (x3) w else ke89 (x2) w
set_option maxRecDepth 20000 in
theorem B_X2_product_8_ok {G : aG} {Hf : wS → aH} {bx nd : Nat} {o : wO} {rec : Int32 → wS → Option (Int32 × wS)} {kh8 : Int32 → Int32 → Int32 → wS → Option (Int32 × wS)} {ke89 : Int32 → wS → Option (Int32 × wS)} {x1 : Int32} {x2 : Int32} {x3 : Int32} {w : wS} {r : Int32 × wS} (hG : aGood G) (hX : aTxt G) (E : EX Hf bx o) (hrec : ∀ (a : Int32) (w : wS) (r : Int32 × wS), rec a w = some r → AC G (M_X2_expr nd) [.ref (bx + 1), .int a] (Hf w) (.inl (some (.int r.1)), Hf r.2)) (hL : B_X2_product_8 rec o kh8 ke89 x1 x2 x3 w = some r) (Hkh8 : ∀ (z0 : Int32) (z1 : Int32) (z2 : Int32) (w : wS), kh8 z0 z1 z2 w = some r → AG G (M_X2_product (nd + 1)) 8 [some (.ref (bx + 1)), some (.int (z0)), some (.int (z1)), some (.int (z2)), none] [] (Hf w) (.inl (some (.int r.1)), Hf r.2)) (Hke89 : ∀ (z0 : Int32) (w : wS), ke89 z0 w = some r → AG G (M_X2_product (nd + 1)) 89 [none, none, some (.int (z0)), none, none] [] (Hf w) (.inl (some (.int r.1)), Hf r.2)) : AG G (M_X2_product (nd + 1)) 8 [some (.ref (bx + 1)), some (.int (x1)), some (.int (x2)), some (.int (x3)), none] [] (Hf w) (.inl (some (.int r.1)), Hf r.2) := by
  unfold B_X2_product_8 at hL
  refine g_iload_n dX2_product_8 rfl rfl ?_
  refine g_sipush (v := 700) dX2_product_9 (by decide) ?_
  refine g_icmp_ge (tgt := 89) dX2_product_12 (by decide) (fun q15 => ?_) (fun q15 => ?_)
  · rw [if_pos q15] at hL
    refine g_none 0 ?_
    refine g_none 1 ?_
    refine g_none 3 ?_
    exact Hke89 _ _ hL
  · rw [if_neg q15] at hL
    refine g_iload_n dX2_product_15 rfl rfl ?_
    refine g_if_eq (tgt := 89) dX2_product_16 (by decide) (fun q14 => ?_) (fun q14 => ?_)
    · rw [if_pos q14] at hL
      refine g_none 0 ?_
      refine g_none 1 ?_
      refine g_none 3 ?_
      exact Hke89 _ _ hL
    · rw [if_neg q14] at hL
      refine g_aload_n dX2_product_19 rfl rfl ?_
      refine s_getR (k := 1) (j := 0) E.1 rfl rfl f_X2_12 dX2_product_20 ?_
      refine s_getI (k := 2) (j := 2) E.1 hL rfl rfl f_X2_50 dX2_product_23 ?_
      intro v10 hL
      refine g_bipush (v := 42) dX2_product_26 (by decide) ?_
      refine g_icmp_eq (tgt := 43) dX2_product_28 (by decide) (fun q13 => ?_) (fun q13 => ?_)
      · rw [if_pos q13] at hL
        refine g_none 2 ?_
        exact J_X2_product_43_ok hG hX E hrec hL Hkh8 Hke89
      · rw [if_neg q13] at hL
        refine g_aload_n dX2_product_31 rfl rfl ?_
        refine s_getR (k := 1) (j := 0) E.1 rfl rfl f_X2_12 dX2_product_32 ?_
        refine s_getI (k := 2) (j := 2) E.1 hL rfl rfl f_X2_50 dX2_product_35 ?_
        intro v11 hL
        refine g_bipush (v := 47) dX2_product_38 (by decide) ?_
        refine g_icmp_ne (tgt := 89) dX2_product_40 (by decide) (fun q12 => ?_) (fun q12 => ?_)
        · rw [if_neg q12] at hL
          refine g_none 0 ?_
          refine g_none 1 ?_
          refine g_none 3 ?_
          exact Hke89 _ _ hL
        · rw [if_pos q12] at hL
          refine g_none 2 ?_
          exact J_X2_product_43_ok hG hX E hrec hL Hkh8 Hke89
def P_X2_product_8 (rec : Int32 → wS → Option (Int32 × wS)) (o : wO) (ke89 : Int32 → wS → Option (Int32 × wS)) (n : Nat) (x1 : Int32) (x2 : Int32) (x3 : Int32) (w : wS) : Option (Int32 × wS) :=
  xLoop (fun (kk : Int32 × Int32 × Int32 × wS → Option (Int32 × wS)) σ => B_X2_product_8 rec o (fun x1 x2 x3 w => kk (x1, x2, x3, w)) ke89 (σ.1) (σ.2.1) (σ.2.2.1) (σ.2.2.2)) n (x1, x2, x3, w)
theorem P_X2_product_8_ok {G : aG} {Hf : wS → aH} {bx nd : Nat} {o : wO} {rec : Int32 → wS → Option (Int32 × wS)} {ke89 : Int32 → wS → Option (Int32 × wS)} {n : Nat} {x1 : Int32} {x2 : Int32} {x3 : Int32} {w : wS} {r : Int32 × wS} (hG : aGood G) (hX : aTxt G) (E : EX Hf bx o) (hrec : ∀ (a : Int32) (w : wS) (r : Int32 × wS), rec a w = some r → AC G (M_X2_expr nd) [.ref (bx + 1), .int a] (Hf w) (.inl (some (.int r.1)), Hf r.2)) (hL : P_X2_product_8 rec o ke89 n x1 x2 x3 w = some r) (Hke89 : ∀ (z0 : Int32) (w : wS), ke89 z0 w = some r → AG G (M_X2_product (nd + 1)) 89 [none, none, some (.int (z0)), none, none] [] (Hf w) (.inl (some (.int r.1)), Hf r.2)) : AG G (M_X2_product (nd + 1)) 8 [some (.ref (bx + 1)), some (.int (x1)), some (.int (x2)), some (.int (x3)), none] [] (Hf w) (.inl (some (.int r.1)), Hf r.2) :=
  xLoop_ok (Q := fun (σ : Int32 × Int32 × Int32 × wS) => AG G (M_X2_product (nd + 1)) 8 [some (.ref (bx + 1)), some (.int (σ.1)), some (.int (σ.2.1)), some (.int (σ.2.2.1)), none] [] (Hf σ.2.2.2) (.inl (some (.int r.1)), Hf r.2)) (fun kk hk σ hσ => B_X2_product_8_ok hG hX E hrec hσ (fun x1 x2 x3 w h9 => hk (x1, x2, x3, w) h9) Hke89) n (x1, x2, x3, w) hL
def L_X2_product (rec : Int32 → wS → Option (Int32 × wS)) (o : wO) (a1 : Int32) (w : wS) : Option (Int32 × wS) :=
  xB2 (L_X2_part rec o (a1) w) fun v16 w17 => P_X2_product_8 rec o (fun z18 w19 => J_X2_product_89 rec o  (z18) w19) 5000 (a1) (v16) (0) w17
set_option maxRecDepth 20000 in
theorem C_X2_product {G : aG} {Hf : wS → aH} {bx nd : Nat} {o : wO} {rec : Int32 → wS → Option (Int32 × wS)} {a1 : Int32} {w : wS} {r : Int32 × wS} (hG : aGood G) (hX : aTxt G) (E : EX Hf bx o) (hrec : ∀ (a : Int32) (w : wS) (r : Int32 × wS), rec a w = some r → AC G (M_X2_expr nd) [.ref (bx + 1), .int a] (Hf w) (.inl (some (.int r.1)), Hf r.2)) (hL : L_X2_product rec o a1 w = some r) : AC G (M_X2_product (nd + 1)) [.ref (bx + 1), .int a1] (Hf w) (.inl (some (.int r.1)), Hf r.2) := by
  unfold L_X2_product at hL
  refine AC.of (show plainName RX2 = true by decide) rfl (Nat.le_of_ble_eq_true rfl) ?_
  show AG G (M_X2_product (nd + 1)) 0 [some (.ref (bx + 1)), some (.int (a1)), none, none, none] [] _ _
  refine g_aload_n dX2_product_0 rfl rfl ?_
  refine g_iload_n dX2_product_1 rfl rfl ?_
  obtain ⟨v16, w17, hc, hL⟩ := xB2_some hL
  refine g_callV (M' := (M_X2_part (nd + 1))) (as := [.int (a1)]) (v := some (.int v16)) l_X2_178 (kV_X2_part (nd + 1)) (by simp only [mD]; omega) (C_X2_part hG hX E hrec hc) rfl (by have := E.1.1; omega) (E.1.2.1 _ 1 _ rfl) ⟨_, _, rfl⟩ (Nat.le_of_ble_eq_true rfl) dX2_product_2 ?_
  refine g_istore_n (i := 2) dX2_product_5 rfl (Nat.le_of_ble_eq_true rfl) rfl ?_
  refine g_iconst (v := 0) dX2_product_6 (by decide) ?_
  refine g_istore_n (i := 3) dX2_product_7 rfl (Nat.le_of_ble_eq_true rfl) rfl ?_
  refine P_X2_product_8_ok hG hX E hrec hL ?_
  · intro z18 w19 hL
    exact J_X2_product_89_ok hG hX E hrec hL 
def J_X2_sum_89 (rec : Int32 → wS → Option (Int32 × wS)) (o : wO) (x2 : Int32) (w : wS) : Option (Int32 × wS) :=
  xB (xBool (x2)) fun v1 => some (v1, w)
set_option maxRecDepth 20000 in
theorem J_X2_sum_89_ok {G : aG} {Hf : wS → aH} {bx nd : Nat} {o : wO} {rec : Int32 → wS → Option (Int32 × wS)} {x2 : Int32} {w : wS} {r : Int32 × wS} (hG : aGood G) (hX : aTxt G) (E : EX Hf bx o) (hrec : ∀ (a : Int32) (w : wS) (r : Int32 × wS), rec a w = some r → AC G (M_X2_expr nd) [.ref (bx + 1), .int a] (Hf w) (.inl (some (.int r.1)), Hf r.2)) (hL : J_X2_sum_89 rec o  x2 w = some r) : AG G (M_X2_sum (nd + 1)) 89 [none, none, some (.int (x2)), none, none] [] (Hf w) (.inl (some (.int r.1)), Hf r.2) := by
  unfold J_X2_sum_89 at hL
  refine g_iload_n dX2_sum_89 rfl rfl ?_
  refine g_none 2 ?_
  obtain ⟨v1, hb, hR⟩ := xB_some hL
  obtain ⟨hz, hb2⟩ := xBool_some hb
  clear hL
  subst hz
  obtain rfl := Option.some.inj hR
  exact g_zret rfl (narrow_bool hb2) dX2_sum_90
def J_X2_sum_82 (rec : Int32 → wS → Option (Int32 × wS)) (o : wO) (kh8 : Int32 → Int32 → Int32 → wS → Option (Int32 × wS)) (ke89 : Int32 → wS → Option (Int32 × wS)) (x1 : Int32) (x3 : Int32) (y0 : Int32) (w : wS) : Option (Int32 × wS) :=
  kh8 (x1) (y0) ((x3 + 1)) w
set_option maxRecDepth 20000 in
theorem J_X2_sum_82_ok {G : aG} {Hf : wS → aH} {bx nd : Nat} {o : wO} {rec : Int32 → wS → Option (Int32 × wS)} {kh8 : Int32 → Int32 → Int32 → wS → Option (Int32 × wS)} {ke89 : Int32 → wS → Option (Int32 × wS)} {x1 : Int32} {x3 : Int32} {y0 : Int32} {w : wS} {r : Int32 × wS} (hG : aGood G) (hX : aTxt G) (E : EX Hf bx o) (hrec : ∀ (a : Int32) (w : wS) (r : Int32 × wS), rec a w = some r → AC G (M_X2_expr nd) [.ref (bx + 1), .int a] (Hf w) (.inl (some (.int r.1)), Hf r.2)) (hL : J_X2_sum_82 rec o kh8 ke89 x1 x3 y0 w = some r) (Hkh8 : ∀ (z0 : Int32) (z1 : Int32) (z2 : Int32) (w : wS), kh8 z0 z1 z2 w = some r → AG G (M_X2_sum (nd + 1)) 8 [some (.ref (bx + 1)), some (.int (z0)), some (.int (z1)), some (.int (z2)), none] [] (Hf w) (.inl (some (.int r.1)), Hf r.2)) (Hke89 : ∀ (z0 : Int32) (w : wS), ke89 z0 w = some r → AG G (M_X2_sum (nd + 1)) 89 [none, none, some (.int (z0)), none, none] [] (Hf w) (.inl (some (.int r.1)), Hf r.2)) : AG G (M_X2_sum (nd + 1)) 82 [some (.ref (bx + 1)), some (.int (x1)), none, some (.int (x3)), none] [.int (y0)] (Hf w) (.inl (some (.int r.1)), Hf r.2) := by
  unfold J_X2_sum_82 at hL
  refine g_istore_n (i := 2) dX2_sum_82 rfl (Nat.le_of_ble_eq_true rfl) rfl ?_
  refine g_iincV (v := (x3 + 1)) dX2_sum_83 rfl rfl (Nat.le_of_ble_eq_true rfl) rfl ?_
  refine g_goto (tgt := 8) dX2_sum_86 (by decide) ?_
  exact Hkh8 _ _ _ _ hL
def J_X2_sum_81 (rec : Int32 → wS → Option (Int32 × wS)) (o : wO) (kh8 : Int32 → Int32 → Int32 → wS → Option (Int32 × wS)) (ke89 : Int32 → wS → Option (Int32 × wS)) (x1 : Int32) (x3 : Int32) (w : wS) : Option (Int32 × wS) :=
  J_X2_sum_82 rec o kh8 ke89 (x1) (x3) (0) w
set_option maxRecDepth 20000 in
theorem J_X2_sum_81_ok {G : aG} {Hf : wS → aH} {bx nd : Nat} {o : wO} {rec : Int32 → wS → Option (Int32 × wS)} {kh8 : Int32 → Int32 → Int32 → wS → Option (Int32 × wS)} {ke89 : Int32 → wS → Option (Int32 × wS)} {x1 : Int32} {x3 : Int32} {w : wS} {r : Int32 × wS} (hG : aGood G) (hX : aTxt G) (E : EX Hf bx o) (hrec : ∀ (a : Int32) (w : wS) (r : Int32 × wS), rec a w = some r → AC G (M_X2_expr nd) [.ref (bx + 1), .int a] (Hf w) (.inl (some (.int r.1)), Hf r.2)) (hL : J_X2_sum_81 rec o kh8 ke89 x1 x3 w = some r) (Hkh8 : ∀ (z0 : Int32) (z1 : Int32) (z2 : Int32) (w : wS), kh8 z0 z1 z2 w = some r → AG G (M_X2_sum (nd + 1)) 8 [some (.ref (bx + 1)), some (.int (z0)), some (.int (z1)), some (.int (z2)), none] [] (Hf w) (.inl (some (.int r.1)), Hf r.2)) (Hke89 : ∀ (z0 : Int32) (w : wS), ke89 z0 w = some r → AG G (M_X2_sum (nd + 1)) 89 [none, none, some (.int (z0)), none, none] [] (Hf w) (.inl (some (.int r.1)), Hf r.2)) : AG G (M_X2_sum (nd + 1)) 81 [some (.ref (bx + 1)), some (.int (x1)), none, some (.int (x3)), none] [] (Hf w) (.inl (some (.int r.1)), Hf r.2) := by
  unfold J_X2_sum_81 at hL
  refine g_iconst (v := 0) dX2_sum_81 (by decide) ?_
  exact J_X2_sum_82_ok hG hX E hrec hL Hkh8 Hke89
def J_X2_sum_43 (rec : Int32 → wS → Option (Int32 × wS)) (o : wO) (kh8 : Int32 → Int32 → Int32 → wS → Option (Int32 × wS)) (ke89 : Int32 → wS → Option (Int32 × wS)) (x1 : Int32) (x3 : Int32) (w : wS) : Option (Int32 × wS) :=
  xB (xGet w 202) fun v2 => xB (L_X7_advance o  w) fun w3 => xB2 (L_X2_product rec o (x1) w3) fun v4 w5 => if v4 = 0 then J_X2_sum_81 rec o kh8 ke89 (x1) (x3) w5 else xB2 (L_X2_emit o ((-v2)) w5) fun v6 w7 => if v6 = 0 then J_X2_sum_81 rec o kh8 ke89 (x1) (x3) w7 else J_X2_sum_82 rec o kh8 ke89 (x1) (x3) (1) w7
set_option maxRecDepth 20000 in
theorem J_X2_sum_43_ok {G : aG} {Hf : wS → aH} {bx nd : Nat} {o : wO} {rec : Int32 → wS → Option (Int32 × wS)} {kh8 : Int32 → Int32 → Int32 → wS → Option (Int32 × wS)} {ke89 : Int32 → wS → Option (Int32 × wS)} {x1 : Int32} {x3 : Int32} {w : wS} {r : Int32 × wS} (hG : aGood G) (hX : aTxt G) (E : EX Hf bx o) (hrec : ∀ (a : Int32) (w : wS) (r : Int32 × wS), rec a w = some r → AC G (M_X2_expr nd) [.ref (bx + 1), .int a] (Hf w) (.inl (some (.int r.1)), Hf r.2)) (hL : J_X2_sum_43 rec o kh8 ke89 x1 x3 w = some r) (Hkh8 : ∀ (z0 : Int32) (z1 : Int32) (z2 : Int32) (w : wS), kh8 z0 z1 z2 w = some r → AG G (M_X2_sum (nd + 1)) 8 [some (.ref (bx + 1)), some (.int (z0)), some (.int (z1)), some (.int (z2)), none] [] (Hf w) (.inl (some (.int r.1)), Hf r.2)) (Hke89 : ∀ (z0 : Int32) (w : wS), ke89 z0 w = some r → AG G (M_X2_sum (nd + 1)) 89 [none, none, some (.int (z0)), none, none] [] (Hf w) (.inl (some (.int r.1)), Hf r.2)) : AG G (M_X2_sum (nd + 1)) 43 [some (.ref (bx + 1)), some (.int (x1)), none, some (.int (x3)), none] [] (Hf w) (.inl (some (.int r.1)), Hf r.2) := by
  unfold J_X2_sum_43 at hL
  refine g_aload_n dX2_sum_43 rfl rfl ?_
  refine s_getR (k := 1) (j := 0) E.1 rfl rfl f_X2_12 dX2_sum_44 ?_
  refine s_getI (k := 2) (j := 2) E.1 hL rfl rfl f_X2_50 dX2_sum_47 ?_
  intro v2 hL
  refine g_istore (i := 4) dX2_sum_50 (Nat.le_of_ble_eq_true rfl) rfl ?_
  refine g_aload_n dX2_sum_52 rfl rfl ?_
  refine s_getR (k := 1) (j := 0) E.1 rfl rfl f_X2_12 dX2_sum_53 ?_
  obtain ⟨w3, hc, hL⟩ := xB_some hL
  refine g_callV (M' := M_X7_advance) (as := []) (v := none) l_X2_99 kV_X7_advance (by simp only [mD]; omega) (C_X7_advance hG hX E hc) rfl (by have := E.1.1; omega) (E.1.2.1 _ 2 _ rfl) ⟨_, _, rfl⟩ (Nat.le_of_ble_eq_true rfl) dX2_sum_56 ?_
  refine g_aload_n dX2_sum_59 rfl rfl ?_
  refine g_iload_n dX2_sum_60 rfl rfl ?_
  obtain ⟨v4, w5, hc, hL⟩ := xB2_some hL
  refine g_callV (M' := (M_X2_product (nd + 1))) (as := [.int (x1)]) (v := some (.int v4)) l_X2_175 (kV_X2_product (nd + 1)) (by simp only [mD]; omega) (C_X2_product hG hX E hrec hc) rfl (by have := E.1.1; omega) (E.1.2.1 _ 1 _ rfl) ⟨_, _, rfl⟩ (Nat.le_of_ble_eq_true rfl) dX2_sum_61 ?_
  refine g_if_eq (tgt := 81) dX2_sum_64 (by decide) (fun q9 => ?_) (fun q9 => ?_)
  · rw [if_pos q9] at hL
    refine g_none 4 ?_
    exact J_X2_sum_81_ok hG hX E hrec hL Hkh8 Hke89
  · rw [if_neg q9] at hL
    refine g_aload_n dX2_sum_67 rfl rfl ?_
    refine g_iload dX2_sum_68 rfl ?_
    refine g_none 4 ?_
    refine g_ineg dX2_sum_70 ?_
    obtain ⟨v6, w7, hc, hL⟩ := xB2_some hL
    refine g_callV (M' := M_X2_emit) (as := [.int ((-v2))]) (v := some (.int (v6))) l_X2_159 kV_X2_emit (by simp only [mD]; omega) (C_X2_emit hG hX E hc) rfl (by have := E.1.1; omega) (E.1.2.1 _ 1 _ rfl) ⟨_, _, rfl⟩ (Nat.le_of_ble_eq_true rfl) dX2_sum_71 ?_
    refine g_if_eq (tgt := 81) dX2_sum_74 (by decide) (fun q8 => ?_) (fun q8 => ?_)
    · rw [if_pos q8] at hL
      exact J_X2_sum_81_ok hG hX E hrec hL Hkh8 Hke89
    · rw [if_neg q8] at hL
      refine g_iconst (v := 1) dX2_sum_77 (by decide) ?_
      refine g_goto (tgt := 82) dX2_sum_78 (by decide) ?_
      exact J_X2_sum_82_ok hG hX E hrec hL Hkh8 Hke89
def B_X2_sum_8 (rec : Int32 → wS → Option (Int32 × wS)) (o : wO) (kh8 : Int32 → Int32 → Int32 → wS → Option (Int32 × wS)) (ke89 : Int32 → wS → Option (Int32 × wS)) (x1 : Int32) (x2 : Int32) (x3 : Int32) (w : wS) : Option (Int32 × wS) :=
  if 700 ≤ x3 then ke89 (x2) w else if x2 = 0 then ke89 (x2) w else xB (xGet w 202) fun v10 => if v10 = 43 then J_X2_sum_43 rec o kh8 ke89 (x1) (x3) w else xB (xGet w 202) fun v11 => if v11 = 45 then J_X2_sum_43 rec o kh8 ke89 (x1) (x3) w else ke89 (x2) w
set_option maxRecDepth 20000 in
theorem B_X2_sum_8_ok {G : aG} {Hf : wS → aH} {bx nd : Nat} {o : wO} {rec : Int32 → wS → Option (Int32 × wS)} {kh8 : Int32 → Int32 → Int32 → wS → Option (Int32 × wS)} {ke89 : Int32 → wS → Option (Int32 × wS)} {x1 : Int32} {x2 : Int32} {x3 : Int32} {w : wS} {r : Int32 × wS} (hG : aGood G) (hX : aTxt G) (E : EX Hf bx o) (hrec : ∀ (a : Int32) (w : wS) (r : Int32 × wS), rec a w = some r → AC G (M_X2_expr nd) [.ref (bx + 1), .int a] (Hf w) (.inl (some (.int r.1)), Hf r.2)) (hL : B_X2_sum_8 rec o kh8 ke89 x1 x2 x3 w = some r) (Hkh8 : ∀ (z0 : Int32) (z1 : Int32) (z2 : Int32) (w : wS), kh8 z0 z1 z2 w = some r → AG G (M_X2_sum (nd + 1)) 8 [some (.ref (bx + 1)), some (.int (z0)), some (.int (z1)), some (.int (z2)), none] [] (Hf w) (.inl (some (.int r.1)), Hf r.2)) (Hke89 : ∀ (z0 : Int32) (w : wS), ke89 z0 w = some r → AG G (M_X2_sum (nd + 1)) 89 [none, none, some (.int (z0)), none, none] [] (Hf w) (.inl (some (.int r.1)), Hf r.2)) : AG G (M_X2_sum (nd + 1)) 8 [some (.ref (bx + 1)), some (.int (x1)), some (.int (x2)), some (.int (x3)), none] [] (Hf w) (.inl (some (.int r.1)), Hf r.2) := by
  unfold B_X2_sum_8 at hL
  refine g_iload_n dX2_sum_8 rfl rfl ?_
  refine g_sipush (v := 700) dX2_sum_9 (by decide) ?_
  refine g_icmp_ge (tgt := 89) dX2_sum_12 (by decide) (fun q15 => ?_) (fun q15 => ?_)
  · rw [if_pos q15] at hL
    refine g_none 0 ?_
    refine g_none 1 ?_
    refine g_none 3 ?_
    exact Hke89 _ _ hL
  · rw [if_neg q15] at hL
    refine g_iload_n dX2_sum_15 rfl rfl ?_
    refine g_if_eq (tgt := 89) dX2_sum_16 (by decide) (fun q14 => ?_) (fun q14 => ?_)
    · rw [if_pos q14] at hL
      refine g_none 0 ?_
      refine g_none 1 ?_
      refine g_none 3 ?_
      exact Hke89 _ _ hL
    · rw [if_neg q14] at hL
      refine g_aload_n dX2_sum_19 rfl rfl ?_
      refine s_getR (k := 1) (j := 0) E.1 rfl rfl f_X2_12 dX2_sum_20 ?_
      refine s_getI (k := 2) (j := 2) E.1 hL rfl rfl f_X2_50 dX2_sum_23 ?_
      intro v10 hL
      refine g_bipush (v := 43) dX2_sum_26 (by decide) ?_
      refine g_icmp_eq (tgt := 43) dX2_sum_28 (by decide) (fun q13 => ?_) (fun q13 => ?_)
      · rw [if_pos q13] at hL
        refine g_none 2 ?_
        exact J_X2_sum_43_ok hG hX E hrec hL Hkh8 Hke89
      · rw [if_neg q13] at hL
        refine g_aload_n dX2_sum_31 rfl rfl ?_
        refine s_getR (k := 1) (j := 0) E.1 rfl rfl f_X2_12 dX2_sum_32 ?_
        refine s_getI (k := 2) (j := 2) E.1 hL rfl rfl f_X2_50 dX2_sum_35 ?_
        intro v11 hL
        refine g_bipush (v := 45) dX2_sum_38 (by decide) ?_
        refine g_icmp_ne (tgt := 89) dX2_sum_40 (by decide) (fun q12 => ?_) (fun q12 => ?_)
        · rw [if_neg q12] at hL
          refine g_none 0 ?_
          refine g_none 1 ?_
          refine g_none 3 ?_
          exact Hke89 _ _ hL
        · rw [if_pos q12] at hL
          refine g_none 2 ?_
          exact J_X2_sum_43_ok hG hX E hrec hL Hkh8 Hke89
def P_X2_sum_8 (rec : Int32 → wS → Option (Int32 × wS)) (o : wO) (ke89 : Int32 → wS → Option (Int32 × wS)) (n : Nat) (x1 : Int32) (x2 : Int32) (x3 : Int32) (w : wS) : Option (Int32 × wS) :=
  xLoop (fun (kk : Int32 × Int32 × Int32 × wS → Option (Int32 × wS)) σ => B_X2_sum_8 rec o (fun x1 x2 x3 w => kk (x1, x2, x3, w)) ke89 (σ.1) (σ.2.1) (σ.2.2.1) (σ.2.2.2)) n (x1, x2, x3, w)
theorem P_X2_sum_8_ok {G : aG} {Hf : wS → aH} {bx nd : Nat} {o : wO} {rec : Int32 → wS → Option (Int32 × wS)} {ke89 : Int32 → wS → Option (Int32 × wS)} {n : Nat} {x1 : Int32} {x2 : Int32} {x3 : Int32} {w : wS} {r : Int32 × wS} (hG : aGood G) (hX : aTxt G) (E : EX Hf bx o) (hrec : ∀ (a : Int32) (w : wS) (r : Int32 × wS), rec a w = some r → AC G (M_X2_expr nd) [.ref (bx + 1), .int a] (Hf w) (.inl (some (.int r.1)), Hf r.2)) (hL : P_X2_sum_8 rec o ke89 n x1 x2 x3 w = some r) (Hke89 : ∀ (z0 : Int32) (w : wS), ke89 z0 w = some r → AG G (M_X2_sum (nd + 1)) 89 [none, none, some (.int (z0)), none, none] [] (Hf w) (.inl (some (.int r.1)), Hf r.2)) : AG G (M_X2_sum (nd + 1)) 8 [some (.ref (bx + 1)), some (.int (x1)), some (.int (x2)), some (.int (x3)), none] [] (Hf w) (.inl (some (.int r.1)), Hf r.2) :=
  xLoop_ok (Q := fun (σ : Int32 × Int32 × Int32 × wS) => AG G (M_X2_sum (nd + 1)) 8 [some (.ref (bx + 1)), some (.int (σ.1)), some (.int (σ.2.1)), some (.int (σ.2.2.1)), none] [] (Hf σ.2.2.2) (.inl (some (.int r.1)), Hf r.2)) (fun kk hk σ hσ => B_X2_sum_8_ok hG hX E hrec hσ (fun x1 x2 x3 w h9 => hk (x1, x2, x3, w) h9) Hke89) n (x1, x2, x3, w) hL
def L_X2_sum (rec : Int32 → wS → Option (Int32 × wS)) (o : wO) (a1 : Int32) (w : wS) : Option (Int32 × wS) :=
  xB2 (L_X2_product rec o (a1) w) fun v16 w17 => P_X2_sum_8 rec o (fun z18 w19 => J_X2_sum_89 rec o  (z18) w19) 5000 (a1) (v16) (0) w17
set_option maxRecDepth 20000 in
theorem C_X2_sum {G : aG} {Hf : wS → aH} {bx nd : Nat} {o : wO} {rec : Int32 → wS → Option (Int32 × wS)} {a1 : Int32} {w : wS} {r : Int32 × wS} (hG : aGood G) (hX : aTxt G) (E : EX Hf bx o) (hrec : ∀ (a : Int32) (w : wS) (r : Int32 × wS), rec a w = some r → AC G (M_X2_expr nd) [.ref (bx + 1), .int a] (Hf w) (.inl (some (.int r.1)), Hf r.2)) (hL : L_X2_sum rec o a1 w = some r) : AC G (M_X2_sum (nd + 1)) [.ref (bx + 1), .int a1] (Hf w) (.inl (some (.int r.1)), Hf r.2) := by
  unfold L_X2_sum at hL
  refine AC.of (show plainName RX2 = true by decide) rfl (Nat.le_of_ble_eq_true rfl) ?_
  show AG G (M_X2_sum (nd + 1)) 0 [some (.ref (bx + 1)), some (.int (a1)), none, none, none] [] _ _
  refine g_aload_n dX2_sum_0 rfl rfl ?_
  refine g_iload_n dX2_sum_1 rfl rfl ?_
  obtain ⟨v16, w17, hc, hL⟩ := xB2_some hL
  refine g_callV (M' := (M_X2_product (nd + 1))) (as := [.int (a1)]) (v := some (.int v16)) l_X2_175 (kV_X2_product (nd + 1)) (by simp only [mD]; omega) (C_X2_product hG hX E hrec hc) rfl (by have := E.1.1; omega) (E.1.2.1 _ 1 _ rfl) ⟨_, _, rfl⟩ (Nat.le_of_ble_eq_true rfl) dX2_sum_2 ?_
  refine g_istore_n (i := 2) dX2_sum_5 rfl (Nat.le_of_ble_eq_true rfl) rfl ?_
  refine g_iconst (v := 0) dX2_sum_6 (by decide) ?_
  refine g_istore_n (i := 3) dX2_sum_7 rfl (Nat.le_of_ble_eq_true rfl) rfl ?_
  refine P_X2_sum_8_ok hG hX E hrec hL ?_
  · intro z18 w19 hL
    exact J_X2_sum_89_ok hG hX E hrec hL 
def J_X2_compared_61 (rec : Int32 → wS → Option (Int32 × wS)) (o : wO) (y0 : Int32) (w : wS) : Option (Int32 × wS) :=
  xB (xBool (y0)) fun v1 => some (v1, w)
set_option maxRecDepth 20000 in
theorem J_X2_compared_61_ok {G : aG} {Hf : wS → aH} {bx nd : Nat} {o : wO} {rec : Int32 → wS → Option (Int32 × wS)} {y0 : Int32} {w : wS} {r : Int32 × wS} (hG : aGood G) (hX : aTxt G) (E : EX Hf bx o) (hrec : ∀ (a : Int32) (w : wS) (r : Int32 × wS), rec a w = some r → AC G (M_X2_expr nd) [.ref (bx + 1), .int a] (Hf w) (.inl (some (.int r.1)), Hf r.2)) (hL : J_X2_compared_61 rec o  y0 w = some r) : AG G (M_X2_compared (nd + 1)) 61 [none, none, none] [.int (y0)] (Hf w) (.inl (some (.int r.1)), Hf r.2) := by
  unfold J_X2_compared_61 at hL
  obtain ⟨v1, hb, hR⟩ := xB_some hL
  obtain ⟨hz, hb2⟩ := xBool_some hb
  clear hL
  subst hz
  obtain rfl := Option.some.inj hR
  exact g_zret rfl (narrow_bool hb2) dX2_compared_61
def J_X2_compared_60 (rec : Int32 → wS → Option (Int32 × wS)) (o : wO) (w : wS) : Option (Int32 × wS) :=
  J_X2_compared_61 rec o  (0) w
set_option maxRecDepth 20000 in
theorem J_X2_compared_60_ok {G : aG} {Hf : wS → aH} {bx nd : Nat} {o : wO} {rec : Int32 → wS → Option (Int32 × wS)} {w : wS} {r : Int32 × wS} (hG : aGood G) (hX : aTxt G) (E : EX Hf bx o) (hrec : ∀ (a : Int32) (w : wS) (r : Int32 × wS), rec a w = some r → AC G (M_X2_expr nd) [.ref (bx + 1), .int a] (Hf w) (.inl (some (.int r.1)), Hf r.2)) (hL : J_X2_compared_60 rec o   w = some r) : AG G (M_X2_compared (nd + 1)) 60 [none, none, none] [] (Hf w) (.inl (some (.int r.1)), Hf r.2) := by
  unfold J_X2_compared_60 at hL
  refine g_iconst (v := 0) dX2_compared_60 (by decide) ?_
  exact J_X2_compared_61_ok hG hX E hrec hL 
def J_X2_compared_32 (rec : Int32 → wS → Option (Int32 × wS)) (o : wO) (x1 : Int32) (x2 : Int32) (w : wS) : Option (Int32 × wS) :=
  xB (L_X7_advance o  w) fun w2 => xB2 (L_X2_sum rec o (x1) w2) fun v3 w4 => if v3 = 0 then J_X2_compared_60 rec o   w4 else xB2 (L_X2_emit o ((-x2)) w4) fun v5 w6 => if v5 = 0 then J_X2_compared_60 rec o   w6 else J_X2_compared_61 rec o  (1) w6
set_option maxRecDepth 20000 in
theorem J_X2_compared_32_ok {G : aG} {Hf : wS → aH} {bx nd : Nat} {o : wO} {rec : Int32 → wS → Option (Int32 × wS)} {x1 : Int32} {x2 : Int32} {w : wS} {r : Int32 × wS} (hG : aGood G) (hX : aTxt G) (E : EX Hf bx o) (hrec : ∀ (a : Int32) (w : wS) (r : Int32 × wS), rec a w = some r → AC G (M_X2_expr nd) [.ref (bx + 1), .int a] (Hf w) (.inl (some (.int r.1)), Hf r.2)) (hL : J_X2_compared_32 rec o  x1 x2 w = some r) : AG G (M_X2_compared (nd + 1)) 32 [some (.ref (bx + 1)), some (.int (x1)), some (.int (x2))] [] (Hf w) (.inl (some (.int r.1)), Hf r.2) := by
  unfold J_X2_compared_32 at hL
  refine g_aload_n dX2_compared_32 rfl rfl ?_
  refine s_getR (k := 1) (j := 0) E.1 rfl rfl f_X2_12 dX2_compared_33 ?_
  obtain ⟨w2, hc, hL⟩ := xB_some hL
  refine g_callV (M' := M_X7_advance) (as := []) (v := none) l_X2_99 kV_X7_advance (by simp only [mD]; omega) (C_X7_advance hG hX E hc) rfl (by have := E.1.1; omega) (E.1.2.1 _ 2 _ rfl) ⟨_, _, rfl⟩ (Nat.le_of_ble_eq_true rfl) dX2_compared_36 ?_
  refine g_aload_n dX2_compared_39 rfl rfl ?_
  refine g_iload_n dX2_compared_40 rfl rfl ?_
  refine g_none 1 ?_
  obtain ⟨v3, w4, hc, hL⟩ := xB2_some hL
  refine g_callV (M' := (M_X2_sum (nd + 1))) (as := [.int (x1)]) (v := some (.int v3)) l_X2_172 (kV_X2_sum (nd + 1)) (by simp only [mD]; omega) (C_X2_sum hG hX E hrec hc) rfl (by have := E.1.1; omega) (E.1.2.1 _ 1 _ rfl) ⟨_, _, rfl⟩ (Nat.le_of_ble_eq_true rfl) dX2_compared_41 ?_
  refine g_if_eq (tgt := 60) dX2_compared_44 (by decide) (fun q8 => ?_) (fun q8 => ?_)
  · rw [if_pos q8] at hL
    refine g_none 0 ?_
    refine g_none 2 ?_
    exact J_X2_compared_60_ok hG hX E hrec hL 
  · rw [if_neg q8] at hL
    refine g_aload_n dX2_compared_47 rfl rfl ?_
    refine g_none 0 ?_
    refine g_iload_n dX2_compared_48 rfl rfl ?_
    refine g_none 2 ?_
    refine g_ineg dX2_compared_49 ?_
    obtain ⟨v5, w6, hc, hL⟩ := xB2_some hL
    refine g_callV (M' := M_X2_emit) (as := [.int ((-x2))]) (v := some (.int (v5))) l_X2_159 kV_X2_emit (by simp only [mD]; omega) (C_X2_emit hG hX E hc) rfl (by have := E.1.1; omega) (E.1.2.1 _ 1 _ rfl) ⟨_, _, rfl⟩ (Nat.le_of_ble_eq_true rfl) dX2_compared_50 ?_
    refine g_if_eq (tgt := 60) dX2_compared_53 (by decide) (fun q7 => ?_) (fun q7 => ?_)
    · rw [if_pos q7] at hL
      exact J_X2_compared_60_ok hG hX E hrec hL 
    · rw [if_neg q7] at hL
      refine g_iconst (v := 1) dX2_compared_56 (by decide) ?_
      refine g_goto (tgt := 61) dX2_compared_57 (by decide) ?_
      exact J_X2_compared_61_ok hG hX E hrec hL 
def L_X2_compared (rec : Int32 → wS → Option (Int32 × wS)) (o : wO) (a1 : Int32) (w : wS) : Option (Int32 × wS) :=
  xB2 (L_X2_sum rec o (a1) w) fun v9 w10 => if v9 = 0 then some (0, w10) else xB (xGet w10 202) fun v11 => if v11 = 60 then J_X2_compared_32 rec o  (a1) (v11) w10 else if v11 = 61 then J_X2_compared_32 rec o  (a1) (v11) w10 else some (1, w10)
set_option maxRecDepth 20000 in
theorem C_X2_compared {G : aG} {Hf : wS → aH} {bx nd : Nat} {o : wO} {rec : Int32 → wS → Option (Int32 × wS)} {a1 : Int32} {w : wS} {r : Int32 × wS} (hG : aGood G) (hX : aTxt G) (E : EX Hf bx o) (hrec : ∀ (a : Int32) (w : wS) (r : Int32 × wS), rec a w = some r → AC G (M_X2_expr nd) [.ref (bx + 1), .int a] (Hf w) (.inl (some (.int r.1)), Hf r.2)) (hL : L_X2_compared rec o a1 w = some r) : AC G (M_X2_compared (nd + 1)) [.ref (bx + 1), .int a1] (Hf w) (.inl (some (.int r.1)), Hf r.2) := by
  unfold L_X2_compared at hL
  refine AC.of (show plainName RX2 = true by decide) rfl (Nat.le_of_ble_eq_true rfl) ?_
  show AG G (M_X2_compared (nd + 1)) 0 [some (.ref (bx + 1)), some (.int (a1)), none] [] _ _
  refine g_aload_n dX2_compared_0 rfl rfl ?_
  refine g_iload_n dX2_compared_1 rfl rfl ?_
  obtain ⟨v9, w10, hc, hL⟩ := xB2_some hL
  refine g_callV (M' := (M_X2_sum (nd + 1))) (as := [.int (a1)]) (v := some (.int v9)) l_X2_172 (kV_X2_sum (nd + 1)) (by simp only [mD]; omega) (C_X2_sum hG hX E hrec hc) rfl (by have := E.1.1; omega) (E.1.2.1 _ 1 _ rfl) ⟨_, _, rfl⟩ (Nat.le_of_ble_eq_true rfl) dX2_compared_2 ?_
  refine g_if_ne (tgt := 10) dX2_compared_5 (by decide) (fun q14 => ?_) (fun q14 => ?_)
  · rw [if_neg q14] at hL
    refine g_aload_n dX2_compared_10 rfl rfl ?_
    refine s_getR (k := 1) (j := 0) E.1 rfl rfl f_X2_12 dX2_compared_11 ?_
    refine s_getI (k := 2) (j := 2) E.1 hL rfl rfl f_X2_50 dX2_compared_14 ?_
    intro v11 hL
    refine g_istore_n (i := 2) dX2_compared_17 rfl (Nat.le_of_ble_eq_true rfl) rfl ?_
    refine g_iload_n dX2_compared_18 rfl rfl ?_
    refine g_bipush (v := 60) dX2_compared_19 (by decide) ?_
    refine g_icmp_eq (tgt := 32) dX2_compared_21 (by decide) (fun q13 => ?_) (fun q13 => ?_)
    · rw [if_pos q13] at hL
      exact J_X2_compared_32_ok hG hX E hrec hL 
    · rw [if_neg q13] at hL
      refine g_iload_n dX2_compared_24 rfl rfl ?_
      refine g_bipush (v := 61) dX2_compared_25 (by decide) ?_
      refine g_icmp_eq (tgt := 32) dX2_compared_27 (by decide) (fun q12 => ?_) (fun q12 => ?_)
      · rw [if_pos q12] at hL
        exact J_X2_compared_32_ok hG hX E hrec hL 
      · rw [if_neg q12] at hL
        refine g_none 0 ?_
        refine g_none 1 ?_
        refine g_none 2 ?_
        refine g_iconst (v := 1) dX2_compared_30 (by decide) ?_
        obtain rfl := Option.some.inj hL
        exact g_zret rfl (by decide) dX2_compared_31
  · rw [if_pos q14] at hL
    refine g_none 0 ?_
    refine g_none 1 ?_
    refine g_iconst (v := 0) dX2_compared_8 (by decide) ?_
    obtain rfl := Option.some.inj hL
    exact g_zret rfl (by decide) dX2_compared_9
def J_X2_denied_82 (rec : Int32 → wS → Option (Int32 × wS)) (o : wO) (x3 : Int32) (w : wS) : Option (Int32 × wS) :=
  xB (xBool (x3)) fun v1 => some (v1, w)
set_option maxRecDepth 20000 in
theorem J_X2_denied_82_ok {G : aG} {Hf : wS → aH} {bx nd : Nat} {o : wO} {rec : Int32 → wS → Option (Int32 × wS)} {x3 : Int32} {w : wS} {r : Int32 × wS} (hG : aGood G) (hX : aTxt G) (E : EX Hf bx o) (hrec : ∀ (a : Int32) (w : wS) (r : Int32 × wS), rec a w = some r → AC G (M_X2_expr nd) [.ref (bx + 1), .int a] (Hf w) (.inl (some (.int r.1)), Hf r.2)) (hL : J_X2_denied_82 rec o  x3 w = some r) : AG G (M_X2_denied (nd + 1)) 82 [none, none, none, some (.int (x3)), none] [] (Hf w) (.inl (some (.int r.1)), Hf r.2) := by
  unfold J_X2_denied_82 at hL
  refine g_iload_n dX2_denied_82 rfl rfl ?_
  refine g_none 3 ?_
  obtain ⟨v1, hb, hR⟩ := xB_some hL
  obtain ⟨hz, hb2⟩ := xBool_some hb
  clear hL
  subst hz
  obtain rfl := Option.some.inj hR
  exact g_zret rfl (narrow_bool hb2) dX2_denied_83
def B_X2_denied_59 (rec : Int32 → wS → Option (Int32 × wS)) (o : wO) (kh59 : Int32 → Int32 → Int32 → wS → Option (Int32 × wS)) (ke82 : Int32 → wS → Option (Int32 × wS)) (x2 : Int32) (x3 : Int32) (x4 : Int32) (w : wS) : Option (Int32 × wS) :=
  if x2 ≤ x4 then ke82 (x3) w else if x3 = 0 then ke82 (x3) w else xB2 (L_X2_emit o ((-103)) w) fun v2 w3 => kh59 (x2) (v2) ((x4 + 1)) w3
set_option maxRecDepth 20000 in
theorem B_X2_denied_59_ok {G : aG} {Hf : wS → aH} {bx nd : Nat} {o : wO} {rec : Int32 → wS → Option (Int32 × wS)} {kh59 : Int32 → Int32 → Int32 → wS → Option (Int32 × wS)} {ke82 : Int32 → wS → Option (Int32 × wS)} {x2 : Int32} {x3 : Int32} {x4 : Int32} {w : wS} {r : Int32 × wS} (hG : aGood G) (hX : aTxt G) (E : EX Hf bx o) (hrec : ∀ (a : Int32) (w : wS) (r : Int32 × wS), rec a w = some r → AC G (M_X2_expr nd) [.ref (bx + 1), .int a] (Hf w) (.inl (some (.int r.1)), Hf r.2)) (hL : B_X2_denied_59 rec o kh59 ke82 x2 x3 x4 w = some r) (Hkh59 : ∀ (z0 : Int32) (z1 : Int32) (z2 : Int32) (w : wS), kh59 z0 z1 z2 w = some r → AG G (M_X2_denied (nd + 1)) 59 [some (.ref (bx + 1)), none, some (.int (z0)), some (.int (z1)), some (.int (z2))] [] (Hf w) (.inl (some (.int r.1)), Hf r.2)) (Hke82 : ∀ (z0 : Int32) (w : wS), ke82 z0 w = some r → AG G (M_X2_denied (nd + 1)) 82 [none, none, none, some (.int (z0)), none] [] (Hf w) (.inl (some (.int r.1)), Hf r.2)) : AG G (M_X2_denied (nd + 1)) 59 [some (.ref (bx + 1)), none, some (.int (x2)), some (.int (x3)), some (.int (x4))] [] (Hf w) (.inl (some (.int r.1)), Hf r.2) := by
  unfold B_X2_denied_59 at hL
  refine g_iload dX2_denied_59 rfl ?_
  refine g_iload_n dX2_denied_61 rfl rfl ?_
  refine g_icmp_ge (tgt := 82) dX2_denied_62 (by decide) (fun q5 => ?_) (fun q5 => ?_)
  · rw [if_pos q5] at hL
    refine g_none 0 ?_
    refine g_none 2 ?_
    refine g_none 4 ?_
    exact Hke82 _ _ hL
  · rw [if_neg q5] at hL
    refine g_iload_n dX2_denied_65 rfl rfl ?_
    refine g_if_eq (tgt := 82) dX2_denied_66 (by decide) (fun q4 => ?_) (fun q4 => ?_)
    · rw [if_pos q4] at hL
      refine g_none 0 ?_
      refine g_none 2 ?_
      refine g_none 4 ?_
      exact Hke82 _ _ hL
    · rw [if_neg q4] at hL
      refine g_none 3 ?_
      refine g_aload_n dX2_denied_69 rfl rfl ?_
      refine g_bipush (v := (-103)) dX2_denied_70 (by decide) ?_
      obtain ⟨v2, w3, hc, hL⟩ := xB2_some hL
      refine g_callV (M' := M_X2_emit) (as := [.int ((-103))]) (v := some (.int (v2))) l_X2_159 kV_X2_emit (by simp only [mD]; omega) (C_X2_emit hG hX E hc) rfl (by have := E.1.1; omega) (E.1.2.1 _ 1 _ rfl) ⟨_, _, rfl⟩ (Nat.le_of_ble_eq_true rfl) dX2_denied_72 ?_
      refine g_istore_n (i := 3) dX2_denied_75 rfl (Nat.le_of_ble_eq_true rfl) rfl ?_
      refine g_iincV (v := (x4 + 1)) dX2_denied_76 rfl rfl (Nat.le_of_ble_eq_true rfl) rfl ?_
      refine g_goto (tgt := 59) dX2_denied_79 (by decide) ?_
      exact Hkh59 _ _ _ _ hL
def P_X2_denied_59 (rec : Int32 → wS → Option (Int32 × wS)) (o : wO) (ke82 : Int32 → wS → Option (Int32 × wS)) (n : Nat) (x2 : Int32) (x3 : Int32) (x4 : Int32) (w : wS) : Option (Int32 × wS) :=
  xLoop (fun (kk : Int32 × Int32 × Int32 × wS → Option (Int32 × wS)) σ => B_X2_denied_59 rec o (fun x2 x3 x4 w => kk (x2, x3, x4, w)) ke82 (σ.1) (σ.2.1) (σ.2.2.1) (σ.2.2.2)) n (x2, x3, x4, w)
theorem P_X2_denied_59_ok {G : aG} {Hf : wS → aH} {bx nd : Nat} {o : wO} {rec : Int32 → wS → Option (Int32 × wS)} {ke82 : Int32 → wS → Option (Int32 × wS)} {n : Nat} {x2 : Int32} {x3 : Int32} {x4 : Int32} {w : wS} {r : Int32 × wS} (hG : aGood G) (hX : aTxt G) (E : EX Hf bx o) (hrec : ∀ (a : Int32) (w : wS) (r : Int32 × wS), rec a w = some r → AC G (M_X2_expr nd) [.ref (bx + 1), .int a] (Hf w) (.inl (some (.int r.1)), Hf r.2)) (hL : P_X2_denied_59 rec o ke82 n x2 x3 x4 w = some r) (Hke82 : ∀ (z0 : Int32) (w : wS), ke82 z0 w = some r → AG G (M_X2_denied (nd + 1)) 82 [none, none, none, some (.int (z0)), none] [] (Hf w) (.inl (some (.int r.1)), Hf r.2)) : AG G (M_X2_denied (nd + 1)) 59 [some (.ref (bx + 1)), none, some (.int (x2)), some (.int (x3)), some (.int (x4))] [] (Hf w) (.inl (some (.int r.1)), Hf r.2) :=
  xLoop_ok (Q := fun (σ : Int32 × Int32 × Int32 × wS) => AG G (M_X2_denied (nd + 1)) 59 [some (.ref (bx + 1)), none, some (.int (σ.1)), some (.int (σ.2.1)), some (.int (σ.2.2.1))] [] (Hf σ.2.2.2) (.inl (some (.int r.1)), Hf r.2)) (fun kk hk σ hσ => B_X2_denied_59_ok hG hX E hrec hσ (fun x2 x3 x4 w h9 => hk (x2, x3, x4, w) h9) Hke82) n (x2, x3, x4, w) hL
def J_X2_denied_50 (rec : Int32 → wS → Option (Int32 × wS)) (o : wO) (x1 : Int32) (x2 : Int32) (w : wS) : Option (Int32 × wS) :=
  xB2 (L_X2_compared rec o (x1) w) fun v6 w7 => P_X2_denied_59 rec o (fun z8 w9 => J_X2_denied_82 rec o  (z8) w9) 5000 (x2) (v6) (0) w7
set_option maxRecDepth 20000 in
theorem J_X2_denied_50_ok {G : aG} {Hf : wS → aH} {bx nd : Nat} {o : wO} {rec : Int32 → wS → Option (Int32 × wS)} {x1 : Int32} {x2 : Int32} {w : wS} {r : Int32 × wS} (hG : aGood G) (hX : aTxt G) (E : EX Hf bx o) (hrec : ∀ (a : Int32) (w : wS) (r : Int32 × wS), rec a w = some r → AC G (M_X2_expr nd) [.ref (bx + 1), .int a] (Hf w) (.inl (some (.int r.1)), Hf r.2)) (hL : J_X2_denied_50 rec o  x1 x2 w = some r) : AG G (M_X2_denied (nd + 1)) 50 [some (.ref (bx + 1)), some (.int (x1)), some (.int (x2)), none, none] [] (Hf w) (.inl (some (.int r.1)), Hf r.2) := by
  unfold J_X2_denied_50 at hL
  refine g_aload_n dX2_denied_50 rfl rfl ?_
  refine g_iload_n dX2_denied_51 rfl rfl ?_
  refine g_none 1 ?_
  obtain ⟨v6, w7, hc, hL⟩ := xB2_some hL
  refine g_callV (M' := (M_X2_compared (nd + 1))) (as := [.int (x1)]) (v := some (.int v6)) l_X2_169 (kV_X2_compared (nd + 1)) (by simp only [mD]; omega) (C_X2_compared hG hX E hrec hc) rfl (by have := E.1.1; omega) (E.1.2.1 _ 1 _ rfl) ⟨_, _, rfl⟩ (Nat.le_of_ble_eq_true rfl) dX2_denied_52 ?_
  refine g_istore_n (i := 3) dX2_denied_55 rfl (Nat.le_of_ble_eq_true rfl) rfl ?_
  refine g_iconst (v := 0) dX2_denied_56 (by decide) ?_
  refine g_istore (i := 4) dX2_denied_57 (Nat.le_of_ble_eq_true rfl) rfl ?_
  refine P_X2_denied_59_ok hG hX E hrec hL ?_
  · intro z8 w9 hL
    exact J_X2_denied_82_ok hG hX E hrec hL 
def B_X2_denied_4 (rec : Int32 → wS → Option (Int32 × wS)) (o : wO) (kh4 : Int32 → Int32 → Int32 → wS → Option (Int32 × wS)) (ke28 : wS → Option (Int32 × wS)) (ke50 : Int32 → Int32 → wS → Option (Int32 × wS)) (x1 : Int32) (x2 : Int32) (x3 : Int32) (w : wS) : Option (Int32 × wS) :=
  if 6 < x3 then ke50 (x1) (x2) w else xB2 (L_X7_is_S7 o  w) fun v10 w11 => if v10 = 0 then ke50 (x1) (x2) w11 else if x2 = 6 then ke28  w11 else xB (L_X7_advance o  w11) fun w12 => kh4 (x1) ((x2 + 1)) ((x3 + 1)) w12
set_option maxRecDepth 20000 in
theorem B_X2_denied_4_ok {G : aG} {Hf : wS → aH} {bx nd : Nat} {o : wO} {rec : Int32 → wS → Option (Int32 × wS)} {kh4 : Int32 → Int32 → Int32 → wS → Option (Int32 × wS)} {ke28 : wS → Option (Int32 × wS)} {ke50 : Int32 → Int32 → wS → Option (Int32 × wS)} {x1 : Int32} {x2 : Int32} {x3 : Int32} {w : wS} {r : Int32 × wS} (hG : aGood G) (hX : aTxt G) (E : EX Hf bx o) (hrec : ∀ (a : Int32) (w : wS) (r : Int32 × wS), rec a w = some r → AC G (M_X2_expr nd) [.ref (bx + 1), .int a] (Hf w) (.inl (some (.int r.1)), Hf r.2)) (hL : B_X2_denied_4 rec o kh4 ke28 ke50 x1 x2 x3 w = some r) (Hkh4 : ∀ (z0 : Int32) (z1 : Int32) (z2 : Int32) (w : wS), kh4 z0 z1 z2 w = some r → AG G (M_X2_denied (nd + 1)) 4 [some (.ref (bx + 1)), some (.int (z0)), some (.int (z1)), some (.int (z2)), none] [] (Hf w) (.inl (some (.int r.1)), Hf r.2)) (Hke28 : ∀ (w : wS), ke28  w = some r → AG G (M_X2_denied (nd + 1)) 28 [some (.ref (bx + 1)), none, none, none, none] [] (Hf w) (.inl (some (.int r.1)), Hf r.2)) (Hke50 : ∀ (z0 : Int32) (z1 : Int32) (w : wS), ke50 z0 z1 w = some r → AG G (M_X2_denied (nd + 1)) 50 [some (.ref (bx + 1)), some (.int (z0)), some (.int (z1)), none, none] [] (Hf w) (.inl (some (.int r.1)), Hf r.2)) : AG G (M_X2_denied (nd + 1)) 4 [some (.ref (bx + 1)), some (.int (x1)), some (.int (x2)), some (.int (x3)), none] [] (Hf w) (.inl (some (.int r.1)), Hf r.2) := by
  unfold B_X2_denied_4 at hL
  refine g_iload_n dX2_denied_4 rfl rfl ?_
  refine g_bipush (v := 6) dX2_denied_5 (by decide) ?_
  refine g_icmp_gt (tgt := 50) dX2_denied_7 (by decide) (fun q15 => ?_) (fun q15 => ?_)
  · rw [if_pos q15] at hL
    refine g_none 3 ?_
    exact Hke50 _ _ _ hL
  · rw [if_neg q15] at hL
    refine g_aload_n dX2_denied_10 rfl rfl ?_
    refine s_getR (k := 1) (j := 0) E.1 rfl rfl f_X2_12 dX2_denied_11 ?_
    refine g_ldcS (k := 7) hG (by decide) rfl dX2_denied_14 ?_
    obtain ⟨v10, w11, hc, hL⟩ := xB2_some hL
    refine g_callV (M' := M_X7_is) (as := [.ref 8]) (v := some (.int (v10))) l_X2_62 kV_X7_is (by simp only [mD]; omega) (C_X7_is_S7 hG hX E hc) rfl (by have := E.1.1; omega) (E.1.2.1 _ 2 _ rfl) ⟨_, _, rfl⟩ (Nat.le_of_ble_eq_true rfl) dX2_denied_16 ?_
    refine g_if_eq (tgt := 50) dX2_denied_19 (by decide) (fun q14 => ?_) (fun q14 => ?_)
    · rw [if_pos q14] at hL
      refine g_none 3 ?_
      exact Hke50 _ _ _ hL
    · rw [if_neg q14] at hL
      refine g_iload_n dX2_denied_22 rfl rfl ?_
      refine g_bipush (v := 6) dX2_denied_23 (by decide) ?_
      refine g_icmp_ne (tgt := 34) dX2_denied_25 (by decide) (fun q13 => ?_) (fun q13 => ?_)
      · rw [if_neg q13] at hL
        refine g_iincV (v := (x2 + 1)) dX2_denied_34 rfl rfl (Nat.le_of_ble_eq_true rfl) rfl ?_
        refine g_aload_n dX2_denied_37 rfl rfl ?_
        refine s_getR (k := 1) (j := 0) E.1 rfl rfl f_X2_12 dX2_denied_38 ?_
        obtain ⟨w12, hc, hL⟩ := xB_some hL
        refine g_callV (M' := M_X7_advance) (as := []) (v := none) l_X2_99 kV_X7_advance (by simp only [mD]; omega) (C_X7_advance hG hX E hc) rfl (by have := E.1.1; omega) (E.1.2.1 _ 2 _ rfl) ⟨_, _, rfl⟩ (Nat.le_of_ble_eq_true rfl) dX2_denied_41 ?_
        refine g_iincV (v := (x3 + 1)) dX2_denied_44 rfl rfl (Nat.le_of_ble_eq_true rfl) rfl ?_
        refine g_goto (tgt := 4) dX2_denied_47 (by decide) ?_
        exact Hkh4 _ _ _ _ hL
      · rw [if_pos q13] at hL
        refine g_none 1 ?_
        refine g_none 2 ?_
        refine g_none 3 ?_
        exact Hke28  _ hL
def P_X2_denied_4 (rec : Int32 → wS → Option (Int32 × wS)) (o : wO) (ke28 : wS → Option (Int32 × wS)) (ke50 : Int32 → Int32 → wS → Option (Int32 × wS)) (n : Nat) (x1 : Int32) (x2 : Int32) (x3 : Int32) (w : wS) : Option (Int32 × wS) :=
  xLoop (fun (kk : Int32 × Int32 × Int32 × wS → Option (Int32 × wS)) σ => B_X2_denied_4 rec o (fun x1 x2 x3 w => kk (x1, x2, x3, w)) ke28 ke50 (σ.1) (σ.2.1) (σ.2.2.1) (σ.2.2.2)) n (x1, x2, x3, w)
theorem P_X2_denied_4_ok {G : aG} {Hf : wS → aH} {bx nd : Nat} {o : wO} {rec : Int32 → wS → Option (Int32 × wS)} {ke28 : wS → Option (Int32 × wS)} {ke50 : Int32 → Int32 → wS → Option (Int32 × wS)} {n : Nat} {x1 : Int32} {x2 : Int32} {x3 : Int32} {w : wS} {r : Int32 × wS} (hG : aGood G) (hX : aTxt G) (E : EX Hf bx o) (hrec : ∀ (a : Int32) (w : wS) (r : Int32 × wS), rec a w = some r → AC G (M_X2_expr nd) [.ref (bx + 1), .int a] (Hf w) (.inl (some (.int r.1)), Hf r.2)) (hL : P_X2_denied_4 rec o ke28 ke50 n x1 x2 x3 w = some r) (Hke28 : ∀ (w : wS), ke28  w = some r → AG G (M_X2_denied (nd + 1)) 28 [some (.ref (bx + 1)), none, none, none, none] [] (Hf w) (.inl (some (.int r.1)), Hf r.2)) (Hke50 : ∀ (z0 : Int32) (z1 : Int32) (w : wS), ke50 z0 z1 w = some r → AG G (M_X2_denied (nd + 1)) 50 [some (.ref (bx + 1)), some (.int (z0)), some (.int (z1)), none, none] [] (Hf w) (.inl (some (.int r.1)), Hf r.2)) : AG G (M_X2_denied (nd + 1)) 4 [some (.ref (bx + 1)), some (.int (x1)), some (.int (x2)), some (.int (x3)), none] [] (Hf w) (.inl (some (.int r.1)), Hf r.2) :=
  xLoop_ok (Q := fun (σ : Int32 × Int32 × Int32 × wS) => AG G (M_X2_denied (nd + 1)) 4 [some (.ref (bx + 1)), some (.int (σ.1)), some (.int (σ.2.1)), some (.int (σ.2.2.1)), none] [] (Hf σ.2.2.2) (.inl (some (.int r.1)), Hf r.2)) (fun kk hk σ hσ => B_X2_denied_4_ok hG hX E hrec hσ (fun x1 x2 x3 w h9 => hk (x1, x2, x3, w) h9) Hke28 Hke50) n (x1, x2, x3, w) hL
def L_X2_denied (rec : Int32 → wS → Option (Int32 × wS)) (o : wO) (a1 : Int32) (w : wS) : Option (Int32 × wS) :=
  P_X2_denied_4 rec o (fun w16 => xB2 (L_X2_refuse o (2) w16) fun v17 w18 => xB (xBool (v17)) fun v19 => some (v19, w18)) (fun z20 z21 w22 => J_X2_denied_50 rec o  (z20) (z21) w22) 5000 (a1) (0) (0) w
set_option maxRecDepth 20000 in
theorem C_X2_denied {G : aG} {Hf : wS → aH} {bx nd : Nat} {o : wO} {rec : Int32 → wS → Option (Int32 × wS)} {a1 : Int32} {w : wS} {r : Int32 × wS} (hG : aGood G) (hX : aTxt G) (E : EX Hf bx o) (hrec : ∀ (a : Int32) (w : wS) (r : Int32 × wS), rec a w = some r → AC G (M_X2_expr nd) [.ref (bx + 1), .int a] (Hf w) (.inl (some (.int r.1)), Hf r.2)) (hL : L_X2_denied rec o a1 w = some r) : AC G (M_X2_denied (nd + 1)) [.ref (bx + 1), .int a1] (Hf w) (.inl (some (.int r.1)), Hf r.2) := by
  unfold L_X2_denied at hL
  refine AC.of (show plainName RX2 = true by decide) rfl (Nat.le_of_ble_eq_true rfl) ?_
  show AG G (M_X2_denied (nd + 1)) 0 [some (.ref (bx + 1)), some (.int (a1)), none, none, none] [] _ _
  refine g_iconst (v := 0) dX2_denied_0 (by decide) ?_
  refine g_istore_n (i := 2) dX2_denied_1 rfl (Nat.le_of_ble_eq_true rfl) rfl ?_
  refine g_iconst (v := 0) dX2_denied_2 (by decide) ?_
  refine g_istore_n (i := 3) dX2_denied_3 rfl (Nat.le_of_ble_eq_true rfl) rfl ?_
  refine P_X2_denied_4_ok hG hX E hrec hL ?_ ?_
  · intro w16 hL
    refine g_aload_n dX2_denied_28 rfl rfl ?_
    refine g_none 0 ?_
    refine g_iconst (v := 2) dX2_denied_29 (by decide) ?_
    obtain ⟨v17, w18, hc, hL⟩ := xB2_some hL
    refine g_callV (M' := M_X2_refuse) (as := [.int (2)]) (v := some (.int (v17))) l_X2_92 kV_X2_refuse (by simp only [mD]; omega) (C_X2_refuse hG hX E hc) rfl (by have := E.1.1; omega) (E.1.2.1 _ 1 _ rfl) ⟨_, _, rfl⟩ (Nat.le_of_ble_eq_true rfl) dX2_denied_30 ?_
    obtain ⟨v19, hb, hR⟩ := xB_some hL
    obtain ⟨hz, hb2⟩ := xBool_some hb
    clear hL
    subst hz
    obtain rfl := Option.some.inj hR
    exact g_zret rfl (narrow_bool hb2) dX2_denied_33
  · intro z20 z21 w22 hL
    exact J_X2_denied_50_ok hG hX E hrec hL 
def J_X2_allOf_67 (rec : Int32 → wS → Option (Int32 × wS)) (o : wO) (x2 : Int32) (w : wS) : Option (Int32 × wS) :=
  xB (xBool (x2)) fun v1 => some (v1, w)
set_option maxRecDepth 20000 in
theorem J_X2_allOf_67_ok {G : aG} {Hf : wS → aH} {bx nd : Nat} {o : wO} {rec : Int32 → wS → Option (Int32 × wS)} {x2 : Int32} {w : wS} {r : Int32 × wS} (hG : aGood G) (hX : aTxt G) (E : EX Hf bx o) (hrec : ∀ (a : Int32) (w : wS) (r : Int32 × wS), rec a w = some r → AC G (M_X2_expr nd) [.ref (bx + 1), .int a] (Hf w) (.inl (some (.int r.1)), Hf r.2)) (hL : J_X2_allOf_67 rec o  x2 w = some r) : AG G (M_X2_allOf (nd + 1)) 67 [none, none, some (.int (x2)), none] [] (Hf w) (.inl (some (.int r.1)), Hf r.2) := by
  unfold J_X2_allOf_67 at hL
  refine g_iload_n dX2_allOf_67 rfl rfl ?_
  refine g_none 2 ?_
  obtain ⟨v1, hb, hR⟩ := xB_some hL
  obtain ⟨hz, hb2⟩ := xBool_some hb
  clear hL
  subst hz
  obtain rfl := Option.some.inj hR
  exact g_zret rfl (narrow_bool hb2) dX2_allOf_68
def J_X2_allOf_60 (rec : Int32 → wS → Option (Int32 × wS)) (o : wO) (kh8 : Int32 → Int32 → Int32 → wS → Option (Int32 × wS)) (ke67 : Int32 → wS → Option (Int32 × wS)) (x1 : Int32) (x3 : Int32) (y0 : Int32) (w : wS) : Option (Int32 × wS) :=
  kh8 (x1) (y0) ((x3 + 1)) w
set_option maxRecDepth 20000 in
theorem J_X2_allOf_60_ok {G : aG} {Hf : wS → aH} {bx nd : Nat} {o : wO} {rec : Int32 → wS → Option (Int32 × wS)} {kh8 : Int32 → Int32 → Int32 → wS → Option (Int32 × wS)} {ke67 : Int32 → wS → Option (Int32 × wS)} {x1 : Int32} {x3 : Int32} {y0 : Int32} {w : wS} {r : Int32 × wS} (hG : aGood G) (hX : aTxt G) (E : EX Hf bx o) (hrec : ∀ (a : Int32) (w : wS) (r : Int32 × wS), rec a w = some r → AC G (M_X2_expr nd) [.ref (bx + 1), .int a] (Hf w) (.inl (some (.int r.1)), Hf r.2)) (hL : J_X2_allOf_60 rec o kh8 ke67 x1 x3 y0 w = some r) (Hkh8 : ∀ (z0 : Int32) (z1 : Int32) (z2 : Int32) (w : wS), kh8 z0 z1 z2 w = some r → AG G (M_X2_allOf (nd + 1)) 8 [some (.ref (bx + 1)), some (.int (z0)), some (.int (z1)), some (.int (z2))] [] (Hf w) (.inl (some (.int r.1)), Hf r.2)) (Hke67 : ∀ (z0 : Int32) (w : wS), ke67 z0 w = some r → AG G (M_X2_allOf (nd + 1)) 67 [none, none, some (.int (z0)), none] [] (Hf w) (.inl (some (.int r.1)), Hf r.2)) : AG G (M_X2_allOf (nd + 1)) 60 [some (.ref (bx + 1)), some (.int (x1)), none, some (.int (x3))] [.int (y0)] (Hf w) (.inl (some (.int r.1)), Hf r.2) := by
  unfold J_X2_allOf_60 at hL
  refine g_istore_n (i := 2) dX2_allOf_60 rfl (Nat.le_of_ble_eq_true rfl) rfl ?_
  refine g_iincV (v := (x3 + 1)) dX2_allOf_61 rfl rfl (Nat.le_of_ble_eq_true rfl) rfl ?_
  refine g_goto (tgt := 8) dX2_allOf_64 (by decide) ?_
  exact Hkh8 _ _ _ _ hL
def J_X2_allOf_59 (rec : Int32 → wS → Option (Int32 × wS)) (o : wO) (kh8 : Int32 → Int32 → Int32 → wS → Option (Int32 × wS)) (ke67 : Int32 → wS → Option (Int32 × wS)) (x1 : Int32) (x3 : Int32) (w : wS) : Option (Int32 × wS) :=
  J_X2_allOf_60 rec o kh8 ke67 (x1) (x3) (0) w
set_option maxRecDepth 20000 in
theorem J_X2_allOf_59_ok {G : aG} {Hf : wS → aH} {bx nd : Nat} {o : wO} {rec : Int32 → wS → Option (Int32 × wS)} {kh8 : Int32 → Int32 → Int32 → wS → Option (Int32 × wS)} {ke67 : Int32 → wS → Option (Int32 × wS)} {x1 : Int32} {x3 : Int32} {w : wS} {r : Int32 × wS} (hG : aGood G) (hX : aTxt G) (E : EX Hf bx o) (hrec : ∀ (a : Int32) (w : wS) (r : Int32 × wS), rec a w = some r → AC G (M_X2_expr nd) [.ref (bx + 1), .int a] (Hf w) (.inl (some (.int r.1)), Hf r.2)) (hL : J_X2_allOf_59 rec o kh8 ke67 x1 x3 w = some r) (Hkh8 : ∀ (z0 : Int32) (z1 : Int32) (z2 : Int32) (w : wS), kh8 z0 z1 z2 w = some r → AG G (M_X2_allOf (nd + 1)) 8 [some (.ref (bx + 1)), some (.int (z0)), some (.int (z1)), some (.int (z2))] [] (Hf w) (.inl (some (.int r.1)), Hf r.2)) (Hke67 : ∀ (z0 : Int32) (w : wS), ke67 z0 w = some r → AG G (M_X2_allOf (nd + 1)) 67 [none, none, some (.int (z0)), none] [] (Hf w) (.inl (some (.int r.1)), Hf r.2)) : AG G (M_X2_allOf (nd + 1)) 59 [some (.ref (bx + 1)), some (.int (x1)), none, some (.int (x3))] [] (Hf w) (.inl (some (.int r.1)), Hf r.2) := by
  unfold J_X2_allOf_59 at hL
  refine g_iconst (v := 0) dX2_allOf_59 (by decide) ?_
  exact J_X2_allOf_60_ok hG hX E hrec hL Hkh8 Hke67
def B_X2_allOf_8 (rec : Int32 → wS → Option (Int32 × wS)) (o : wO) (kh8 : Int32 → Int32 → Int32 → wS → Option (Int32 × wS)) (ke67 : Int32 → wS → Option (Int32 × wS)) (x1 : Int32) (x2 : Int32) (x3 : Int32) (w : wS) : Option (Int32 × wS) :=
  if 700 ≤ x3 then ke67 (x2) w else if x2 = 0 then ke67 (x2) w else xB2 (L_X7_is_S14 o  w) fun v2 w3 => if v2 = 0 then ke67 (x2) w3 else xB (L_X7_advance o  w3) fun w4 => xB2 (L_X2_denied rec o (x1) w4) fun v5 w6 => if v5 = 0 then J_X2_allOf_59 rec o kh8 ke67 (x1) (x3) w6 else xB2 (L_X2_emit o ((-102)) w6) fun v7 w8 => if v7 = 0 then J_X2_allOf_59 rec o kh8 ke67 (x1) (x3) w8 else J_X2_allOf_60 rec o kh8 ke67 (x1) (x3) (1) w8
set_option maxRecDepth 20000 in
theorem B_X2_allOf_8_ok {G : aG} {Hf : wS → aH} {bx nd : Nat} {o : wO} {rec : Int32 → wS → Option (Int32 × wS)} {kh8 : Int32 → Int32 → Int32 → wS → Option (Int32 × wS)} {ke67 : Int32 → wS → Option (Int32 × wS)} {x1 : Int32} {x2 : Int32} {x3 : Int32} {w : wS} {r : Int32 × wS} (hG : aGood G) (hX : aTxt G) (E : EX Hf bx o) (hrec : ∀ (a : Int32) (w : wS) (r : Int32 × wS), rec a w = some r → AC G (M_X2_expr nd) [.ref (bx + 1), .int a] (Hf w) (.inl (some (.int r.1)), Hf r.2)) (hL : B_X2_allOf_8 rec o kh8 ke67 x1 x2 x3 w = some r) (Hkh8 : ∀ (z0 : Int32) (z1 : Int32) (z2 : Int32) (w : wS), kh8 z0 z1 z2 w = some r → AG G (M_X2_allOf (nd + 1)) 8 [some (.ref (bx + 1)), some (.int (z0)), some (.int (z1)), some (.int (z2))] [] (Hf w) (.inl (some (.int r.1)), Hf r.2)) (Hke67 : ∀ (z0 : Int32) (w : wS), ke67 z0 w = some r → AG G (M_X2_allOf (nd + 1)) 67 [none, none, some (.int (z0)), none] [] (Hf w) (.inl (some (.int r.1)), Hf r.2)) : AG G (M_X2_allOf (nd + 1)) 8 [some (.ref (bx + 1)), some (.int (x1)), some (.int (x2)), some (.int (x3))] [] (Hf w) (.inl (some (.int r.1)), Hf r.2) := by
  unfold B_X2_allOf_8 at hL
  refine g_iload_n dX2_allOf_8 rfl rfl ?_
  refine g_sipush (v := 700) dX2_allOf_9 (by decide) ?_
  refine g_icmp_ge (tgt := 67) dX2_allOf_12 (by decide) (fun q13 => ?_) (fun q13 => ?_)
  · rw [if_pos q13] at hL
    refine g_none 0 ?_
    refine g_none 1 ?_
    refine g_none 3 ?_
    exact Hke67 _ _ hL
  · rw [if_neg q13] at hL
    refine g_iload_n dX2_allOf_15 rfl rfl ?_
    refine g_if_eq (tgt := 67) dX2_allOf_16 (by decide) (fun q12 => ?_) (fun q12 => ?_)
    · rw [if_pos q12] at hL
      refine g_none 0 ?_
      refine g_none 1 ?_
      refine g_none 3 ?_
      exact Hke67 _ _ hL
    · rw [if_neg q12] at hL
      refine g_aload_n dX2_allOf_19 rfl rfl ?_
      refine s_getR (k := 1) (j := 0) E.1 rfl rfl f_X2_12 dX2_allOf_20 ?_
      refine g_ldcS (k := 14) hG (by decide) rfl dX2_allOf_23 ?_
      obtain ⟨v2, w3, hc, hL⟩ := xB2_some hL
      refine g_callV (M' := M_X7_is) (as := [.ref 15]) (v := some (.int (v2))) l_X2_62 kV_X7_is (by simp only [mD]; omega) (C_X7_is_S14 hG hX E hc) rfl (by have := E.1.1; omega) (E.1.2.1 _ 2 _ rfl) ⟨_, _, rfl⟩ (Nat.le_of_ble_eq_true rfl) dX2_allOf_25 ?_
      refine g_if_eq (tgt := 67) dX2_allOf_28 (by decide) (fun q11 => ?_) (fun q11 => ?_)
      · rw [if_pos q11] at hL
        refine g_none 0 ?_
        refine g_none 1 ?_
        refine g_none 3 ?_
        exact Hke67 _ _ hL
      · rw [if_neg q11] at hL
        refine g_none 2 ?_
        refine g_aload_n dX2_allOf_31 rfl rfl ?_
        refine s_getR (k := 1) (j := 0) E.1 rfl rfl f_X2_12 dX2_allOf_32 ?_
        obtain ⟨w4, hc, hL⟩ := xB_some hL
        refine g_callV (M' := M_X7_advance) (as := []) (v := none) l_X2_99 kV_X7_advance (by simp only [mD]; omega) (C_X7_advance hG hX E hc) rfl (by have := E.1.1; omega) (E.1.2.1 _ 2 _ rfl) ⟨_, _, rfl⟩ (Nat.le_of_ble_eq_true rfl) dX2_allOf_35 ?_
        refine g_aload_n dX2_allOf_38 rfl rfl ?_
        refine g_iload_n dX2_allOf_39 rfl rfl ?_
        obtain ⟨v5, w6, hc, hL⟩ := xB2_some hL
        refine g_callV (M' := (M_X2_denied (nd + 1))) (as := [.int (x1)]) (v := some (.int v5)) l_X2_162 (kV_X2_denied (nd + 1)) (by simp only [mD]; omega) (C_X2_denied hG hX E hrec hc) rfl (by have := E.1.1; omega) (E.1.2.1 _ 1 _ rfl) ⟨_, _, rfl⟩ (Nat.le_of_ble_eq_true rfl) dX2_allOf_40 ?_
        refine g_if_eq (tgt := 59) dX2_allOf_43 (by decide) (fun q10 => ?_) (fun q10 => ?_)
        · rw [if_pos q10] at hL
          exact J_X2_allOf_59_ok hG hX E hrec hL Hkh8 Hke67
        · rw [if_neg q10] at hL
          refine g_aload_n dX2_allOf_46 rfl rfl ?_
          refine g_bipush (v := (-102)) dX2_allOf_47 (by decide) ?_
          obtain ⟨v7, w8, hc, hL⟩ := xB2_some hL
          refine g_callV (M' := M_X2_emit) (as := [.int ((-102))]) (v := some (.int (v7))) l_X2_159 kV_X2_emit (by simp only [mD]; omega) (C_X2_emit hG hX E hc) rfl (by have := E.1.1; omega) (E.1.2.1 _ 1 _ rfl) ⟨_, _, rfl⟩ (Nat.le_of_ble_eq_true rfl) dX2_allOf_49 ?_
          refine g_if_eq (tgt := 59) dX2_allOf_52 (by decide) (fun q9 => ?_) (fun q9 => ?_)
          · rw [if_pos q9] at hL
            exact J_X2_allOf_59_ok hG hX E hrec hL Hkh8 Hke67
          · rw [if_neg q9] at hL
            refine g_iconst (v := 1) dX2_allOf_55 (by decide) ?_
            refine g_goto (tgt := 60) dX2_allOf_56 (by decide) ?_
            exact J_X2_allOf_60_ok hG hX E hrec hL Hkh8 Hke67
def P_X2_allOf_8 (rec : Int32 → wS → Option (Int32 × wS)) (o : wO) (ke67 : Int32 → wS → Option (Int32 × wS)) (n : Nat) (x1 : Int32) (x2 : Int32) (x3 : Int32) (w : wS) : Option (Int32 × wS) :=
  xLoop (fun (kk : Int32 × Int32 × Int32 × wS → Option (Int32 × wS)) σ => B_X2_allOf_8 rec o (fun x1 x2 x3 w => kk (x1, x2, x3, w)) ke67 (σ.1) (σ.2.1) (σ.2.2.1) (σ.2.2.2)) n (x1, x2, x3, w)
theorem P_X2_allOf_8_ok {G : aG} {Hf : wS → aH} {bx nd : Nat} {o : wO} {rec : Int32 → wS → Option (Int32 × wS)} {ke67 : Int32 → wS → Option (Int32 × wS)} {n : Nat} {x1 : Int32} {x2 : Int32} {x3 : Int32} {w : wS} {r : Int32 × wS} (hG : aGood G) (hX : aTxt G) (E : EX Hf bx o) (hrec : ∀ (a : Int32) (w : wS) (r : Int32 × wS), rec a w = some r → AC G (M_X2_expr nd) [.ref (bx + 1), .int a] (Hf w) (.inl (some (.int r.1)), Hf r.2)) (hL : P_X2_allOf_8 rec o ke67 n x1 x2 x3 w = some r) (Hke67 : ∀ (z0 : Int32) (w : wS), ke67 z0 w = some r → AG G (M_X2_allOf (nd + 1)) 67 [none, none, some (.int (z0)), none] [] (Hf w) (.inl (some (.int r.1)), Hf r.2)) : AG G (M_X2_allOf (nd + 1)) 8 [some (.ref (bx + 1)), some (.int (x1)), some (.int (x2)), some (.int (x3))] [] (Hf w) (.inl (some (.int r.1)), Hf r.2) :=
  xLoop_ok (Q := fun (σ : Int32 × Int32 × Int32 × wS) => AG G (M_X2_allOf (nd + 1)) 8 [some (.ref (bx + 1)), some (.int (σ.1)), some (.int (σ.2.1)), some (.int (σ.2.2.1))] [] (Hf σ.2.2.2) (.inl (some (.int r.1)), Hf r.2)) (fun kk hk σ hσ => B_X2_allOf_8_ok hG hX E hrec hσ (fun x1 x2 x3 w h9 => hk (x1, x2, x3, w) h9) Hke67) n (x1, x2, x3, w) hL
def L_X2_allOf (rec : Int32 → wS → Option (Int32 × wS)) (o : wO) (a1 : Int32) (w : wS) : Option (Int32 × wS) :=
  xB2 (L_X2_denied rec o (a1) w) fun v14 w15 => P_X2_allOf_8 rec o (fun z16 w17 => J_X2_allOf_67 rec o  (z16) w17) 5000 (a1) (v14) (0) w15
set_option maxRecDepth 20000 in
theorem C_X2_allOf {G : aG} {Hf : wS → aH} {bx nd : Nat} {o : wO} {rec : Int32 → wS → Option (Int32 × wS)} {a1 : Int32} {w : wS} {r : Int32 × wS} (hG : aGood G) (hX : aTxt G) (E : EX Hf bx o) (hrec : ∀ (a : Int32) (w : wS) (r : Int32 × wS), rec a w = some r → AC G (M_X2_expr nd) [.ref (bx + 1), .int a] (Hf w) (.inl (some (.int r.1)), Hf r.2)) (hL : L_X2_allOf rec o a1 w = some r) : AC G (M_X2_allOf (nd + 1)) [.ref (bx + 1), .int a1] (Hf w) (.inl (some (.int r.1)), Hf r.2) := by
  unfold L_X2_allOf at hL
  refine AC.of (show plainName RX2 = true by decide) rfl (Nat.le_of_ble_eq_true rfl) ?_
  show AG G (M_X2_allOf (nd + 1)) 0 [some (.ref (bx + 1)), some (.int (a1)), none, none] [] _ _
  refine g_aload_n dX2_allOf_0 rfl rfl ?_
  refine g_iload_n dX2_allOf_1 rfl rfl ?_
  obtain ⟨v14, w15, hc, hL⟩ := xB2_some hL
  refine g_callV (M' := (M_X2_denied (nd + 1))) (as := [.int (a1)]) (v := some (.int v14)) l_X2_162 (kV_X2_denied (nd + 1)) (by simp only [mD]; omega) (C_X2_denied hG hX E hrec hc) rfl (by have := E.1.1; omega) (E.1.2.1 _ 1 _ rfl) ⟨_, _, rfl⟩ (Nat.le_of_ble_eq_true rfl) dX2_allOf_2 ?_
  refine g_istore_n (i := 2) dX2_allOf_5 rfl (Nat.le_of_ble_eq_true rfl) rfl ?_
  refine g_iconst (v := 0) dX2_allOf_6 (by decide) ?_
  refine g_istore_n (i := 3) dX2_allOf_7 rfl (Nat.le_of_ble_eq_true rfl) rfl ?_
  refine P_X2_allOf_8_ok hG hX E hrec hL ?_
  · intro z16 w17 hL
    exact J_X2_allOf_67_ok hG hX E hrec hL 
def J_X2_expr_127 (rec : Int32 → wS → Option (Int32 × wS)) (o : wO) (x3 : Int32) (w : wS) : Option (Int32 × wS) :=
  xB (xBool (x3)) fun v1 => some (v1, w)
set_option maxRecDepth 20000 in
theorem J_X2_expr_127_ok {G : aG} {Hf : wS → aH} {bx nd : Nat} {o : wO} {rec : Int32 → wS → Option (Int32 × wS)} {x3 : Int32} {w : wS} {r : Int32 × wS} (hG : aGood G) (hX : aTxt G) (E : EX Hf bx o) (hrec : ∀ (a : Int32) (w : wS) (r : Int32 × wS), rec a w = some r → AC G (M_X2_expr nd) [.ref (bx + 1), .int a] (Hf w) (.inl (some (.int r.1)), Hf r.2)) (hL : J_X2_expr_127 rec o  x3 w = some r) : AG G (M_X2_expr (nd + 1)) 127 [none, none, none, some (.int (x3)), none] [] (Hf w) (.inl (some (.int r.1)), Hf r.2) := by
  unfold J_X2_expr_127 at hL
  refine g_iload_n dX2_expr_127 rfl rfl ?_
  refine g_none 3 ?_
  obtain ⟨v1, hb, hR⟩ := xB_some hL
  obtain ⟨hz, hb2⟩ := xBool_some hb
  clear hL
  subst hz
  obtain rfl := Option.some.inj hR
  exact g_zret rfl (narrow_bool hb2) dX2_expr_128
def J_X2_expr_120 (rec : Int32 → wS → Option (Int32 × wS)) (o : wO) (kh67 : Int32 → Int32 → Int32 → wS → Option (Int32 × wS)) (ke127 : Int32 → wS → Option (Int32 × wS)) (x1 : Int32) (x4 : Int32) (y0 : Int32) (w : wS) : Option (Int32 × wS) :=
  kh67 (x1) (y0) ((x4 + 1)) w
set_option maxRecDepth 20000 in
theorem J_X2_expr_120_ok {G : aG} {Hf : wS → aH} {bx nd : Nat} {o : wO} {rec : Int32 → wS → Option (Int32 × wS)} {kh67 : Int32 → Int32 → Int32 → wS → Option (Int32 × wS)} {ke127 : Int32 → wS → Option (Int32 × wS)} {x1 : Int32} {x4 : Int32} {y0 : Int32} {w : wS} {r : Int32 × wS} (hG : aGood G) (hX : aTxt G) (E : EX Hf bx o) (hrec : ∀ (a : Int32) (w : wS) (r : Int32 × wS), rec a w = some r → AC G (M_X2_expr nd) [.ref (bx + 1), .int a] (Hf w) (.inl (some (.int r.1)), Hf r.2)) (hL : J_X2_expr_120 rec o kh67 ke127 x1 x4 y0 w = some r) (Hkh67 : ∀ (z0 : Int32) (z1 : Int32) (z2 : Int32) (w : wS), kh67 z0 z1 z2 w = some r → AG G (M_X2_expr (nd + 1)) 67 [some (.ref (bx + 1)), some (.int (z0)), none, some (.int (z1)), some (.int (z2))] [] (Hf w) (.inl (some (.int r.1)), Hf r.2)) (Hke127 : ∀ (z0 : Int32) (w : wS), ke127 z0 w = some r → AG G (M_X2_expr (nd + 1)) 127 [none, none, none, some (.int (z0)), none] [] (Hf w) (.inl (some (.int r.1)), Hf r.2)) : AG G (M_X2_expr (nd + 1)) 120 [some (.ref (bx + 1)), some (.int (x1)), none, none, some (.int (x4))] [.int (y0)] (Hf w) (.inl (some (.int r.1)), Hf r.2) := by
  unfold J_X2_expr_120 at hL
  refine g_istore_n (i := 3) dX2_expr_120 rfl (Nat.le_of_ble_eq_true rfl) rfl ?_
  refine g_iincV (v := (x4 + 1)) dX2_expr_121 rfl rfl (Nat.le_of_ble_eq_true rfl) rfl ?_
  refine g_goto (tgt := 67) dX2_expr_124 (by decide) ?_
  exact Hkh67 _ _ _ _ hL
def J_X2_expr_119 (rec : Int32 → wS → Option (Int32 × wS)) (o : wO) (kh67 : Int32 → Int32 → Int32 → wS → Option (Int32 × wS)) (ke127 : Int32 → wS → Option (Int32 × wS)) (x1 : Int32) (x4 : Int32) (w : wS) : Option (Int32 × wS) :=
  J_X2_expr_120 rec o kh67 ke127 (x1) (x4) (0) w
set_option maxRecDepth 20000 in
theorem J_X2_expr_119_ok {G : aG} {Hf : wS → aH} {bx nd : Nat} {o : wO} {rec : Int32 → wS → Option (Int32 × wS)} {kh67 : Int32 → Int32 → Int32 → wS → Option (Int32 × wS)} {ke127 : Int32 → wS → Option (Int32 × wS)} {x1 : Int32} {x4 : Int32} {w : wS} {r : Int32 × wS} (hG : aGood G) (hX : aTxt G) (E : EX Hf bx o) (hrec : ∀ (a : Int32) (w : wS) (r : Int32 × wS), rec a w = some r → AC G (M_X2_expr nd) [.ref (bx + 1), .int a] (Hf w) (.inl (some (.int r.1)), Hf r.2)) (hL : J_X2_expr_119 rec o kh67 ke127 x1 x4 w = some r) (Hkh67 : ∀ (z0 : Int32) (z1 : Int32) (z2 : Int32) (w : wS), kh67 z0 z1 z2 w = some r → AG G (M_X2_expr (nd + 1)) 67 [some (.ref (bx + 1)), some (.int (z0)), none, some (.int (z1)), some (.int (z2))] [] (Hf w) (.inl (some (.int r.1)), Hf r.2)) (Hke127 : ∀ (z0 : Int32) (w : wS), ke127 z0 w = some r → AG G (M_X2_expr (nd + 1)) 127 [none, none, none, some (.int (z0)), none] [] (Hf w) (.inl (some (.int r.1)), Hf r.2)) : AG G (M_X2_expr (nd + 1)) 119 [some (.ref (bx + 1)), some (.int (x1)), none, none, some (.int (x4))] [] (Hf w) (.inl (some (.int r.1)), Hf r.2) := by
  unfold J_X2_expr_119 at hL
  refine g_iconst (v := 0) dX2_expr_119 (by decide) ?_
  exact J_X2_expr_120_ok hG hX E hrec hL Hkh67 Hke127
def B_X2_expr_67 (rec : Int32 → wS → Option (Int32 × wS)) (o : wO) (kh67 : Int32 → Int32 → Int32 → wS → Option (Int32 × wS)) (ke127 : Int32 → wS → Option (Int32 × wS)) (x1 : Int32) (x3 : Int32) (x4 : Int32) (w : wS) : Option (Int32 × wS) :=
  if 700 ≤ x4 then ke127 (x3) w else if x3 = 0 then ke127 (x3) w else xB2 (L_X7_is_S15 o  w) fun v2 w3 => if v2 = 0 then ke127 (x3) w3 else xB (L_X7_advance o  w3) fun w4 => xB2 (L_X2_allOf rec o (x1) w4) fun v5 w6 => if v5 = 0 then J_X2_expr_119 rec o kh67 ke127 (x1) (x4) w6 else xB2 (L_X2_emit o ((-101)) w6) fun v7 w8 => if v7 = 0 then J_X2_expr_119 rec o kh67 ke127 (x1) (x4) w8 else J_X2_expr_120 rec o kh67 ke127 (x1) (x4) (1) w8
set_option maxRecDepth 20000 in
theorem B_X2_expr_67_ok {G : aG} {Hf : wS → aH} {bx nd : Nat} {o : wO} {rec : Int32 → wS → Option (Int32 × wS)} {kh67 : Int32 → Int32 → Int32 → wS → Option (Int32 × wS)} {ke127 : Int32 → wS → Option (Int32 × wS)} {x1 : Int32} {x3 : Int32} {x4 : Int32} {w : wS} {r : Int32 × wS} (hG : aGood G) (hX : aTxt G) (E : EX Hf bx o) (hrec : ∀ (a : Int32) (w : wS) (r : Int32 × wS), rec a w = some r → AC G (M_X2_expr nd) [.ref (bx + 1), .int a] (Hf w) (.inl (some (.int r.1)), Hf r.2)) (hL : B_X2_expr_67 rec o kh67 ke127 x1 x3 x4 w = some r) (Hkh67 : ∀ (z0 : Int32) (z1 : Int32) (z2 : Int32) (w : wS), kh67 z0 z1 z2 w = some r → AG G (M_X2_expr (nd + 1)) 67 [some (.ref (bx + 1)), some (.int (z0)), none, some (.int (z1)), some (.int (z2))] [] (Hf w) (.inl (some (.int r.1)), Hf r.2)) (Hke127 : ∀ (z0 : Int32) (w : wS), ke127 z0 w = some r → AG G (M_X2_expr (nd + 1)) 127 [none, none, none, some (.int (z0)), none] [] (Hf w) (.inl (some (.int r.1)), Hf r.2)) : AG G (M_X2_expr (nd + 1)) 67 [some (.ref (bx + 1)), some (.int (x1)), none, some (.int (x3)), some (.int (x4))] [] (Hf w) (.inl (some (.int r.1)), Hf r.2) := by
  unfold B_X2_expr_67 at hL
  refine g_iload dX2_expr_67 rfl ?_
  refine g_sipush (v := 700) dX2_expr_69 (by decide) ?_
  refine g_icmp_ge (tgt := 127) dX2_expr_72 (by decide) (fun q13 => ?_) (fun q13 => ?_)
  · rw [if_pos q13] at hL
    refine g_none 0 ?_
    refine g_none 1 ?_
    refine g_none 4 ?_
    exact Hke127 _ _ hL
  · rw [if_neg q13] at hL
    refine g_iload_n dX2_expr_75 rfl rfl ?_
    refine g_if_eq (tgt := 127) dX2_expr_76 (by decide) (fun q12 => ?_) (fun q12 => ?_)
    · rw [if_pos q12] at hL
      refine g_none 0 ?_
      refine g_none 1 ?_
      refine g_none 4 ?_
      exact Hke127 _ _ hL
    · rw [if_neg q12] at hL
      refine g_aload_n dX2_expr_79 rfl rfl ?_
      refine s_getR (k := 1) (j := 0) E.1 rfl rfl f_X2_12 dX2_expr_80 ?_
      refine g_ldcS (k := 15) hG (by decide) rfl dX2_expr_83 ?_
      obtain ⟨v2, w3, hc, hL⟩ := xB2_some hL
      refine g_callV (M' := M_X7_is) (as := [.ref 16]) (v := some (.int (v2))) l_X2_62 kV_X7_is (by simp only [mD]; omega) (C_X7_is_S15 hG hX E hc) rfl (by have := E.1.1; omega) (E.1.2.1 _ 2 _ rfl) ⟨_, _, rfl⟩ (Nat.le_of_ble_eq_true rfl) dX2_expr_85 ?_
      refine g_if_eq (tgt := 127) dX2_expr_88 (by decide) (fun q11 => ?_) (fun q11 => ?_)
      · rw [if_pos q11] at hL
        refine g_none 0 ?_
        refine g_none 1 ?_
        refine g_none 4 ?_
        exact Hke127 _ _ hL
      · rw [if_neg q11] at hL
        refine g_none 3 ?_
        refine g_aload_n dX2_expr_91 rfl rfl ?_
        refine s_getR (k := 1) (j := 0) E.1 rfl rfl f_X2_12 dX2_expr_92 ?_
        obtain ⟨w4, hc, hL⟩ := xB_some hL
        refine g_callV (M' := M_X7_advance) (as := []) (v := none) l_X2_99 kV_X7_advance (by simp only [mD]; omega) (C_X7_advance hG hX E hc) rfl (by have := E.1.1; omega) (E.1.2.1 _ 2 _ rfl) ⟨_, _, rfl⟩ (Nat.le_of_ble_eq_true rfl) dX2_expr_95 ?_
        refine g_aload_n dX2_expr_98 rfl rfl ?_
        refine g_iload_n dX2_expr_99 rfl rfl ?_
        obtain ⟨v5, w6, hc, hL⟩ := xB2_some hL
        refine g_callV (M' := (M_X2_allOf (nd + 1))) (as := [.int (x1)]) (v := some (.int v5)) l_X2_154 (kV_X2_allOf (nd + 1)) (by simp only [mD]; omega) (C_X2_allOf hG hX E hrec hc) rfl (by have := E.1.1; omega) (E.1.2.1 _ 1 _ rfl) ⟨_, _, rfl⟩ (Nat.le_of_ble_eq_true rfl) dX2_expr_100 ?_
        refine g_if_eq (tgt := 119) dX2_expr_103 (by decide) (fun q10 => ?_) (fun q10 => ?_)
        · rw [if_pos q10] at hL
          exact J_X2_expr_119_ok hG hX E hrec hL Hkh67 Hke127
        · rw [if_neg q10] at hL
          refine g_aload_n dX2_expr_106 rfl rfl ?_
          refine g_bipush (v := (-101)) dX2_expr_107 (by decide) ?_
          obtain ⟨v7, w8, hc, hL⟩ := xB2_some hL
          refine g_callV (M' := M_X2_emit) (as := [.int ((-101))]) (v := some (.int (v7))) l_X2_159 kV_X2_emit (by simp only [mD]; omega) (C_X2_emit hG hX E hc) rfl (by have := E.1.1; omega) (E.1.2.1 _ 1 _ rfl) ⟨_, _, rfl⟩ (Nat.le_of_ble_eq_true rfl) dX2_expr_109 ?_
          refine g_if_eq (tgt := 119) dX2_expr_112 (by decide) (fun q9 => ?_) (fun q9 => ?_)
          · rw [if_pos q9] at hL
            exact J_X2_expr_119_ok hG hX E hrec hL Hkh67 Hke127
          · rw [if_neg q9] at hL
            refine g_iconst (v := 1) dX2_expr_115 (by decide) ?_
            refine g_goto (tgt := 120) dX2_expr_116 (by decide) ?_
            exact J_X2_expr_120_ok hG hX E hrec hL Hkh67 Hke127
def P_X2_expr_67 (rec : Int32 → wS → Option (Int32 × wS)) (o : wO) (ke127 : Int32 → wS → Option (Int32 × wS)) (n : Nat) (x1 : Int32) (x3 : Int32) (x4 : Int32) (w : wS) : Option (Int32 × wS) :=
  xLoop (fun (kk : Int32 × Int32 × Int32 × wS → Option (Int32 × wS)) σ => B_X2_expr_67 rec o (fun x1 x3 x4 w => kk (x1, x3, x4, w)) ke127 (σ.1) (σ.2.1) (σ.2.2.1) (σ.2.2.2)) n (x1, x3, x4, w)
theorem P_X2_expr_67_ok {G : aG} {Hf : wS → aH} {bx nd : Nat} {o : wO} {rec : Int32 → wS → Option (Int32 × wS)} {ke127 : Int32 → wS → Option (Int32 × wS)} {n : Nat} {x1 : Int32} {x3 : Int32} {x4 : Int32} {w : wS} {r : Int32 × wS} (hG : aGood G) (hX : aTxt G) (E : EX Hf bx o) (hrec : ∀ (a : Int32) (w : wS) (r : Int32 × wS), rec a w = some r → AC G (M_X2_expr nd) [.ref (bx + 1), .int a] (Hf w) (.inl (some (.int r.1)), Hf r.2)) (hL : P_X2_expr_67 rec o ke127 n x1 x3 x4 w = some r) (Hke127 : ∀ (z0 : Int32) (w : wS), ke127 z0 w = some r → AG G (M_X2_expr (nd + 1)) 127 [none, none, none, some (.int (z0)), none] [] (Hf w) (.inl (some (.int r.1)), Hf r.2)) : AG G (M_X2_expr (nd + 1)) 67 [some (.ref (bx + 1)), some (.int (x1)), none, some (.int (x3)), some (.int (x4))] [] (Hf w) (.inl (some (.int r.1)), Hf r.2) :=
  xLoop_ok (Q := fun (σ : Int32 × Int32 × Int32 × wS) => AG G (M_X2_expr (nd + 1)) 67 [some (.ref (bx + 1)), some (.int (σ.1)), none, some (.int (σ.2.1)), some (.int (σ.2.2.1))] [] (Hf σ.2.2.2) (.inl (some (.int r.1)), Hf r.2)) (fun kk hk σ hσ => B_X2_expr_67_ok hG hX E hrec hσ (fun x1 x3 x4 w h9 => hk (x1, x3, x4, w) h9) Hke127) n (x1, x3, x4, w) hL
def J_X2_expr_58 (rec : Int32 → wS → Option (Int32 × wS)) (o : wO) (x1 : Int32) (w : wS) : Option (Int32 × wS) :=
  xB2 (L_X2_allOf rec o (x1) w) fun v14 w15 => P_X2_expr_67 rec o (fun z16 w17 => J_X2_expr_127 rec o  (z16) w17) 5000 (x1) (v14) (0) w15
set_option maxRecDepth 20000 in
theorem J_X2_expr_58_ok {G : aG} {Hf : wS → aH} {bx nd : Nat} {o : wO} {rec : Int32 → wS → Option (Int32 × wS)} {x1 : Int32} {w : wS} {r : Int32 × wS} (hG : aGood G) (hX : aTxt G) (E : EX Hf bx o) (hrec : ∀ (a : Int32) (w : wS) (r : Int32 × wS), rec a w = some r → AC G (M_X2_expr nd) [.ref (bx + 1), .int a] (Hf w) (.inl (some (.int r.1)), Hf r.2)) (hL : J_X2_expr_58 rec o  x1 w = some r) : AG G (M_X2_expr (nd + 1)) 58 [some (.ref (bx + 1)), some (.int (x1)), none, none, none] [] (Hf w) (.inl (some (.int r.1)), Hf r.2) := by
  unfold J_X2_expr_58 at hL
  refine g_aload_n dX2_expr_58 rfl rfl ?_
  refine g_iload_n dX2_expr_59 rfl rfl ?_
  obtain ⟨v14, w15, hc, hL⟩ := xB2_some hL
  refine g_callV (M' := (M_X2_allOf (nd + 1))) (as := [.int (x1)]) (v := some (.int v14)) l_X2_154 (kV_X2_allOf (nd + 1)) (by simp only [mD]; omega) (C_X2_allOf hG hX E hrec hc) rfl (by have := E.1.1; omega) (E.1.2.1 _ 1 _ rfl) ⟨_, _, rfl⟩ (Nat.le_of_ble_eq_true rfl) dX2_expr_60 ?_
  refine g_istore_n (i := 3) dX2_expr_63 rfl (Nat.le_of_ble_eq_true rfl) rfl ?_
  refine g_iconst (v := 0) dX2_expr_64 (by decide) ?_
  refine g_istore (i := 4) dX2_expr_65 (Nat.le_of_ble_eq_true rfl) rfl ?_
  refine P_X2_expr_67_ok hG hX E hrec hL ?_
  · intro z16 w17 hL
    exact J_X2_expr_127_ok hG hX E hrec hL 
def J_X2_expr_41 (rec : Int32 → wS → Option (Int32 × wS)) (o : wO) (x1 : Int32) (y0 : Int32) (w : wS) : Option (Int32 × wS) :=
  if x1 < 6 then J_X2_expr_58 rec o  (x1) w else if y0 = 0 then J_X2_expr_58 rec o  (x1) w else xB2 (L_X2_refuse o (2) w) fun v18 w19 => xB (xBool (v18)) fun v20 => some (v20, w19)
set_option maxRecDepth 20000 in
theorem J_X2_expr_41_ok {G : aG} {Hf : wS → aH} {bx nd : Nat} {o : wO} {rec : Int32 → wS → Option (Int32 × wS)} {x1 : Int32} {y0 : Int32} {w : wS} {r : Int32 × wS} (hG : aGood G) (hX : aTxt G) (E : EX Hf bx o) (hrec : ∀ (a : Int32) (w : wS) (r : Int32 × wS), rec a w = some r → AC G (M_X2_expr nd) [.ref (bx + 1), .int a] (Hf w) (.inl (some (.int r.1)), Hf r.2)) (hL : J_X2_expr_41 rec o  x1 y0 w = some r) : AG G (M_X2_expr (nd + 1)) 41 [some (.ref (bx + 1)), some (.int (x1)), none, none, none] [.int (y0)] (Hf w) (.inl (some (.int r.1)), Hf r.2) := by
  unfold J_X2_expr_41 at hL
  refine g_istore_n (i := 2) dX2_expr_41 rfl (Nat.le_of_ble_eq_true rfl) rfl ?_
  refine g_iload_n dX2_expr_42 rfl rfl ?_
  refine g_bipush (v := 6) dX2_expr_43 (by decide) ?_
  refine g_icmp_lt (tgt := 58) dX2_expr_45 (by decide) (fun q22 => ?_) (fun q22 => ?_)
  · rw [if_pos q22] at hL
    refine g_none 2 ?_
    exact J_X2_expr_58_ok hG hX E hrec hL 
  · rw [if_neg q22] at hL
    refine g_iload_n dX2_expr_48 rfl rfl ?_
    refine g_none 2 ?_
    refine g_if_eq (tgt := 58) dX2_expr_49 (by decide) (fun q21 => ?_) (fun q21 => ?_)
    · rw [if_pos q21] at hL
      exact J_X2_expr_58_ok hG hX E hrec hL 
    · rw [if_neg q21] at hL
      refine g_none 1 ?_
      refine g_aload_n dX2_expr_52 rfl rfl ?_
      refine g_none 0 ?_
      refine g_iconst (v := 2) dX2_expr_53 (by decide) ?_
      obtain ⟨v18, w19, hc, hL⟩ := xB2_some hL
      refine g_callV (M' := M_X2_refuse) (as := [.int (2)]) (v := some (.int (v18))) l_X2_92 kV_X2_refuse (by simp only [mD]; omega) (C_X2_refuse hG hX E hc) rfl (by have := E.1.1; omega) (E.1.2.1 _ 1 _ rfl) ⟨_, _, rfl⟩ (Nat.le_of_ble_eq_true rfl) dX2_expr_54 ?_
      obtain ⟨v20, hb, hR⟩ := xB_some hL
      obtain ⟨hz, hb2⟩ := xBool_some hb
      clear hL
      subst hz
      obtain rfl := Option.some.inj hR
      exact g_zret rfl (narrow_bool hb2) dX2_expr_57
def J_X2_expr_36 (rec : Int32 → wS → Option (Int32 × wS)) (o : wO) (x1 : Int32) (w : wS) : Option (Int32 × wS) :=
  J_X2_expr_41 rec o  (x1) (1) w
set_option maxRecDepth 20000 in
theorem J_X2_expr_36_ok {G : aG} {Hf : wS → aH} {bx nd : Nat} {o : wO} {rec : Int32 → wS → Option (Int32 × wS)} {x1 : Int32} {w : wS} {r : Int32 × wS} (hG : aGood G) (hX : aTxt G) (E : EX Hf bx o) (hrec : ∀ (a : Int32) (w : wS) (r : Int32 × wS), rec a w = some r → AC G (M_X2_expr nd) [.ref (bx + 1), .int a] (Hf w) (.inl (some (.int r.1)), Hf r.2)) (hL : J_X2_expr_36 rec o  x1 w = some r) : AG G (M_X2_expr (nd + 1)) 36 [some (.ref (bx + 1)), some (.int (x1)), none, none, none] [] (Hf w) (.inl (some (.int r.1)), Hf r.2) := by
  unfold J_X2_expr_36 at hL
  refine g_iconst (v := 1) dX2_expr_36 (by decide) ?_
  refine g_goto (tgt := 41) dX2_expr_37 (by decide) ?_
  exact J_X2_expr_41_ok hG hX E hrec hL 
def L_X2_expr (rec : Int32 → wS → Option (Int32 × wS)) (o : wO) (a1 : Int32) (w : wS) : Option (Int32 × wS) :=
  xB (xGet w 202) fun v23 => if v23 = 48 then J_X2_expr_36 rec o  (a1) w else xB (xGet w 202) fun v24 => if v24 = 97 then J_X2_expr_36 rec o  (a1) w else xB (xGet w 202) fun v25 => if v25 = 40 then J_X2_expr_36 rec o  (a1) w else J_X2_expr_41 rec o  (a1) (0) w
set_option maxRecDepth 20000 in
theorem C_X2_expr {G : aG} {Hf : wS → aH} {bx nd : Nat} {o : wO} {rec : Int32 → wS → Option (Int32 × wS)} {a1 : Int32} {w : wS} {r : Int32 × wS} (hG : aGood G) (hX : aTxt G) (E : EX Hf bx o) (hrec : ∀ (a : Int32) (w : wS) (r : Int32 × wS), rec a w = some r → AC G (M_X2_expr nd) [.ref (bx + 1), .int a] (Hf w) (.inl (some (.int r.1)), Hf r.2)) (hL : L_X2_expr rec o a1 w = some r) : AC G (M_X2_expr (nd + 1)) [.ref (bx + 1), .int a1] (Hf w) (.inl (some (.int r.1)), Hf r.2) := by
  unfold L_X2_expr at hL
  refine AC.of (show plainName RX2 = true by decide) rfl (Nat.le_of_ble_eq_true rfl) ?_
  show AG G (M_X2_expr (nd + 1)) 0 [some (.ref (bx + 1)), some (.int (a1)), none, none, none] [] _ _
  refine g_aload_n dX2_expr_0 rfl rfl ?_
  refine s_getR (k := 1) (j := 0) E.1 rfl rfl f_X2_12 dX2_expr_1 ?_
  refine s_getI (k := 2) (j := 2) E.1 hL rfl rfl f_X2_50 dX2_expr_4 ?_
  intro v23 hL
  refine g_bipush (v := 48) dX2_expr_7 (by decide) ?_
  refine g_icmp_eq (tgt := 36) dX2_expr_9 (by decide) (fun q28 => ?_) (fun q28 => ?_)
  · rw [if_pos q28] at hL
    exact J_X2_expr_36_ok hG hX E hrec hL 
  · rw [if_neg q28] at hL
    refine g_aload_n dX2_expr_12 rfl rfl ?_
    refine s_getR (k := 1) (j := 0) E.1 rfl rfl f_X2_12 dX2_expr_13 ?_
    refine s_getI (k := 2) (j := 2) E.1 hL rfl rfl f_X2_50 dX2_expr_16 ?_
    intro v24 hL
    refine g_bipush (v := 97) dX2_expr_19 (by decide) ?_
    refine g_icmp_eq (tgt := 36) dX2_expr_21 (by decide) (fun q27 => ?_) (fun q27 => ?_)
    · rw [if_pos q27] at hL
      exact J_X2_expr_36_ok hG hX E hrec hL 
    · rw [if_neg q27] at hL
      refine g_aload_n dX2_expr_24 rfl rfl ?_
      refine s_getR (k := 1) (j := 0) E.1 rfl rfl f_X2_12 dX2_expr_25 ?_
      refine s_getI (k := 2) (j := 2) E.1 hL rfl rfl f_X2_50 dX2_expr_28 ?_
      intro v25 hL
      refine g_bipush (v := 40) dX2_expr_31 (by decide) ?_
      refine g_icmp_ne (tgt := 40) dX2_expr_33 (by decide) (fun q26 => ?_) (fun q26 => ?_)
      · rw [if_neg q26] at hL
        refine g_iconst (v := 0) dX2_expr_40 (by decide) ?_
        exact J_X2_expr_41_ok hG hX E hrec hL 
      · rw [if_pos q26] at hL
        exact J_X2_expr_36_ok hG hX E hrec hL 
/-- the recursive reading, to a depth n -/
def L_X2_exprN : Nat → wO → Int32 → wS → Option (Int32 × wS)
  | 0, _, _, _ => none
  | n + 1, o, a, w => L_X2_expr (L_X2_exprN n o) o a w
theorem C_X2_exprN {G : aG} {Hf : wS → aH} {bx : Nat} {o : wO} (hG : aGood G) (hX : aTxt G) (E : EX Hf bx o) : ∀ (n : Nat) (a : Int32) (w : wS) (r : Int32 × wS), L_X2_exprN n o a w = some r → AC G (M_X2_expr n) [.ref (bx + 1), .int a] (Hf w) (.inl (some (.int r.1)), Hf r.2)
  | 0, _, _, _, h => by cases h
  | n + 1, a, w, r, h => C_X2_expr hG hX E (C_X2_exprN hG hX E n) h
