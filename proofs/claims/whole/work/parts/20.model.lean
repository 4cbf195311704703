def L_X10_thrown (w : wS) : Option (Int32 × wS) :=
  xB (xGet w 0) fun v1 => some (v1, w)
set_option maxRecDepth 20000 in
theorem C_X10_thrown {G : aG} {Hf : wS → aH} {b : Nat} {w : wS} {r : Int32 × wS} (E : Emb Hf b 0 tbM) (hL : L_X10_thrown  w = some r) : AC G M_X10_thrown [.ref (b + 0)] (Hf w) (.inl (some (.int r.1)), Hf r.2) := by
  unfold L_X10_thrown at hL
  refine AC.of (by decide) rfl (Nat.le_of_ble_eq_true rfl) ?_
  show AG G M_X10_thrown 0 [some (.ref (b + 0))] [] _ _
  refine g_aload_n dX10_thrown_0 rfl rfl ?_
  refine g_none 0 ?_
  refine s_getI (k := 0) (j := 0) E hL rfl rfl f_X10_120 dX10_thrown_1 ?_
  intro v1 hL
  obtain rfl := Option.some.inj hL
  exact g_iret rfl dX10_thrown_4
def J_X10_right_28 (y0 : Int32) (w : wS) : Option (Int32 × wS) :=
  xB (xBool (y0)) fun v1 => some (v1, w)
set_option maxRecDepth 20000 in
theorem J_X10_right_28_ok {G : aG} {Hf : wS → aH} {b : Nat} {y0 : Int32} {w : wS} {r : Int32 × wS} (E : Emb Hf b 0 tbM) (hL : J_X10_right_28  y0 w = some r) : AG G M_X10_right 28 [none, none, none] [.int (y0)] (Hf w) (.inl (some (.int r.1)), Hf r.2) := by
  unfold J_X10_right_28 at hL
  obtain ⟨v1, hb, hR⟩ := xB_some hL
  obtain ⟨hz, hb2⟩ := xBool_some hb
  clear hL
  subst hz
  obtain rfl := Option.some.inj hR
  exact g_zret rfl (narrow_bool hb2) dX10_right_28
def J_X10_right_16 (w : wS) : Option (Int32 × wS) :=
  xB (xGet w 0) fun v2 => if v2 = 0 then J_X10_right_28  (1) w else J_X10_right_28  (0) w
set_option maxRecDepth 20000 in
theorem J_X10_right_16_ok {G : aG} {Hf : wS → aH} {b : Nat} {w : wS} {r : Int32 × wS} (E : Emb Hf b 0 tbM) (hL : J_X10_right_16   w = some r) : AG G M_X10_right 16 [some (.ref (b + 0)), none, none] [] (Hf w) (.inl (some (.int r.1)), Hf r.2) := by
  unfold J_X10_right_16 at hL
  refine g_aload_n dX10_right_16 rfl rfl ?_
  refine g_none 0 ?_
  refine s_getI (k := 0) (j := 0) E hL rfl rfl f_X10_120 dX10_right_17 ?_
  intro v2 hL
  refine g_if_ne (tgt := 27) dX10_right_20 (by decide) (fun q3 => ?_) (fun q3 => ?_)
  · rw [if_neg q3] at hL
    refine g_iconst (v := 0) dX10_right_27 (by decide) ?_
    exact J_X10_right_28_ok E hL 
  · rw [if_pos q3] at hL
    refine g_iconst (v := 1) dX10_right_23 (by decide) ?_
    refine g_goto (tgt := 28) dX10_right_24 (by decide) ?_
    exact J_X10_right_28_ok E hL 
def L_X10_right (a1 : Int32) (a2 : Int32) (w : wS) : Option (Int32 × wS) :=
  xB (xGet w 0) fun v4 => if v4 = 0 then if a1 = 0 then xB (xPut w 0 (a2)) fun w5 => J_X10_right_16   w5 else J_X10_right_16   w else J_X10_right_16   w
set_option maxRecDepth 20000 in
theorem C_X10_right {G : aG} {Hf : wS → aH} {b : Nat} {a1 : Int32} {a2 : Int32} {w : wS} {r : Int32 × wS} (E : Emb Hf b 0 tbM) (hL : L_X10_right a1 a2 w = some r) : AC G M_X10_right [.ref (b + 0), .int a1, .int a2] (Hf w) (.inl (some (.int r.1)), Hf r.2) := by
  unfold L_X10_right at hL
  refine AC.of (by decide) rfl (Nat.le_of_ble_eq_true rfl) ?_
  show AG G M_X10_right 0 [some (.ref (b + 0)), some (.int (a1)), some (.int (a2))] [] _ _
  refine g_aload_n dX10_right_0 rfl rfl ?_
  refine s_getI (k := 0) (j := 0) E hL rfl rfl f_X10_120 dX10_right_1 ?_
  intro v4 hL
  refine g_if_ne (tgt := 16) dX10_right_4 (by decide) (fun q7 => ?_) (fun q7 => ?_)
  · rw [if_neg q7] at hL
    refine g_none 1 ?_
    refine g_none 2 ?_
    exact J_X10_right_16_ok E hL 
  · rw [if_pos q7] at hL
    refine g_iload_n dX10_right_7 rfl rfl ?_
    refine g_none 1 ?_
    refine g_if_ne (tgt := 16) dX10_right_8 (by decide) (fun q6 => ?_) (fun q6 => ?_)
    · rw [if_neg q6] at hL
      refine g_none 2 ?_
      exact J_X10_right_16_ok E hL 
    · rw [if_pos q6] at hL
      refine g_aload_n dX10_right_11 rfl rfl ?_
      refine g_iload_n dX10_right_12 rfl rfl ?_
      refine g_none 2 ?_
      refine s_putI (k := 0) (j := 0) E hL rfl rfl (by decide) fw_X10_120 rfl rfl dX10_right_13 ?_
      intro w5 hL
      exact J_X10_right_16_ok E hL 
def J_X10_within_15 (y0 : Int32) : Option (Int32) :=
  xB (xBool (y0)) fun v1 => some v1
set_option maxRecDepth 20000 in
theorem J_X10_within_15_ok {G : aG} {h : aH} {y0 : Int32} {r : Int32} (hL : J_X10_within_15  y0 = some r) : AG G M_X10_within 15 [none, none, none] [.int (y0)] h (.inl (some (.int r)), h) := by
  unfold J_X10_within_15 at hL
  obtain ⟨v1, hb, hR⟩ := xB_some hL
  obtain ⟨hz, hb2⟩ := xBool_some hb
  clear hL
  subst hz
  obtain rfl := Option.some.inj hR
  exact g_zret rfl (narrow_bool hb2) dX10_within_15
def J_X10_within_14 : Option (Int32) :=
  J_X10_within_15  (0)
set_option maxRecDepth 20000 in
theorem J_X10_within_14_ok {G : aG} {h : aH} {r : Int32} (hL : J_X10_within_14   = some r) : AG G M_X10_within 14 [none, none, none] [] h (.inl (some (.int r)), h) := by
  unfold J_X10_within_14 at hL
  refine g_iconst (v := 0) dX10_within_14 (by decide) ?_
  exact J_X10_within_15_ok hL 
def L_X10_within (a1 : Int32) (a2 : Int32) (a3 : Int32) : Option (Int32) :=
  if a1 < a2 then J_X10_within_14   else if a3 < a1 then J_X10_within_14   else J_X10_within_15  (1)
set_option maxRecDepth 20000 in
theorem C_X10_within {G : aG} {h : aH} {a1 : Int32} {a2 : Int32} {a3 : Int32} {r : Int32} (hL : L_X10_within a1 a2 a3 = some r) : AC G M_X10_within [.int a1, .int a2, .int a3] h (.inl (some (.int r)), h) := by
  unfold L_X10_within at hL
  refine AC.of (by decide) rfl (Nat.le_of_ble_eq_true rfl) ?_
  show AG G M_X10_within 0 [some (.int (a1)), some (.int (a2)), some (.int (a3))] [] _ _
  refine g_iload_n dX10_within_0 rfl rfl ?_
  refine g_iload_n dX10_within_1 rfl rfl ?_
  refine g_none 1 ?_
  refine g_icmp_lt (tgt := 14) dX10_within_2 (by decide) (fun q3 => ?_) (fun q3 => ?_)
  · rw [if_pos q3] at hL
    refine g_none 0 ?_
    refine g_none 2 ?_
    exact J_X10_within_14_ok hL 
  · rw [if_neg q3] at hL
    refine g_iload_n dX10_within_5 rfl rfl ?_
    refine g_none 0 ?_
    refine g_iload_n dX10_within_6 rfl rfl ?_
    refine g_none 2 ?_
    refine g_icmp_gt (tgt := 14) dX10_within_7 (by decide) (fun q2 => ?_) (fun q2 => ?_)
    · rw [if_pos q2] at hL
      exact J_X10_within_14_ok hL 
    · rw [if_neg q2] at hL
      refine g_iconst (v := 1) dX10_within_10 (by decide) ?_
      refine g_goto (tgt := 15) dX10_within_11 (by decide) ?_
      exact J_X10_within_15_ok hL 
def J_X10_bounded_19 (y0 : Int32) : Option (Int32) :=
  some (y0)
set_option maxRecDepth 20000 in
theorem J_X10_bounded_19_ok {G : aG} {h : aH} {y0 : Int32} {r : Int32} (hL : J_X10_bounded_19  y0 = some r) : AG G M_X10_bounded 19 [none, none, none] [.int (y0)] h (.inl (some (.int r)), h) := by
  unfold J_X10_bounded_19 at hL
  obtain rfl := Option.some.inj hL
  exact g_iret rfl dX10_bounded_19
def L_X10_bounded (a1 : Int32) (a2 : Int32) (a3 : Int32) : Option (Int32) :=
  if a2 ≤ a1 then if a1 ≤ a3 then J_X10_bounded_19  (a1) else J_X10_bounded_19  (a3) else J_X10_bounded_19  (a2)
set_option maxRecDepth 20000 in
theorem C_X10_bounded {G : aG} {h : aH} {a1 : Int32} {a2 : Int32} {a3 : Int32} {r : Int32} (hL : L_X10_bounded a1 a2 a3 = some r) : AC G M_X10_bounded [.int a1, .int a2, .int a3] h (.inl (some (.int r)), h) := by
  unfold L_X10_bounded at hL
  refine AC.of (by decide) rfl (Nat.le_of_ble_eq_true rfl) ?_
  show AG G M_X10_bounded 0 [some (.int (a1)), some (.int (a2)), some (.int (a3))] [] _ _
  refine g_iload_n dX10_bounded_0 rfl rfl ?_
  refine g_iload_n dX10_bounded_1 rfl rfl ?_
  refine g_icmp_ge (tgt := 9) dX10_bounded_2 (by decide) (fun q2 => ?_) (fun q2 => ?_)
  · rw [if_pos q2] at hL
    refine g_none 1 ?_
    refine g_iload_n dX10_bounded_9 rfl rfl ?_
    refine g_iload_n dX10_bounded_10 rfl rfl ?_
    refine g_icmp_le (tgt := 18) dX10_bounded_11 (by decide) (fun q1 => ?_) (fun q1 => ?_)
    · rw [if_pos q1] at hL
      refine g_none 2 ?_
      refine g_iload_n dX10_bounded_18 rfl rfl ?_
      refine g_none 0 ?_
      exact J_X10_bounded_19_ok hL 
    · rw [if_neg q1] at hL
      refine g_none 0 ?_
      refine g_iload_n dX10_bounded_14 rfl rfl ?_
      refine g_none 2 ?_
      refine g_goto (tgt := 19) dX10_bounded_15 (by decide) ?_
      exact J_X10_bounded_19_ok hL 
  · rw [if_neg q2] at hL
    refine g_none 0 ?_
    refine g_none 2 ?_
    refine g_iload_n dX10_bounded_5 rfl rfl ?_
    refine g_none 1 ?_
    refine g_goto (tgt := 19) dX10_bounded_6 (by decide) ?_
    exact J_X10_bounded_19_ok hL 
def J_X10_lesser_10 (y0 : Int32) : Option (Int32) :=
  some (y0)
set_option maxRecDepth 20000 in
theorem J_X10_lesser_10_ok {G : aG} {h : aH} {y0 : Int32} {r : Int32} (hL : J_X10_lesser_10  y0 = some r) : AG G M_X10_lesser 10 [none, none] [.int (y0)] h (.inl (some (.int r)), h) := by
  unfold J_X10_lesser_10 at hL
  obtain rfl := Option.some.inj hL
  exact g_iret rfl dX10_lesser_10
def L_X10_lesser (a1 : Int32) (a2 : Int32) : Option (Int32) :=
  if a2 ≤ a1 then J_X10_lesser_10  (a2) else J_X10_lesser_10  (a1)
set_option maxRecDepth 20000 in
theorem C_X10_lesser {G : aG} {h : aH} {a1 : Int32} {a2 : Int32} {r : Int32} (hL : L_X10_lesser a1 a2 = some r) : AC G M_X10_lesser [.int a1, .int a2] h (.inl (some (.int r)), h) := by
  unfold L_X10_lesser at hL
  refine AC.of (by decide) rfl (Nat.le_of_ble_eq_true rfl) ?_
  show AG G M_X10_lesser 0 [some (.int (a1)), some (.int (a2))] [] _ _
  refine g_iload_n dX10_lesser_0 rfl rfl ?_
  refine g_iload_n dX10_lesser_1 rfl rfl ?_
  refine g_icmp_ge (tgt := 9) dX10_lesser_2 (by decide) (fun q1 => ?_) (fun q1 => ?_)
  · rw [if_pos q1] at hL
    refine g_none 0 ?_
    refine g_iload_n dX10_lesser_9 rfl rfl ?_
    refine g_none 1 ?_
    exact J_X10_lesser_10_ok hL 
  · rw [if_neg q1] at hL
    refine g_none 1 ?_
    refine g_iload_n dX10_lesser_5 rfl rfl ?_
    refine g_none 0 ?_
    refine g_goto (tgt := 10) dX10_lesser_6 (by decide) ?_
    exact J_X10_lesser_10_ok hL 
def J_X10_off_14 (y0 : Int32) : Option (Int32) :=
  some (y0)
set_option maxRecDepth 20000 in
theorem J_X10_off_14_ok {G : aG} {h : aH} {y0 : Int32} {r : Int32} (hL : J_X10_off_14  y0 = some r) : AG G M_X10_off 14 [none, none] [.int (y0)] h (.inl (some (.int r)), h) := by
  unfold J_X10_off_14 at hL
  obtain rfl := Option.some.inj hL
  exact g_iret rfl dX10_off_14
def L_X10_off (a1 : Int32) (a2 : Int32) : Option (Int32) :=
  if a2 ≤ a1 then J_X10_off_14  ((a1 - a2)) else J_X10_off_14  ((a2 - a1))
set_option maxRecDepth 20000 in
theorem C_X10_off {G : aG} {h : aH} {a1 : Int32} {a2 : Int32} {r : Int32} (hL : L_X10_off a1 a2 = some r) : AC G M_X10_off [.int a1, .int a2] h (.inl (some (.int r)), h) := by
  unfold L_X10_off at hL
  refine AC.of (by decide) rfl (Nat.le_of_ble_eq_true rfl) ?_
  show AG G M_X10_off 0 [some (.int (a1)), some (.int (a2))] [] _ _
  refine g_iload_n dX10_off_0 rfl rfl ?_
  refine g_iload_n dX10_off_1 rfl rfl ?_
  refine g_icmp_ge (tgt := 11) dX10_off_2 (by decide) (fun q1 => ?_) (fun q1 => ?_)
  · rw [if_pos q1] at hL
    refine g_iload_n dX10_off_11 rfl rfl ?_
    refine g_none 0 ?_
    refine g_iload_n dX10_off_12 rfl rfl ?_
    refine g_none 1 ?_
    refine g_isub dX10_off_13 ?_
    exact J_X10_off_14_ok hL 
  · rw [if_neg q1] at hL
    refine g_iload_n dX10_off_5 rfl rfl ?_
    refine g_none 1 ?_
    refine g_iload_n dX10_off_6 rfl rfl ?_
    refine g_none 0 ?_
    refine g_isub dX10_off_7 ?_
    refine g_goto (tgt := 14) dX10_off_8 (by decide) ?_
    exact J_X10_off_14_ok hL 
def B_X10_lays_3 (kh3 : Int32 → Int32 → wS → Option (wS)) (ke39 : wS → Option (wS)) (x1 : Int32) (x2 : Int32) (w : wS) : Option (wS) :=
  if x2 < 0 then ke39  w else xB (xGet w 12) fun v1 => xB (xAst w 6 700 (v1) (((x1 >>> (x2 &&& 31)) &&& 255))) fun w2 => xB (xGet w2 12) fun v3 => xB (xPut w2 12 ((v3 + 1))) fun w4 => kh3 (x1) ((x2 + (-8))) w4
set_option maxRecDepth 20000 in
theorem B_X10_lays_3_ok {G : aG} {Hf : wS → aH} {b : Nat} {kh3 : Int32 → Int32 → wS → Option (wS)} {ke39 : wS → Option (wS)} {x1 : Int32} {x2 : Int32} {w : wS} {r : wS} (E : Emb Hf b 0 tbM) (hL : B_X10_lays_3 kh3 ke39 x1 x2 w = some r) (Hkh3 : ∀ (z0 : Int32) (z1 : Int32) (w : wS), kh3 z0 z1 w = some r → AG G M_X10_lays 3 [some (.ref (b + 0)), some (.int (z0)), some (.int (z1))] [] (Hf w) (.inl none, Hf r)) (Hke39 : ∀ (w : wS), ke39  w = some r → AG G M_X10_lays 39 [none, none, none] [] (Hf w) (.inl none, Hf r)) : AG G M_X10_lays 3 [some (.ref (b + 0)), some (.int (x1)), some (.int (x2))] [] (Hf w) (.inl none, Hf r) := by
  unfold B_X10_lays_3 at hL
  refine g_iload_n dX10_lays_3 rfl rfl ?_
  refine g_if_lt (tgt := 39) dX10_lays_4 (by decide) (fun q5 => ?_) (fun q5 => ?_)
  · rw [if_pos q5] at hL
    refine g_none 0 ?_
    refine g_none 1 ?_
    refine g_none 2 ?_
    exact Hke39  _ hL
  · rw [if_neg q5] at hL
    refine g_aload_n dX10_lays_7 rfl rfl ?_
    refine s_getR (j := 11) E rfl rfl f_X10_35 dX10_lays_8 ?_
    refine g_aload_n dX10_lays_11 rfl rfl ?_
    refine s_getI (k := 0) (j := 12) E hL rfl rfl f_X10_123 dX10_lays_12 ?_
    intro v1 hL
    refine g_iload_n dX10_lays_15 rfl rfl ?_
    refine g_iload_n dX10_lays_16 rfl rfl ?_
    refine g_ishr dX10_lays_17 ?_
    refine g_sipush (v := 255) dX10_lays_18 (by decide) ?_
    refine g_iand dX10_lays_21 ?_
    refine s_iast (k := 6) E hL rfl dX10_lays_22 ?_
    intro w2 hL
    refine g_aload_n dX10_lays_23 rfl rfl ?_
    refine g_dup dX10_lays_24 rfl ?_
    refine s_getI (k := 0) (j := 12) E hL rfl rfl f_X10_123 dX10_lays_25 ?_
    intro v3 hL
    refine g_iconst (v := 1) dX10_lays_28 (by decide) ?_
    refine g_iadd dX10_lays_29 ?_
    refine s_putI (k := 0) (j := 12) E hL rfl rfl (by decide) fw_X10_123 rfl rfl dX10_lays_30 ?_
    intro w4 hL
    refine g_iincV (v := (x2 + (-8))) dX10_lays_33 rfl rfl (by decide) rfl ?_
    refine g_goto (tgt := 3) dX10_lays_36 (by decide) ?_
    exact Hkh3 _ _ _ hL
def P_X10_lays_3 (ke39 : wS → Option (wS)) (n : Nat) (x1 : Int32) (x2 : Int32) (w : wS) : Option (wS) :=
  xLoop (fun (kk : Int32 × Int32 × wS → Option (wS)) σ => B_X10_lays_3 (fun x1 x2 w => kk (x1, x2, w)) ke39 (σ.1) (σ.2.1) (σ.2.2)) n (x1, x2, w)
theorem P_X10_lays_3_ok {G : aG} {Hf : wS → aH} {b : Nat} {ke39 : wS → Option (wS)} {n : Nat} {x1 : Int32} {x2 : Int32} {w : wS} {r : wS} (E : Emb Hf b 0 tbM) (hL : P_X10_lays_3 ke39 n x1 x2 w = some r) (Hke39 : ∀ (w : wS), ke39  w = some r → AG G M_X10_lays 39 [none, none, none] [] (Hf w) (.inl none, Hf r)) : AG G M_X10_lays 3 [some (.ref (b + 0)), some (.int (x1)), some (.int (x2))] [] (Hf w) (.inl none, Hf r) :=
  xLoop_ok (Q := fun (σ : Int32 × Int32 × wS) => AG G M_X10_lays 3 [some (.ref (b + 0)), some (.int (σ.1)), some (.int (σ.2.1))] [] (Hf σ.2.2) (.inl none, Hf r)) (fun kk hk σ hσ => B_X10_lays_3_ok E hσ (fun x1 x2 w h9 => hk (x1, x2, w) h9) Hke39) n (x1, x2, w) hL
def L_X10_lays (a1 : Int32) (w : wS) : Option (wS) :=
  P_X10_lays_3 (fun w6 => some w6) 5000 (a1) (24) w
set_option maxRecDepth 20000 in
theorem C_X10_lays {G : aG} {Hf : wS → aH} {b : Nat} {a1 : Int32} {w : wS} {r : wS} (E : Emb Hf b 0 tbM) (hL : L_X10_lays a1 w = some r) : AC G M_X10_lays [.ref (b + 0), .int a1] (Hf w) (.inl none, Hf r) := by
  unfold L_X10_lays at hL
  refine AC.of (by decide) rfl (Nat.le_of_ble_eq_true rfl) ?_
  show AG G M_X10_lays 0 [some (.ref (b + 0)), some (.int (a1)), none] [] _ _
  refine g_bipush (v := 24) dX10_lays_0 (by decide) ?_
  refine g_istore_n (i := 2) dX10_lays_2 rfl (by decide) rfl ?_
  refine P_X10_lays_3_ok E hL ?_
  · intro w6 hL
    obtain rfl := Option.some.inj hL
    exact g_vret rfl dX10_lays_39
def L_X10_feed (a1 : Int32) (a2 : Int32) (a3 : Int32) (a4 : Int32) (a5 : Int32) (w : wS) : Option (Int32 × wS) :=
  xB (xPut w 0 (0)) fun w1 => xB (xGet w1 12) fun v2 => if (v2 + 20) ≤ 700 then xB (L_X10_lays (a1) w1) fun w3 => xB (L_X10_lays (a2) w3) fun w4 => xB (L_X10_lays (a3) w4) fun w5 => xB (L_X10_lays (a4) w5) fun w6 => xB (L_X10_lays (a5) w6) fun w7 => xB (xGet w7 12) fun v8 => some (v8, w7) else some ((-1), w1)
set_option maxRecDepth 20000 in
theorem C_X10_feed {G : aG} {Hf : wS → aH} {b : Nat} {a1 : Int32} {a2 : Int32} {a3 : Int32} {a4 : Int32} {a5 : Int32} {w : wS} {r : Int32 × wS} (E : Emb Hf b 0 tbM) (hL : L_X10_feed a1 a2 a3 a4 a5 w = some r) : AC G M_X10_feed [.ref (b + 0), .int a1, .int a2, .int a3, .int a4, .int a5] (Hf w) (.inl (some (.int r.1)), Hf r.2) := by
  unfold L_X10_feed at hL
  refine AC.of (by decide) rfl (Nat.le_of_ble_eq_true rfl) ?_
  show AG G M_X10_feed 0 [some (.ref (b + 0)), some (.int (a1)), some (.int (a2)), some (.int (a3)), some (.int (a4)), some (.int (a5))] [] _ _
  refine g_aload_n dX10_feed_0 rfl rfl ?_
  refine g_iconst (v := 0) dX10_feed_1 (by decide) ?_
  refine s_putI (k := 0) (j := 0) E hL rfl rfl (by decide) fw_X10_120 rfl rfl dX10_feed_2 ?_
  intro w1 hL
  refine g_aload_n dX10_feed_5 rfl rfl ?_
  refine s_getI (k := 0) (j := 12) E hL rfl rfl f_X10_123 dX10_feed_6 ?_
  intro v2 hL
  refine g_bipush (v := 20) dX10_feed_9 (by decide) ?_
  refine g_iadd dX10_feed_11 ?_
  refine g_sipush (v := 700) dX10_feed_12 (by decide) ?_
  refine g_icmp_le (tgt := 20) dX10_feed_15 (by decide) (fun q9 => ?_) (fun q9 => ?_)
  · rw [if_pos q9] at hL
    refine g_aload_n dX10_feed_20 rfl rfl ?_
    refine g_iload_n dX10_feed_21 rfl rfl ?_
    refine g_none 1 ?_
    obtain ⟨w3, hc, hL⟩ := xB_some hL
    refine g_callV (M' := M_X10_lays) (as := [.int (a1)]) (v := none) l_X10_126 kV_X10_lays (by decide) (C_X10_lays E hc) rfl (by have := E.1; omega) (E.2.1 _ 0 _ rfl) ⟨_, _, rfl⟩ (Nat.le_of_ble_eq_true rfl) dX10_feed_22 ?_
    refine g_aload_n dX10_feed_25 rfl rfl ?_
    refine g_iload_n dX10_feed_26 rfl rfl ?_
    refine g_none 2 ?_
    obtain ⟨w4, hc, hL⟩ := xB_some hL
    refine g_callV (M' := M_X10_lays) (as := [.int (a2)]) (v := none) l_X10_126 kV_X10_lays (by decide) (C_X10_lays E hc) rfl (by have := E.1; omega) (E.2.1 _ 0 _ rfl) ⟨_, _, rfl⟩ (Nat.le_of_ble_eq_true rfl) dX10_feed_27 ?_
    refine g_aload_n dX10_feed_30 rfl rfl ?_
    refine g_iload_n dX10_feed_31 rfl rfl ?_
    refine g_none 3 ?_
    obtain ⟨w5, hc, hL⟩ := xB_some hL
    refine g_callV (M' := M_X10_lays) (as := [.int (a3)]) (v := none) l_X10_126 kV_X10_lays (by decide) (C_X10_lays E hc) rfl (by have := E.1; omega) (E.2.1 _ 0 _ rfl) ⟨_, _, rfl⟩ (Nat.le_of_ble_eq_true rfl) dX10_feed_32 ?_
    refine g_aload_n dX10_feed_35 rfl rfl ?_
    refine g_iload dX10_feed_36 rfl ?_
    refine g_none 4 ?_
    obtain ⟨w6, hc, hL⟩ := xB_some hL
    refine g_callV (M' := M_X10_lays) (as := [.int (a4)]) (v := none) l_X10_126 kV_X10_lays (by decide) (C_X10_lays E hc) rfl (by have := E.1; omega) (E.2.1 _ 0 _ rfl) ⟨_, _, rfl⟩ (Nat.le_of_ble_eq_true rfl) dX10_feed_38 ?_
    refine g_aload_n dX10_feed_41 rfl rfl ?_
    refine g_iload dX10_feed_42 rfl ?_
    refine g_none 5 ?_
    obtain ⟨w7, hc, hL⟩ := xB_some hL
    refine g_callV (M' := M_X10_lays) (as := [.int (a5)]) (v := none) l_X10_126 kV_X10_lays (by decide) (C_X10_lays E hc) rfl (by have := E.1; omega) (E.2.1 _ 0 _ rfl) ⟨_, _, rfl⟩ (Nat.le_of_ble_eq_true rfl) dX10_feed_44 ?_
    refine g_aload_n dX10_feed_47 rfl rfl ?_
    refine g_none 0 ?_
    refine s_getI (k := 0) (j := 12) E hL rfl rfl f_X10_123 dX10_feed_48 ?_
    intro v8 hL
    obtain rfl := Option.some.inj hL
    exact g_iret rfl dX10_feed_51
  · rw [if_neg q9] at hL
    refine g_none 0 ?_
    refine g_none 1 ?_
    refine g_none 2 ?_
    refine g_none 3 ?_
    refine g_none 4 ?_
    refine g_none 5 ?_
    refine g_iconst (v := (-1)) dX10_feed_18 (by decide) ?_
    obtain rfl := Option.some.inj hL
    exact g_iret rfl dX10_feed_19
def J_X10_byteAt_18 (y0 : Int32) (w : wS) : Option (Int32 × wS) :=
  some (y0, w)
set_option maxRecDepth 20000 in
theorem J_X10_byteAt_18_ok {G : aG} {Hf : wS → aH} {b : Nat} {y0 : Int32} {w : wS} {r : Int32 × wS} (E : Emb Hf b 0 tbM) (hL : J_X10_byteAt_18  y0 w = some r) : AG G M_X10_byteAt 18 [none, none] [.int (y0)] (Hf w) (.inl (some (.int r.1)), Hf r.2) := by
  unfold J_X10_byteAt_18 at hL
  obtain rfl := Option.some.inj hL
  exact g_iret rfl dX10_byteAt_18
def L_X10_byteAt (a1 : Int32) (w : wS) : Option (Int32 × wS) :=
  xB (xGet w 16) fun v1 => if v1 ≤ a1 then J_X10_byteAt_18  (0) w else xB (xAld w 6 700 (a1)) fun v2 => J_X10_byteAt_18  (v2) w
set_option maxRecDepth 20000 in
theorem C_X10_byteAt {G : aG} {Hf : wS → aH} {b : Nat} {a1 : Int32} {w : wS} {r : Int32 × wS} (E : Emb Hf b 0 tbM) (hL : L_X10_byteAt a1 w = some r) : AC G M_X10_byteAt [.ref (b + 0), .int a1] (Hf w) (.inl (some (.int r.1)), Hf r.2) := by
  unfold L_X10_byteAt at hL
  refine AC.of (by decide) rfl (Nat.le_of_ble_eq_true rfl) ?_
  show AG G M_X10_byteAt 0 [some (.ref (b + 0)), some (.int (a1))] [] _ _
  refine g_iload_n dX10_byteAt_0 rfl rfl ?_
  refine g_aload_n dX10_byteAt_1 rfl rfl ?_
  refine s_getI (k := 0) (j := 16) E hL rfl rfl f_X10_130 dX10_byteAt_2 ?_
  intro v1 hL
  refine g_icmp_ge (tgt := 17) dX10_byteAt_5 (by decide) (fun q3 => ?_) (fun q3 => ?_)
  · rw [if_pos q3] at hL
    refine g_none 0 ?_
    refine g_none 1 ?_
    refine g_iconst (v := 0) dX10_byteAt_17 (by decide) ?_
    exact J_X10_byteAt_18_ok E hL 
  · rw [if_neg q3] at hL
    refine g_aload_n dX10_byteAt_8 rfl rfl ?_
    refine g_none 0 ?_
    refine s_getR (j := 11) E rfl rfl f_X10_35 dX10_byteAt_9 ?_
    refine g_iload_n dX10_byteAt_12 rfl rfl ?_
    refine g_none 1 ?_
    refine s_iald (k := 6) E hL rfl dX10_byteAt_13 ?_
    intro v2 hL
    refine g_goto (tgt := 18) dX10_byteAt_14 (by decide) ?_
    exact J_X10_byteAt_18_ok E hL 
def J_X10_isLetter_17 (y0 : Int32) : Option (Int32) :=
  xB (xBool (y0)) fun v1 => some v1
set_option maxRecDepth 20000 in
theorem J_X10_isLetter_17_ok {G : aG} {h : aH} {y0 : Int32} {r : Int32} (hL : J_X10_isLetter_17  y0 = some r) : AG G M_X10_isLetter 17 [none] [.int (y0)] h (.inl (some (.int r)), h) := by
  unfold J_X10_isLetter_17 at hL
  obtain ⟨v1, hb, hR⟩ := xB_some hL
  obtain ⟨hz, hb2⟩ := xBool_some hb
  clear hL
  subst hz
  obtain rfl := Option.some.inj hR
  exact g_zret rfl (narrow_bool hb2) dX10_isLetter_17
def J_X10_isLetter_16 : Option (Int32) :=
  J_X10_isLetter_17  (0)
set_option maxRecDepth 20000 in
theorem J_X10_isLetter_16_ok {G : aG} {h : aH} {r : Int32} (hL : J_X10_isLetter_16   = some r) : AG G M_X10_isLetter 16 [none] [] h (.inl (some (.int r)), h) := by
  unfold J_X10_isLetter_16 at hL
  refine g_iconst (v := 0) dX10_isLetter_16 (by decide) ?_
  exact J_X10_isLetter_17_ok hL 
def L_X10_isLetter (a1 : Int32) : Option (Int32) :=
  if a1 < 97 then J_X10_isLetter_16   else if 122 < a1 then J_X10_isLetter_16   else J_X10_isLetter_17  (1)
set_option maxRecDepth 20000 in
theorem C_X10_isLetter {G : aG} {h : aH} {a1 : Int32} {r : Int32} (hL : L_X10_isLetter a1 = some r) : AC G M_X10_isLetter [.int a1] h (.inl (some (.int r)), h) := by
  unfold L_X10_isLetter at hL
  refine AC.of (by decide) rfl (Nat.le_of_ble_eq_true rfl) ?_
  show AG G M_X10_isLetter 0 [some (.int (a1))] [] _ _
  refine g_iload_n dX10_isLetter_0 rfl rfl ?_
  refine g_bipush (v := 97) dX10_isLetter_1 (by decide) ?_
  refine g_icmp_lt (tgt := 16) dX10_isLetter_3 (by decide) (fun q3 => ?_) (fun q3 => ?_)
  · rw [if_pos q3] at hL
    refine g_none 0 ?_
    exact J_X10_isLetter_16_ok hL 
  · rw [if_neg q3] at hL
    refine g_iload_n dX10_isLetter_6 rfl rfl ?_
    refine g_none 0 ?_
    refine g_bipush (v := 122) dX10_isLetter_7 (by decide) ?_
    refine g_icmp_gt (tgt := 16) dX10_isLetter_9 (by decide) (fun q2 => ?_) (fun q2 => ?_)
    · rw [if_pos q2] at hL
      exact J_X10_isLetter_16_ok hL 
    · rw [if_neg q2] at hL
      refine g_iconst (v := 1) dX10_isLetter_12 (by decide) ?_
      refine g_goto (tgt := 17) dX10_isLetter_13 (by decide) ?_
      exact J_X10_isLetter_17_ok hL 
def J_X10_isDigit_17 (y0 : Int32) : Option (Int32) :=
  xB (xBool (y0)) fun v1 => some v1
set_option maxRecDepth 20000 in
theorem J_X10_isDigit_17_ok {G : aG} {h : aH} {y0 : Int32} {r : Int32} (hL : J_X10_isDigit_17  y0 = some r) : AG G M_X10_isDigit 17 [none] [.int (y0)] h (.inl (some (.int r)), h) := by
  unfold J_X10_isDigit_17 at hL
  obtain ⟨v1, hb, hR⟩ := xB_some hL
  obtain ⟨hz, hb2⟩ := xBool_some hb
  clear hL
  subst hz
  obtain rfl := Option.some.inj hR
  exact g_zret rfl (narrow_bool hb2) dX10_isDigit_17
def J_X10_isDigit_16 : Option (Int32) :=
  J_X10_isDigit_17  (0)
set_option maxRecDepth 20000 in
theorem J_X10_isDigit_16_ok {G : aG} {h : aH} {r : Int32} (hL : J_X10_isDigit_16   = some r) : AG G M_X10_isDigit 16 [none] [] h (.inl (some (.int r)), h) := by
  unfold J_X10_isDigit_16 at hL
  refine g_iconst (v := 0) dX10_isDigit_16 (by decide) ?_
  exact J_X10_isDigit_17_ok hL 
def L_X10_isDigit (a1 : Int32) : Option (Int32) :=
  if a1 < 48 then J_X10_isDigit_16   else if 57 < a1 then J_X10_isDigit_16   else J_X10_isDigit_17  (1)
set_option maxRecDepth 20000 in
theorem C_X10_isDigit {G : aG} {h : aH} {a1 : Int32} {r : Int32} (hL : L_X10_isDigit a1 = some r) : AC G M_X10_isDigit [.int a1] h (.inl (some (.int r)), h) := by
  unfold L_X10_isDigit at hL
  refine AC.of (by decide) rfl (Nat.le_of_ble_eq_true rfl) ?_
  show AG G M_X10_isDigit 0 [some (.int (a1))] [] _ _
  refine g_iload_n dX10_isDigit_0 rfl rfl ?_
  refine g_bipush (v := 48) dX10_isDigit_1 (by decide) ?_
  refine g_icmp_lt (tgt := 16) dX10_isDigit_3 (by decide) (fun q3 => ?_) (fun q3 => ?_)
  · rw [if_pos q3] at hL
    refine g_none 0 ?_
    exact J_X10_isDigit_16_ok hL 
  · rw [if_neg q3] at hL
    refine g_iload_n dX10_isDigit_6 rfl rfl ?_
    refine g_none 0 ?_
    refine g_bipush (v := 57) dX10_isDigit_7 (by decide) ?_
    refine g_icmp_gt (tgt := 16) dX10_isDigit_9 (by decide) (fun q2 => ?_) (fun q2 => ?_)
    · rw [if_pos q2] at hL
      exact J_X10_isDigit_16_ok hL 
    · rw [if_neg q2] at hL
      refine g_iconst (v := 1) dX10_isDigit_12 (by decide) ?_
      refine g_goto (tgt := 17) dX10_isDigit_13 (by decide) ?_
      exact J_X10_isDigit_17_ok hL 
def J_X10_goes_331 (w : wS) : Option (wS) :=
  xB (xGet w 17) fun v1 => xB (xGet w 19) fun v2 => xB (xPut w 20 ((v1 - v2))) fun w3 => some w3
set_option maxRecDepth 20000 in
theorem J_X10_goes_331_ok {G : aG} {Hf : wS → aH} {b : Nat} {w : wS} {r : wS} (E : Emb Hf b 0 tbM) (hL : J_X10_goes_331   w = some r) : AG G M_X10_goes 331 [some (.ref (b + 0)), none] [] (Hf w) (.inl none, Hf r) := by
  unfold J_X10_goes_331 at hL
  refine g_aload_n dX10_goes_331 rfl rfl ?_
  refine g_aload_n dX10_goes_332 rfl rfl ?_
  refine s_getI (k := 0) (j := 17) E hL rfl rfl f_X10_133 dX10_goes_333 ?_
  intro v1 hL
  refine g_aload_n dX10_goes_336 rfl rfl ?_
  refine g_none 0 ?_
  refine s_getI (k := 0) (j := 19) E hL rfl rfl f_X10_140 dX10_goes_337 ?_
  intro v2 hL
  refine g_isub dX10_goes_340 ?_
  refine s_putI (k := 0) (j := 20) E hL rfl rfl (by decide) fw_X10_163 rfl rfl dX10_goes_341 ?_
  intro w3 hL
  obtain rfl := Option.some.inj hL
  exact g_vret rfl dX10_goes_344
def J_X10_goes_328 (y1 : Int32) (w : wS) : Option (wS) :=
  xB (xPut w 18 (y1)) fun w4 => J_X10_goes_331   w4
set_option maxRecDepth 20000 in
theorem J_X10_goes_328_ok {G : aG} {Hf : wS → aH} {b : Nat} {y1 : Int32} {w : wS} {r : wS} (E : Emb Hf b 0 tbM) (hL : J_X10_goes_328  y1 w = some r) : AG G M_X10_goes 328 [some (.ref (b + 0)), none] [.int (y1), .ref (b + 0)] (Hf w) (.inl none, Hf r) := by
  unfold J_X10_goes_328 at hL
  refine s_putI (k := 0) (j := 18) E hL rfl rfl (by decide) fw_X10_153 rfl rfl dX10_goes_328 ?_
  intro w4 hL
  exact J_X10_goes_331_ok E hL 
def J_X10_goes_323 (w : wS) : Option (wS) :=
  J_X10_goes_328  (3) w
set_option maxRecDepth 20000 in
theorem J_X10_goes_323_ok {G : aG} {Hf : wS → aH} {b : Nat} {w : wS} {r : wS} (E : Emb Hf b 0 tbM) (hL : J_X10_goes_323   w = some r) : AG G M_X10_goes 323 [some (.ref (b + 0)), none] [.ref (b + 0)] (Hf w) (.inl none, Hf r) := by
  unfold J_X10_goes_323 at hL
  refine g_iconst (v := 3) dX10_goes_323 (by decide) ?_
  refine g_goto (tgt := 328) dX10_goes_324 (by decide) ?_
  exact J_X10_goes_328_ok E hL 
def J_X10_goes_237 (kh187 : wS → Option (wS)) (ke250 : wS → Option (wS)) (w : wS) : Option (wS) :=
  xB (xGet w 17) fun v5 => xB (xPut w 17 ((v5 + 1))) fun w6 => kh187  w6
set_option maxRecDepth 20000 in
theorem J_X10_goes_237_ok {G : aG} {Hf : wS → aH} {b : Nat} {kh187 : wS → Option (wS)} {ke250 : wS → Option (wS)} {w : wS} {r : wS} (E : Emb Hf b 0 tbM) (hL : J_X10_goes_237 kh187 ke250  w = some r) (Hkh187 : ∀ (w : wS), kh187  w = some r → AG G M_X10_goes 187 [some (.ref (b + 0)), none] [] (Hf w) (.inl none, Hf r)) (Hke250 : ∀ (w : wS), ke250  w = some r → AG G M_X10_goes 250 [some (.ref (b + 0)), none] [] (Hf w) (.inl none, Hf r)) : AG G M_X10_goes 237 [some (.ref (b + 0)), none] [] (Hf w) (.inl none, Hf r) := by
  unfold J_X10_goes_237 at hL
  refine g_aload_n dX10_goes_237 rfl rfl ?_
  refine g_dup dX10_goes_238 rfl ?_
  refine s_getI (k := 0) (j := 17) E hL rfl rfl f_X10_133 dX10_goes_239 ?_
  intro v5 hL
  refine g_iconst (v := 1) dX10_goes_242 (by decide) ?_
  refine g_iadd dX10_goes_243 ?_
  refine s_putI (k := 0) (j := 17) E hL rfl rfl (by decide) fw_X10_133 rfl rfl dX10_goes_244 ?_
  intro w6 hL
  refine g_goto (tgt := 187) dX10_goes_247 (by decide) ?_
  exact Hkh187  _ hL
def B_X10_goes_187 (kh187 : wS → Option (wS)) (ke250 : wS → Option (wS)) (w : wS) : Option (wS) :=
  xB (xGet w 17) fun v7 => xB2 (L_X10_byteAt (v7) w) fun v8 w9 => xB (L_X10_isDigit (v8)) fun v10 => if v10 = 0 then ke250  w9 else xB (xGet w9 17) fun v11 => xB (xGet w9 19) fun v12 => if 4 ≤ (v11 - v12) then J_X10_goes_237 kh187 ke250  w9 else xB (xGet w9 21) fun v13 => xB (xGet w9 17) fun v14 => xB2 (L_X10_byteAt (v14) w9) fun v15 w16 => xB (xPut w16 21 ((((10 * v13) + v15) - 48))) fun w17 => J_X10_goes_237 kh187 ke250  w17
set_option maxRecDepth 20000 in
theorem B_X10_goes_187_ok {G : aG} {Hf : wS → aH} {b : Nat} {kh187 : wS → Option (wS)} {ke250 : wS → Option (wS)} {w : wS} {r : wS} (E : Emb Hf b 0 tbM) (hL : B_X10_goes_187 kh187 ke250  w = some r) (Hkh187 : ∀ (w : wS), kh187  w = some r → AG G M_X10_goes 187 [some (.ref (b + 0)), none] [] (Hf w) (.inl none, Hf r)) (Hke250 : ∀ (w : wS), ke250  w = some r → AG G M_X10_goes 250 [some (.ref (b + 0)), none] [] (Hf w) (.inl none, Hf r)) : AG G M_X10_goes 187 [some (.ref (b + 0)), none] [] (Hf w) (.inl none, Hf r) := by
  unfold B_X10_goes_187 at hL
  refine g_aload_n dX10_goes_187 rfl rfl ?_
  refine g_aload_n dX10_goes_188 rfl rfl ?_
  refine s_getI (k := 0) (j := 17) E hL rfl rfl f_X10_133 dX10_goes_189 ?_
  intro v7 hL
  obtain ⟨v8, w9, hc, hL⟩ := xB2_some hL
  refine g_callV (M' := M_X10_byteAt) (as := [.int (v7)]) (v := some (.int (v8))) l_X10_136 kV_X10_byteAt (by decide) (C_X10_byteAt E hc) rfl (by have := E.1; omega) (E.2.1 _ 0 _ rfl) ⟨_, _, rfl⟩ (Nat.le_of_ble_eq_true rfl) dX10_goes_192 ?_
  obtain ⟨v10, hc, hL⟩ := xB_some hL
  refine g_callS (M' := M_X10_isDigit) (as := [.int (v8)]) (v := some (.int (v10))) l_X10_160 kS_X10_isDigit (by decide) (C_X10_isDigit hc) rfl (Nat.le_of_ble_eq_true rfl) dX10_goes_195 ?_
  refine g_if_eq (tgt := 250) dX10_goes_198 (by decide) (fun q19 => ?_) (fun q19 => ?_)
  · rw [if_pos q19] at hL
    exact Hke250  _ hL
  · rw [if_neg q19] at hL
    refine g_aload_n dX10_goes_201 rfl rfl ?_
    refine s_getI (k := 0) (j := 17) E hL rfl rfl f_X10_133 dX10_goes_202 ?_
    intro v11 hL
    refine g_aload_n dX10_goes_205 rfl rfl ?_
    refine s_getI (k := 0) (j := 19) E hL rfl rfl f_X10_140 dX10_goes_206 ?_
    intro v12 hL
    refine g_isub dX10_goes_209 ?_
    refine g_iconst (v := 4) dX10_goes_210 (by decide) ?_
    refine g_icmp_ge (tgt := 237) dX10_goes_211 (by decide) (fun q18 => ?_) (fun q18 => ?_)
    · rw [if_pos q18] at hL
      exact J_X10_goes_237_ok E hL Hkh187 Hke250
    · rw [if_neg q18] at hL
      refine g_aload_n dX10_goes_214 rfl rfl ?_
      refine g_bipush (v := 10) dX10_goes_215 (by decide) ?_
      refine g_aload_n dX10_goes_217 rfl rfl ?_
      refine s_getI (k := 0) (j := 21) E hL rfl rfl f_X10_147 dX10_goes_218 ?_
      intro v13 hL
      refine g_imul dX10_goes_221 ?_
      refine g_aload_n dX10_goes_222 rfl rfl ?_
      refine g_aload_n dX10_goes_223 rfl rfl ?_
      refine s_getI (k := 0) (j := 17) E hL rfl rfl f_X10_133 dX10_goes_224 ?_
      intro v14 hL
      obtain ⟨v15, w16, hc, hL⟩ := xB2_some hL
      refine g_callV (M' := M_X10_byteAt) (as := [.int (v14)]) (v := some (.int (v15))) l_X10_136 kV_X10_byteAt (by decide) (C_X10_byteAt E hc) rfl (by have := E.1; omega) (E.2.1 _ 0 _ rfl) ⟨_, _, rfl⟩ (Nat.le_of_ble_eq_true rfl) dX10_goes_227 ?_
      refine g_iadd dX10_goes_230 ?_
      refine g_bipush (v := 48) dX10_goes_231 (by decide) ?_
      refine g_isub dX10_goes_233 ?_
      refine s_putI (k := 0) (j := 21) E hL rfl rfl (by decide) fw_X10_147 rfl rfl dX10_goes_234 ?_
      intro w17 hL
      exact J_X10_goes_237_ok E hL Hkh187 Hke250
def P_X10_goes_187 (ke250 : wS → Option (wS)) (n : Nat) (w : wS) : Option (wS) :=
  xLoop (fun (kk : wS → Option (wS)) σ => B_X10_goes_187 (fun w => kk (w)) ke250 (σ)) n (w)
theorem P_X10_goes_187_ok {G : aG} {Hf : wS → aH} {b : Nat} {ke250 : wS → Option (wS)} {n : Nat} {w : wS} {r : wS} (E : Emb Hf b 0 tbM) (hL : P_X10_goes_187 ke250 n  w = some r) (Hke250 : ∀ (w : wS), ke250  w = some r → AG G M_X10_goes 250 [some (.ref (b + 0)), none] [] (Hf w) (.inl none, Hf r)) : AG G M_X10_goes 187 [some (.ref (b + 0)), none] [] (Hf w) (.inl none, Hf r) :=
  xLoop_ok (Q := fun (σ : wS) => AG G M_X10_goes 187 [some (.ref (b + 0)), none] [] (Hf σ) (.inl none, Hf r)) (fun kk hk σ hσ => B_X10_goes_187_ok E hσ (fun w h9 => hk (w) h9) Hke250) n (w) hL
def J_X10_goes_159 (kh108 : wS → Option (wS)) (ke172 : wS → Option (wS)) (w : wS) : Option (wS) :=
  xB (xGet w 17) fun v20 => xB (xPut w 17 ((v20 + 1))) fun w21 => kh108  w21
set_option maxRecDepth 20000 in
theorem J_X10_goes_159_ok {G : aG} {Hf : wS → aH} {b : Nat} {kh108 : wS → Option (wS)} {ke172 : wS → Option (wS)} {w : wS} {r : wS} (E : Emb Hf b 0 tbM) (hL : J_X10_goes_159 kh108 ke172  w = some r) (Hkh108 : ∀ (w : wS), kh108  w = some r → AG G M_X10_goes 108 [some (.ref (b + 0)), none] [] (Hf w) (.inl none, Hf r)) (Hke172 : ∀ (w : wS), ke172  w = some r → AG G M_X10_goes 172 [some (.ref (b + 0)), none] [] (Hf w) (.inl none, Hf r)) : AG G M_X10_goes 159 [some (.ref (b + 0)), none] [] (Hf w) (.inl none, Hf r) := by
  unfold J_X10_goes_159 at hL
  refine g_aload_n dX10_goes_159 rfl rfl ?_
  refine g_dup dX10_goes_160 rfl ?_
  refine s_getI (k := 0) (j := 17) E hL rfl rfl f_X10_133 dX10_goes_161 ?_
  intro v20 hL
  refine g_iconst (v := 1) dX10_goes_164 (by decide) ?_
  refine g_iadd dX10_goes_165 ?_
  refine s_putI (k := 0) (j := 17) E hL rfl rfl (by decide) fw_X10_133 rfl rfl dX10_goes_166 ?_
  intro w21 hL
  refine g_goto (tgt := 108) dX10_goes_169 (by decide) ?_
  exact Hkh108  _ hL
def B_X10_goes_108 (kh108 : wS → Option (wS)) (ke172 : wS → Option (wS)) (w : wS) : Option (wS) :=
  xB (xGet w 17) fun v22 => xB2 (L_X10_byteAt (v22) w) fun v23 w24 => xB (L_X10_isLetter (v23)) fun v25 => if v25 = 0 then ke172  w24 else xB (xGet w24 17) fun v26 => xB (xGet w24 19) fun v27 => if 6 ≤ (v26 - v27) then J_X10_goes_159 kh108 ke172  w24 else xB (xGetL w24 23) fun v28 => xB (xGet w24 17) fun v29 => xB2 (L_X10_byteAt (v29) w24) fun v30 w31 => xB (xPutL w31 23 (((v28 <<< ((5 : Int32).toInt64 &&& 63)) ||| ((v30 - 96) : Int32).toInt64))) fun w32 => J_X10_goes_159 kh108 ke172  w32
set_option maxRecDepth 20000 in
theorem B_X10_goes_108_ok {G : aG} {Hf : wS → aH} {b : Nat} {kh108 : wS → Option (wS)} {ke172 : wS → Option (wS)} {w : wS} {r : wS} (E : Emb Hf b 0 tbM) (hL : B_X10_goes_108 kh108 ke172  w = some r) (Hkh108 : ∀ (w : wS), kh108  w = some r → AG G M_X10_goes 108 [some (.ref (b + 0)), none] [] (Hf w) (.inl none, Hf r)) (Hke172 : ∀ (w : wS), ke172  w = some r → AG G M_X10_goes 172 [some (.ref (b + 0)), none] [] (Hf w) (.inl none, Hf r)) : AG G M_X10_goes 108 [some (.ref (b + 0)), none] [] (Hf w) (.inl none, Hf r) := by
  unfold B_X10_goes_108 at hL
  refine g_aload_n dX10_goes_108 rfl rfl ?_
  refine g_aload_n dX10_goes_109 rfl rfl ?_
  refine s_getI (k := 0) (j := 17) E hL rfl rfl f_X10_133 dX10_goes_110 ?_
  intro v22 hL
  obtain ⟨v23, w24, hc, hL⟩ := xB2_some hL
  refine g_callV (M' := M_X10_byteAt) (as := [.int (v22)]) (v := some (.int (v23))) l_X10_136 kV_X10_byteAt (by decide) (C_X10_byteAt E hc) rfl (by have := E.1; omega) (E.2.1 _ 0 _ rfl) ⟨_, _, rfl⟩ (Nat.le_of_ble_eq_true rfl) dX10_goes_113 ?_
  obtain ⟨v25, hc, hL⟩ := xB_some hL
  refine g_callS (M' := M_X10_isLetter) (as := [.int (v23)]) (v := some (.int (v25))) l_X10_156 kS_X10_isLetter (by decide) (C_X10_isLetter hc) rfl (Nat.le_of_ble_eq_true rfl) dX10_goes_116 ?_
  refine g_if_eq (tgt := 172) dX10_goes_119 (by decide) (fun q34 => ?_) (fun q34 => ?_)
  · rw [if_pos q34] at hL
    exact Hke172  _ hL
  · rw [if_neg q34] at hL
    refine g_aload_n dX10_goes_122 rfl rfl ?_
    refine s_getI (k := 0) (j := 17) E hL rfl rfl f_X10_133 dX10_goes_123 ?_
    intro v26 hL
    refine g_aload_n dX10_goes_126 rfl rfl ?_
    refine s_getI (k := 0) (j := 19) E hL rfl rfl f_X10_140 dX10_goes_127 ?_
    intro v27 hL
    refine g_isub dX10_goes_130 ?_
    refine g_bipush (v := 6) dX10_goes_131 (by decide) ?_
    refine g_icmp_ge (tgt := 159) dX10_goes_133 (by decide) (fun q33 => ?_) (fun q33 => ?_)
    · rw [if_pos q33] at hL
      exact J_X10_goes_159_ok E hL Hkh108 Hke172
    · rw [if_neg q33] at hL
      refine g_aload_n dX10_goes_136 rfl rfl ?_
      refine g_aload_n dX10_goes_137 rfl rfl ?_
      refine s_getJ (k := 0) (j := 23) E hL rfl rfl f_X10_143 dX10_goes_138 ?_
      intro v28 hL
      refine g_iconst (v := 5) dX10_goes_141 (by decide) ?_
      refine g_lshl dX10_goes_142 ?_
      refine g_aload_n dX10_goes_143 rfl rfl ?_
      refine g_aload_n dX10_goes_144 rfl rfl ?_
      refine s_getI (k := 0) (j := 17) E hL rfl rfl f_X10_133 dX10_goes_145 ?_
      intro v29 hL
      obtain ⟨v30, w31, hc, hL⟩ := xB2_some hL
      refine g_callV (M' := M_X10_byteAt) (as := [.int (v29)]) (v := some (.int (v30))) l_X10_136 kV_X10_byteAt (by decide) (C_X10_byteAt E hc) rfl (by have := E.1; omega) (E.2.1 _ 0 _ rfl) ⟨_, _, rfl⟩ (Nat.le_of_ble_eq_true rfl) dX10_goes_148 ?_
      refine g_bipush (v := 96) dX10_goes_151 (by decide) ?_
      refine g_isub dX10_goes_153 ?_
      refine g_i2l dX10_goes_154 ?_
      refine g_lor dX10_goes_155 ?_
      refine s_putJ (k := 0) (j := 23) E hL rfl rfl (by decide) fw_X10_143 dX10_goes_156 ?_
      intro w32 hL
      exact J_X10_goes_159_ok E hL Hkh108 Hke172
def P_X10_goes_108 (ke172 : wS → Option (wS)) (n : Nat) (w : wS) : Option (wS) :=
  xLoop (fun (kk : wS → Option (wS)) σ => B_X10_goes_108 (fun w => kk (w)) ke172 (σ)) n (w)
theorem P_X10_goes_108_ok {G : aG} {Hf : wS → aH} {b : Nat} {ke172 : wS → Option (wS)} {n : Nat} {w : wS} {r : wS} (E : Emb Hf b 0 tbM) (hL : P_X10_goes_108 ke172 n  w = some r) (Hke172 : ∀ (w : wS), ke172  w = some r → AG G M_X10_goes 172 [some (.ref (b + 0)), none] [] (Hf w) (.inl none, Hf r)) : AG G M_X10_goes 108 [some (.ref (b + 0)), none] [] (Hf w) (.inl none, Hf r) :=
  xLoop_ok (Q := fun (σ : wS) => AG G M_X10_goes 108 [some (.ref (b + 0)), none] [] (Hf σ) (.inl none, Hf r)) (fun kk hk σ hσ => B_X10_goes_108_ok E hσ (fun w h9 => hk (w) h9) Hke172) n (w) hL
def J_X10_goes_50 (w : wS) : Option (wS) :=
  xB (xGet w 17) fun v35 => xB (xPut w 19 (v35)) fun w36 => xB (xPutL w36 23 (0)) fun w37 => xB (xPut w37 21 (0)) fun w38 => xB (xGet w38 17) fun v39 => xB2 (L_X10_byteAt (v39) w38) fun v40 w41 => xB (xPut w41 22 (v40)) fun w42 => xB (xGet w42 17) fun v43 => xB (xGet w42 16) fun v44 => if v43 < v44 then xB (L_X10_isLetter (v40)) fun v45 => if v45 = 0 then xB (L_X10_isDigit (v40)) fun v46 => if v46 = 0 then xB (xGet w42 17) fun v47 => xB (xPut w42 17 ((v47 + 1))) fun w48 => if v40 = 59 then J_X10_goes_323   w48 else if v40 = 40 then J_X10_goes_323   w48 else if v40 = 41 then J_X10_goes_323   w48 else if v40 = 43 then J_X10_goes_323   w48 else if v40 = 45 then J_X10_goes_323   w48 else if v40 = 42 then J_X10_goes_323   w48 else if v40 = 47 then J_X10_goes_323   w48 else if v40 = 60 then J_X10_goes_323   w48 else if v40 = 61 then J_X10_goes_323   w48 else J_X10_goes_328  (4) w48 else P_X10_goes_187 (fun w58 => xB (xPut w58 18 (2)) fun w59 => J_X10_goes_331   w59) 5000  w42 else P_X10_goes_108 (fun w61 => xB (xPut w61 18 (1)) fun w62 => J_X10_goes_331   w62) 5000  w42 else xB (xPut w42 18 (0)) fun w64 => J_X10_goes_331   w64
set_option maxRecDepth 20000 in
theorem J_X10_goes_50_ok {G : aG} {Hf : wS → aH} {b : Nat} {w : wS} {r : wS} (E : Emb Hf b 0 tbM) (hL : J_X10_goes_50   w = some r) : AG G M_X10_goes 50 [some (.ref (b + 0)), none] [] (Hf w) (.inl none, Hf r) := by
  unfold J_X10_goes_50 at hL
  refine g_aload_n dX10_goes_50 rfl rfl ?_
  refine g_aload_n dX10_goes_51 rfl rfl ?_
  refine s_getI (k := 0) (j := 17) E hL rfl rfl f_X10_133 dX10_goes_52 ?_
  intro v35 hL
  refine s_putI (k := 0) (j := 19) E hL rfl rfl (by decide) fw_X10_140 rfl rfl dX10_goes_55 ?_
  intro w36 hL
  refine g_aload_n dX10_goes_58 rfl rfl ?_
  refine g_lconst (v := 0) dX10_goes_59 (by decide) ?_
  refine s_putJ (k := 0) (j := 23) E hL rfl rfl (by decide) fw_X10_143 dX10_goes_60 ?_
  intro w37 hL
  refine g_aload_n dX10_goes_63 rfl rfl ?_
  refine g_iconst (v := 0) dX10_goes_64 (by decide) ?_
  refine s_putI (k := 0) (j := 21) E hL rfl rfl (by decide) fw_X10_147 rfl rfl dX10_goes_65 ?_
  intro w38 hL
  refine g_aload_n dX10_goes_68 rfl rfl ?_
  refine g_aload_n dX10_goes_69 rfl rfl ?_
  refine s_getI (k := 0) (j := 17) E hL rfl rfl f_X10_133 dX10_goes_70 ?_
  intro v39 hL
  obtain ⟨v40, w41, hc, hL⟩ := xB2_some hL
  refine g_callV (M' := M_X10_byteAt) (as := [.int (v39)]) (v := some (.int (v40))) l_X10_136 kV_X10_byteAt (by decide) (C_X10_byteAt E hc) rfl (by have := E.1; omega) (E.2.1 _ 0 _ rfl) ⟨_, _, rfl⟩ (Nat.le_of_ble_eq_true rfl) dX10_goes_73 ?_
  refine g_istore_n (i := 1) dX10_goes_76 rfl (by decide) rfl ?_
  refine g_aload_n dX10_goes_77 rfl rfl ?_
  refine g_iload_n dX10_goes_78 rfl rfl ?_
  refine s_putI (k := 0) (j := 22) E hL rfl rfl (by decide) fw_X10_150 rfl rfl dX10_goes_79 ?_
  intro w42 hL
  refine g_aload_n dX10_goes_82 rfl rfl ?_
  refine s_getI (k := 0) (j := 17) E hL rfl rfl f_X10_133 dX10_goes_83 ?_
  intro v43 hL
  refine g_aload_n dX10_goes_86 rfl rfl ?_
  refine s_getI (k := 0) (j := 16) E hL rfl rfl f_X10_130 dX10_goes_87 ?_
  intro v44 hL
  refine g_icmp_lt (tgt := 101) dX10_goes_90 (by decide) (fun q65 => ?_) (fun q65 => ?_)
  · rw [if_pos q65] at hL
    refine g_iload_n dX10_goes_101 rfl rfl ?_
    obtain ⟨v45, hc, hL⟩ := xB_some hL
    refine g_callS (M' := M_X10_isLetter) (as := [.int (v40)]) (v := some (.int (v45))) l_X10_156 kS_X10_isLetter (by decide) (C_X10_isLetter hc) rfl (Nat.le_of_ble_eq_true rfl) dX10_goes_102 ?_
    refine g_if_eq (tgt := 180) dX10_goes_105 (by decide) (fun q63 => ?_) (fun q63 => ?_)
    · rw [if_pos q63] at hL
      refine g_iload_n dX10_goes_180 rfl rfl ?_
      obtain ⟨v46, hc, hL⟩ := xB_some hL
      refine g_callS (M' := M_X10_isDigit) (as := [.int (v40)]) (v := some (.int (v46))) l_X10_160 kS_X10_isDigit (by decide) (C_X10_isDigit hc) rfl (Nat.le_of_ble_eq_true rfl) dX10_goes_181 ?_
      refine g_if_eq (tgt := 258) dX10_goes_184 (by decide) (fun q60 => ?_) (fun q60 => ?_)
      · rw [if_pos q60] at hL
        refine g_aload_n dX10_goes_258 rfl rfl ?_
        refine g_dup dX10_goes_259 rfl ?_
        refine s_getI (k := 0) (j := 17) E hL rfl rfl f_X10_133 dX10_goes_260 ?_
        intro v47 hL
        refine g_iconst (v := 1) dX10_goes_263 (by decide) ?_
        refine g_iadd dX10_goes_264 ?_
        refine s_putI (k := 0) (j := 17) E hL rfl rfl (by decide) fw_X10_133 rfl rfl dX10_goes_265 ?_
        intro w48 hL
        refine g_aload_n dX10_goes_268 rfl rfl ?_
        refine g_iload_n dX10_goes_269 rfl rfl ?_
        refine g_bipush (v := 59) dX10_goes_270 (by decide) ?_
        refine g_icmp_eq (tgt := 323) dX10_goes_272 (by decide) (fun q57 => ?_) (fun q57 => ?_)
        · rw [if_pos q57] at hL
          refine g_none 1 ?_
          exact J_X10_goes_323_ok E hL 
        · rw [if_neg q57] at hL
          refine g_iload_n dX10_goes_275 rfl rfl ?_
          refine g_bipush (v := 40) dX10_goes_276 (by decide) ?_
          refine g_icmp_eq (tgt := 323) dX10_goes_278 (by decide) (fun q56 => ?_) (fun q56 => ?_)
          · rw [if_pos q56] at hL
            refine g_none 1 ?_
            exact J_X10_goes_323_ok E hL 
          · rw [if_neg q56] at hL
            refine g_iload_n dX10_goes_281 rfl rfl ?_
            refine g_bipush (v := 41) dX10_goes_282 (by decide) ?_
            refine g_icmp_eq (tgt := 323) dX10_goes_284 (by decide) (fun q55 => ?_) (fun q55 => ?_)
            · rw [if_pos q55] at hL
              refine g_none 1 ?_
              exact J_X10_goes_323_ok E hL 
            · rw [if_neg q55] at hL
              refine g_iload_n dX10_goes_287 rfl rfl ?_
              refine g_bipush (v := 43) dX10_goes_288 (by decide) ?_
              refine g_icmp_eq (tgt := 323) dX10_goes_290 (by decide) (fun q54 => ?_) (fun q54 => ?_)
              · rw [if_pos q54] at hL
                refine g_none 1 ?_
                exact J_X10_goes_323_ok E hL 
              · rw [if_neg q54] at hL
                refine g_iload_n dX10_goes_293 rfl rfl ?_
                refine g_bipush (v := 45) dX10_goes_294 (by decide) ?_
                refine g_icmp_eq (tgt := 323) dX10_goes_296 (by decide) (fun q53 => ?_) (fun q53 => ?_)
                · rw [if_pos q53] at hL
                  refine g_none 1 ?_
                  exact J_X10_goes_323_ok E hL 
                · rw [if_neg q53] at hL
                  refine g_iload_n dX10_goes_299 rfl rfl ?_
                  refine g_bipush (v := 42) dX10_goes_300 (by decide) ?_
                  refine g_icmp_eq (tgt := 323) dX10_goes_302 (by decide) (fun q52 => ?_) (fun q52 => ?_)
                  · rw [if_pos q52] at hL
                    refine g_none 1 ?_
                    exact J_X10_goes_323_ok E hL 
                  · rw [if_neg q52] at hL
                    refine g_iload_n dX10_goes_305 rfl rfl ?_
                    refine g_bipush (v := 47) dX10_goes_306 (by decide) ?_
                    refine g_icmp_eq (tgt := 323) dX10_goes_308 (by decide) (fun q51 => ?_) (fun q51 => ?_)
                    · rw [if_pos q51] at hL
                      refine g_none 1 ?_
                      exact J_X10_goes_323_ok E hL 
                    · rw [if_neg q51] at hL
                      refine g_iload_n dX10_goes_311 rfl rfl ?_
                      refine g_bipush (v := 60) dX10_goes_312 (by decide) ?_
                      refine g_icmp_eq (tgt := 323) dX10_goes_314 (by decide) (fun q50 => ?_) (fun q50 => ?_)
                      · rw [if_pos q50] at hL
                        refine g_none 1 ?_
                        exact J_X10_goes_323_ok E hL 
                      · rw [if_neg q50] at hL
                        refine g_iload_n dX10_goes_317 rfl rfl ?_
                        refine g_none 1 ?_
                        refine g_bipush (v := 61) dX10_goes_318 (by decide) ?_
                        refine g_icmp_ne (tgt := 327) dX10_goes_320 (by decide) (fun q49 => ?_) (fun q49 => ?_)
                        · rw [if_neg q49] at hL
                          refine g_iconst (v := 4) dX10_goes_327 (by decide) ?_
                          exact J_X10_goes_328_ok E hL 
                        · rw [if_pos q49] at hL
                          exact J_X10_goes_323_ok E hL 
      · rw [if_neg q60] at hL
        refine g_none 1 ?_
        refine P_X10_goes_187_ok E hL ?_
        · intro w58 hL
          refine g_aload_n dX10_goes_250 rfl rfl ?_
          refine g_iconst (v := 2) dX10_goes_251 (by decide) ?_
          refine s_putI (k := 0) (j := 18) E hL rfl rfl (by decide) fw_X10_153 rfl rfl dX10_goes_252 ?_
          intro w59 hL
          refine g_goto (tgt := 331) dX10_goes_255 (by decide) ?_
          exact J_X10_goes_331_ok E hL 
    · rw [if_neg q63] at hL
      refine g_none 1 ?_
      refine P_X10_goes_108_ok E hL ?_
      · intro w61 hL
        refine g_aload_n dX10_goes_172 rfl rfl ?_
        refine g_iconst (v := 1) dX10_goes_173 (by decide) ?_
        refine s_putI (k := 0) (j := 18) E hL rfl rfl (by decide) fw_X10_153 rfl rfl dX10_goes_174 ?_
        intro w62 hL
        refine g_goto (tgt := 331) dX10_goes_177 (by decide) ?_
        exact J_X10_goes_331_ok E hL 
  · rw [if_neg q65] at hL
    refine g_none 1 ?_
    refine g_aload_n dX10_goes_93 rfl rfl ?_
    refine g_iconst (v := 0) dX10_goes_94 (by decide) ?_
    refine s_putI (k := 0) (j := 18) E hL rfl rfl (by decide) fw_X10_153 rfl rfl dX10_goes_95 ?_
    intro w64 hL
    refine g_goto (tgt := 331) dX10_goes_98 (by decide) ?_
    exact J_X10_goes_331_ok E hL 
def J_X10_goes_37 (kh0 : wS → Option (wS)) (ke50 : wS → Option (wS)) (w : wS) : Option (wS) :=
  xB (xGet w 17) fun v66 => xB (xPut w 17 ((v66 + 1))) fun w67 => kh0  w67
set_option maxRecDepth 20000 in
theorem J_X10_goes_37_ok {G : aG} {Hf : wS → aH} {b : Nat} {kh0 : wS → Option (wS)} {ke50 : wS → Option (wS)} {w : wS} {r : wS} (E : Emb Hf b 0 tbM) (hL : J_X10_goes_37 kh0 ke50  w = some r) (Hkh0 : ∀ (w : wS), kh0  w = some r → AG G M_X10_goes 0 [some (.ref (b + 0)), none] [] (Hf w) (.inl none, Hf r)) (Hke50 : ∀ (w : wS), ke50  w = some r → AG G M_X10_goes 50 [some (.ref (b + 0)), none] [] (Hf w) (.inl none, Hf r)) : AG G M_X10_goes 37 [some (.ref (b + 0)), none] [] (Hf w) (.inl none, Hf r) := by
  unfold J_X10_goes_37 at hL
  refine g_aload_n dX10_goes_37 rfl rfl ?_
  refine g_dup dX10_goes_38 rfl ?_
  refine s_getI (k := 0) (j := 17) E hL rfl rfl f_X10_133 dX10_goes_39 ?_
  intro v66 hL
  refine g_iconst (v := 1) dX10_goes_42 (by decide) ?_
  refine g_iadd dX10_goes_43 ?_
  refine s_putI (k := 0) (j := 17) E hL rfl rfl (by decide) fw_X10_133 rfl rfl dX10_goes_44 ?_
  intro w67 hL
  refine g_goto (tgt := 0) dX10_goes_47 (by decide) ?_
  exact Hkh0  _ hL
def B_X10_goes_0 (kh0 : wS → Option (wS)) (ke50 : wS → Option (wS)) (w : wS) : Option (wS) :=
  xB (xGet w 17) fun v68 => xB (xGet w 16) fun v69 => if v69 ≤ v68 then ke50  w else xB (xGet w 17) fun v70 => xB2 (L_X10_byteAt (v70) w) fun v71 w72 => if v71 = 32 then J_X10_goes_37 kh0 ke50  w72 else xB (xGet w72 17) fun v73 => xB2 (L_X10_byteAt (v73) w72) fun v74 w75 => if v74 = 10 then J_X10_goes_37 kh0 ke50  w75 else ke50  w75
set_option maxRecDepth 20000 in
theorem B_X10_goes_0_ok {G : aG} {Hf : wS → aH} {b : Nat} {kh0 : wS → Option (wS)} {ke50 : wS → Option (wS)} {w : wS} {r : wS} (E : Emb Hf b 0 tbM) (hL : B_X10_goes_0 kh0 ke50  w = some r) (Hkh0 : ∀ (w : wS), kh0  w = some r → AG G M_X10_goes 0 [some (.ref (b + 0)), none] [] (Hf w) (.inl none, Hf r)) (Hke50 : ∀ (w : wS), ke50  w = some r → AG G M_X10_goes 50 [some (.ref (b + 0)), none] [] (Hf w) (.inl none, Hf r)) : AG G M_X10_goes 0 [some (.ref (b + 0)), none] [] (Hf w) (.inl none, Hf r) := by
  unfold B_X10_goes_0 at hL
  refine g_aload_n dX10_goes_0 rfl rfl ?_
  refine s_getI (k := 0) (j := 17) E hL rfl rfl f_X10_133 dX10_goes_1 ?_
  intro v68 hL
  refine g_aload_n dX10_goes_4 rfl rfl ?_
  refine s_getI (k := 0) (j := 16) E hL rfl rfl f_X10_130 dX10_goes_5 ?_
  intro v69 hL
  refine g_icmp_ge (tgt := 50) dX10_goes_8 (by decide) (fun q78 => ?_) (fun q78 => ?_)
  · rw [if_pos q78] at hL
    exact Hke50  _ hL
  · rw [if_neg q78] at hL
    refine g_aload_n dX10_goes_11 rfl rfl ?_
    refine g_aload_n dX10_goes_12 rfl rfl ?_
    refine s_getI (k := 0) (j := 17) E hL rfl rfl f_X10_133 dX10_goes_13 ?_
    intro v70 hL
    obtain ⟨v71, w72, hc, hL⟩ := xB2_some hL
    refine g_callV (M' := M_X10_byteAt) (as := [.int (v70)]) (v := some (.int (v71))) l_X10_136 kV_X10_byteAt (by decide) (C_X10_byteAt E hc) rfl (by have := E.1; omega) (E.2.1 _ 0 _ rfl) ⟨_, _, rfl⟩ (Nat.le_of_ble_eq_true rfl) dX10_goes_16 ?_
    refine g_bipush (v := 32) dX10_goes_19 (by decide) ?_
    refine g_icmp_eq (tgt := 37) dX10_goes_21 (by decide) (fun q77 => ?_) (fun q77 => ?_)
    · rw [if_pos q77] at hL
      exact J_X10_goes_37_ok E hL Hkh0 Hke50
    · rw [if_neg q77] at hL
      refine g_aload_n dX10_goes_24 rfl rfl ?_
      refine g_aload_n dX10_goes_25 rfl rfl ?_
      refine s_getI (k := 0) (j := 17) E hL rfl rfl f_X10_133 dX10_goes_26 ?_
      intro v73 hL
      obtain ⟨v74, w75, hc, hL⟩ := xB2_some hL
      refine g_callV (M' := M_X10_byteAt) (as := [.int (v73)]) (v := some (.int (v74))) l_X10_136 kV_X10_byteAt (by decide) (C_X10_byteAt E hc) rfl (by have := E.1; omega) (E.2.1 _ 0 _ rfl) ⟨_, _, rfl⟩ (Nat.le_of_ble_eq_true rfl) dX10_goes_29 ?_
      refine g_bipush (v := 10) dX10_goes_32 (by decide) ?_
      refine g_icmp_ne (tgt := 50) dX10_goes_34 (by decide) (fun q76 => ?_) (fun q76 => ?_)
      · rw [if_neg q76] at hL
        exact Hke50  _ hL
      · rw [if_pos q76] at hL
        exact J_X10_goes_37_ok E hL Hkh0 Hke50
def P_X10_goes_0 (ke50 : wS → Option (wS)) (n : Nat) (w : wS) : Option (wS) :=
  xLoop (fun (kk : wS → Option (wS)) σ => B_X10_goes_0 (fun w => kk (w)) ke50 (σ)) n (w)
theorem P_X10_goes_0_ok {G : aG} {Hf : wS → aH} {b : Nat} {ke50 : wS → Option (wS)} {n : Nat} {w : wS} {r : wS} (E : Emb Hf b 0 tbM) (hL : P_X10_goes_0 ke50 n  w = some r) (Hke50 : ∀ (w : wS), ke50  w = some r → AG G M_X10_goes 50 [some (.ref (b + 0)), none] [] (Hf w) (.inl none, Hf r)) : AG G M_X10_goes 0 [some (.ref (b + 0)), none] [] (Hf w) (.inl none, Hf r) :=
  xLoop_ok (Q := fun (σ : wS) => AG G M_X10_goes 0 [some (.ref (b + 0)), none] [] (Hf σ) (.inl none, Hf r)) (fun kk hk σ hσ => B_X10_goes_0_ok E hσ (fun w h9 => hk (w) h9) Hke50) n (w) hL
def L_X10_goes (w : wS) : Option (wS) :=
  P_X10_goes_0 (fun w79 => J_X10_goes_50   w79) 5000  w
set_option maxRecDepth 20000 in
theorem C_X10_goes {G : aG} {Hf : wS → aH} {b : Nat} {w : wS} {r : wS} (E : Emb Hf b 0 tbM) (hL : L_X10_goes  w = some r) : AC G M_X10_goes [.ref (b + 0)] (Hf w) (.inl none, Hf r) := by
  unfold L_X10_goes at hL
  refine AC.of (by decide) rfl (Nat.le_of_ble_eq_true rfl) ?_
  show AG G M_X10_goes 0 [some (.ref (b + 0)), none] [] _ _
  refine P_X10_goes_0_ok E hL ?_
  · intro w79 hL
    exact J_X10_goes_50_ok E hL 
def J_X10_spelled_84 (x6 : Int64) : Option (Int64) :=
  some (x6)
set_option maxRecDepth 20000 in
theorem J_X10_spelled_84_ok {G : aG} {h : aH} {x6 : Int64} {r : Int64} (hL : J_X10_spelled_84  x6 = some r) : AG G M_X10_spelled 84 [none, none, none, none, none, none, some (.long (x6)), none] [] h (.inl (some (.long r)), h) := by
  unfold J_X10_spelled_84 at hL
  refine g_lload dX10_spelled_84 rfl ?_
  refine g_none 6 ?_
  obtain rfl := Option.some.inj hL
  exact g_lret rfl dX10_spelled_86
def J_X10_spelled_66 (x5 : Int32) (x6 : Int64) : Option (Int64) :=
  if x5 = 0 then J_X10_spelled_84  (x6) else J_X10_spelled_84  (((x6 <<< ((5 : Int32).toInt64 &&& 63)) ||| ((x5 - 96) : Int32).toInt64))
set_option maxRecDepth 20000 in
theorem J_X10_spelled_66_ok {G : aG} {h : aH} {x5 : Int32} {x6 : Int64} {r : Int64} (hL : J_X10_spelled_66  x5 x6 = some r) : AG G M_X10_spelled 66 [none, none, none, none, none, some (.int (x5)), some (.long (x6)), none] [] h (.inl (some (.long r)), h) := by
  unfold J_X10_spelled_66 at hL
  refine g_iload dX10_spelled_66 rfl ?_
  refine g_if_eq (tgt := 84) dX10_spelled_68 (by decide) (fun q1 => ?_) (fun q1 => ?_)
  · rw [if_pos q1] at hL
    refine g_none 5 ?_
    exact J_X10_spelled_84_ok hL 
  · rw [if_neg q1] at hL
    refine g_lload dX10_spelled_71 rfl ?_
    refine g_none 6 ?_
    refine g_iconst (v := 5) dX10_spelled_73 (by decide) ?_
    refine g_lshl dX10_spelled_74 ?_
    refine g_iload dX10_spelled_75 rfl ?_
    refine g_none 5 ?_
    refine g_bipush (v := 96) dX10_spelled_77 (by decide) ?_
    refine g_isub dX10_spelled_79 ?_
    refine g_i2l dX10_spelled_80 ?_
    refine g_lor dX10_spelled_81 ?_
    refine g_lstore (i := 6) dX10_spelled_82 (by decide) rfl ?_
    exact J_X10_spelled_84_ok hL 
def J_X10_spelled_48 (x4 : Int32) (x5 : Int32) (x6 : Int64) : Option (Int64) :=
  if x4 = 0 then J_X10_spelled_66  (x5) (x6) else J_X10_spelled_66  (x5) (((x6 <<< ((5 : Int32).toInt64 &&& 63)) ||| ((x4 - 96) : Int32).toInt64))
set_option maxRecDepth 20000 in
theorem J_X10_spelled_48_ok {G : aG} {h : aH} {x4 : Int32} {x5 : Int32} {x6 : Int64} {r : Int64} (hL : J_X10_spelled_48  x4 x5 x6 = some r) : AG G M_X10_spelled 48 [none, none, none, none, some (.int (x4)), some (.int (x5)), some (.long (x6)), none] [] h (.inl (some (.long r)), h) := by
  unfold J_X10_spelled_48 at hL
  refine g_iload dX10_spelled_48 rfl ?_
  refine g_if_eq (tgt := 66) dX10_spelled_50 (by decide) (fun q2 => ?_) (fun q2 => ?_)
  · rw [if_pos q2] at hL
    refine g_none 4 ?_
    exact J_X10_spelled_66_ok hL 
  · rw [if_neg q2] at hL
    refine g_lload dX10_spelled_53 rfl ?_
    refine g_none 6 ?_
    refine g_iconst (v := 5) dX10_spelled_55 (by decide) ?_
    refine g_lshl dX10_spelled_56 ?_
    refine g_iload dX10_spelled_57 rfl ?_
    refine g_none 4 ?_
    refine g_bipush (v := 96) dX10_spelled_59 (by decide) ?_
    refine g_isub dX10_spelled_61 ?_
    refine g_i2l dX10_spelled_62 ?_
    refine g_lor dX10_spelled_63 ?_
    refine g_lstore (i := 6) dX10_spelled_64 (by decide) rfl ?_
    exact J_X10_spelled_66_ok hL 
def J_X10_spelled_32 (x3 : Int32) (x4 : Int32) (x5 : Int32) (x6 : Int64) : Option (Int64) :=
  if x3 = 0 then J_X10_spelled_48  (x4) (x5) (x6) else J_X10_spelled_48  (x4) (x5) (((x6 <<< ((5 : Int32).toInt64 &&& 63)) ||| ((x3 - 96) : Int32).toInt64))
set_option maxRecDepth 20000 in
theorem J_X10_spelled_32_ok {G : aG} {h : aH} {x3 : Int32} {x4 : Int32} {x5 : Int32} {x6 : Int64} {r : Int64} (hL : J_X10_spelled_32  x3 x4 x5 x6 = some r) : AG G M_X10_spelled 32 [none, none, none, some (.int (x3)), some (.int (x4)), some (.int (x5)), some (.long (x6)), none] [] h (.inl (some (.long r)), h) := by
  unfold J_X10_spelled_32 at hL
  refine g_iload_n dX10_spelled_32 rfl rfl ?_
  refine g_if_eq (tgt := 48) dX10_spelled_33 (by decide) (fun q3 => ?_) (fun q3 => ?_)
  · rw [if_pos q3] at hL
    refine g_none 3 ?_
    exact J_X10_spelled_48_ok hL 
  · rw [if_neg q3] at hL
    refine g_lload dX10_spelled_36 rfl ?_
    refine g_none 6 ?_
    refine g_iconst (v := 5) dX10_spelled_38 (by decide) ?_
    refine g_lshl dX10_spelled_39 ?_
    refine g_iload_n dX10_spelled_40 rfl rfl ?_
    refine g_none 3 ?_
    refine g_bipush (v := 96) dX10_spelled_41 (by decide) ?_
    refine g_isub dX10_spelled_43 ?_
    refine g_i2l dX10_spelled_44 ?_
    refine g_lor dX10_spelled_45 ?_
    refine g_lstore (i := 6) dX10_spelled_46 (by decide) rfl ?_
    exact J_X10_spelled_48_ok hL 
def L_X10_spelled (a1 : Int32) (a2 : Int32) (a3 : Int32) (a4 : Int32) (a5 : Int32) (a6 : Int32) : Option (Int64) :=
  xB (some (((((a1 : Int32).toInt64 - 96) <<< ((5 : Int32).toInt64 &&& 63)) ||| ((a2 - 96) : Int32).toInt64))) fun v4 => if a3 = 0 then J_X10_spelled_32  (a4) (a5) (a6) (v4) else J_X10_spelled_32  (a4) (a5) (a6) (((v4 <<< ((5 : Int32).toInt64 &&& 63)) ||| ((a3 - 96) : Int32).toInt64))
set_option maxRecDepth 20000 in
theorem C_X10_spelled {G : aG} {h : aH} {a1 : Int32} {a2 : Int32} {a3 : Int32} {a4 : Int32} {a5 : Int32} {a6 : Int32} {r : Int64} (hL : L_X10_spelled a1 a2 a3 a4 a5 a6 = some r) : AC G M_X10_spelled [.int a1, .int a2, .int a3, .int a4, .int a5, .int a6] h (.inl (some (.long r)), h) := by
  unfold L_X10_spelled at hL
  refine AC.of (by decide) rfl (Nat.le_of_ble_eq_true rfl) ?_
  show AG G M_X10_spelled 0 [some (.int (a1)), some (.int (a2)), some (.int (a3)), some (.int (a4)), some (.int (a5)), some (.int (a6)), none, none] [] _ _
  refine g_iload_n dX10_spelled_0 rfl rfl ?_
  refine g_none 0 ?_
  refine g_i2l dX10_spelled_1 ?_
  refine g_ldc2 (v := 96) dX10_spelled_2 n_X10_166 ?_
  refine g_lsub dX10_spelled_5 ?_
  refine g_iconst (v := 5) dX10_spelled_6 (by decide) ?_
  refine g_lshl dX10_spelled_7 ?_
  refine g_iload_n dX10_spelled_8 rfl rfl ?_
  refine g_none 1 ?_
  refine g_bipush (v := 96) dX10_spelled_9 (by decide) ?_
  refine g_isub dX10_spelled_11 ?_
  refine g_i2l dX10_spelled_12 ?_
  refine g_lor dX10_spelled_13 ?_
  obtain ⟨v4, hv, hL⟩ := xB_some hL
  rw [Option.some.inj hv]
  refine g_lstore (i := 6) dX10_spelled_14 (by decide) rfl ?_
  refine g_iload_n dX10_spelled_16 rfl rfl ?_
  refine g_if_eq (tgt := 32) dX10_spelled_17 (by decide) (fun q5 => ?_) (fun q5 => ?_)
  · rw [if_pos q5] at hL
    refine g_none 2 ?_
    exact J_X10_spelled_32_ok hL 
  · rw [if_neg q5] at hL
    refine g_lload dX10_spelled_20 rfl ?_
    refine g_none 6 ?_
    refine g_iconst (v := 5) dX10_spelled_22 (by decide) ?_
    refine g_lshl dX10_spelled_23 ?_
    refine g_iload_n dX10_spelled_24 rfl rfl ?_
    refine g_none 2 ?_
    refine g_bipush (v := 96) dX10_spelled_25 (by decide) ?_
    refine g_isub dX10_spelled_27 ?_
    refine g_i2l dX10_spelled_28 ?_
    refine g_lor dX10_spelled_29 ?_
    refine g_lstore (i := 6) dX10_spelled_30 (by decide) rfl ?_
    exact J_X10_spelled_32_ok hL 
def L_X10_letters (a1 : Int32) : Option (Int64) :=
  if a1 = 0 then xB (L_X10_spelled (108) (97) (116) (101) (0) (0)) fun v2 => some (v2) else if a1 = 1 then xB (L_X10_spelled (104) (97) (98) (105) (116) (0)) fun v4 => some (v4) else if a1 = 2 then xB (L_X10_spelled (104) (97) (115) (116) (101) (0)) fun v6 => some (v6) else if a1 = 3 then xB (L_X10_spelled (114) (117) (110) (103) (0) (0)) fun v8 => some (v8) else if a1 = 4 then xB (L_X10_spelled (100) (117) (116) (121) (0) (0)) fun v10 => some (v10) else if a1 = 5 then xB (L_X10_spelled (100) (97) (121) (0) (0) (0)) fun v12 => some (v12) else if a1 = 6 then xB (L_X10_spelled (119) (97) (121) (0) (0) (0)) fun v14 => some (v14) else if a1 = 7 then xB (L_X10_spelled (112) (101) (114) (115) (111) (110)) fun v16 => some (v16) else if a1 = 8 then xB (L_X10_spelled (109) (117) (108) (101) (0) (0)) fun v18 => some (v18) else if a1 = 9 then xB (L_X10_spelled (99) (111) (111) (107) (0) (0)) fun v20 => some (v20) else if a1 = 10 then xB (L_X10_spelled (112) (97) (99) (101) (0) (0)) fun v22 => some (v22) else if a1 = 11 then xB (L_X10_spelled (114) (105) (110) (103) (115) (0)) fun v24 => some (v24) else if a1 = 12 then xB (L_X10_spelled (109) (101) (110) (100) (115) (0)) fun v26 => some (v26) else if a1 = 13 then xB (L_X10_spelled (97) (110) (100) (0) (0) (0)) fun v28 => some (v28) else if a1 = 14 then xB (L_X10_spelled (111) (114) (0) (0) (0) (0)) fun v30 => some (v30) else xB (L_X10_spelled (110) (111) (116) (0) (0) (0)) fun v31 => some (v31)
set_option maxRecDepth 20000 in
theorem C_X10_letters {G : aG} {h : aH} {a1 : Int32} {r : Int64} (hL : L_X10_letters a1 = some r) : AC G M_X10_letters [.int a1] h (.inl (some (.long r)), h) := by
  unfold L_X10_letters at hL
  refine AC.of (by decide) rfl (Nat.le_of_ble_eq_true rfl) ?_
  show AG G M_X10_letters 0 [some (.int (a1))] [] _ _
  refine g_iload_n dX10_letters_0 rfl rfl ?_
  refine g_none 0 ?_
  by_cases q1 : a1 = 0
  · rw [if_pos q1] at hL
    refine g_tableIn (off := 75) (tgt := 76) dX10_letters_1 (by rw [q1]; decide) (by rw [q1]; decide) (by rw [q1]; decide +kernel) (by decide) ?_
    refine g_bipush (v := 108) dX10_letters_76 (by decide) ?_
    refine g_bipush (v := 97) dX10_letters_78 (by decide) ?_
    refine g_bipush (v := 116) dX10_letters_80 (by decide) ?_
    refine g_bipush (v := 101) dX10_letters_82 (by decide) ?_
    refine g_iconst (v := 0) dX10_letters_84 (by decide) ?_
    refine g_iconst (v := 0) dX10_letters_85 (by decide) ?_
    obtain ⟨v2, hc, hL⟩ := xB_some hL
    refine g_callS (M' := M_X10_spelled) (as := [.int (108), .int (97), .int (116), .int (101), .int (0), .int (0)]) (v := some (.long (v2))) l_X10_168 kS_X10_spelled (by decide) (C_X10_spelled hc) rfl (Nat.le_of_ble_eq_true rfl) dX10_letters_86 ?_
    obtain rfl := Option.some.inj hL
    exact g_lret rfl dX10_letters_89
  rw [if_neg q1] at hL
  by_cases q3 : a1 = 1
  · rw [if_pos q3] at hL
    refine g_tableIn (off := 89) (tgt := 90) dX10_letters_1 (by rw [q3]; decide) (by rw [q3]; decide) (by rw [q3]; decide +kernel) (by decide) ?_
    refine g_bipush (v := 104) dX10_letters_90 (by decide) ?_
    refine g_bipush (v := 97) dX10_letters_92 (by decide) ?_
    refine g_bipush (v := 98) dX10_letters_94 (by decide) ?_
    refine g_bipush (v := 105) dX10_letters_96 (by decide) ?_
    refine g_bipush (v := 116) dX10_letters_98 (by decide) ?_
    refine g_iconst (v := 0) dX10_letters_100 (by decide) ?_
    obtain ⟨v4, hc, hL⟩ := xB_some hL
    refine g_callS (M' := M_X10_spelled) (as := [.int (104), .int (97), .int (98), .int (105), .int (116), .int (0)]) (v := some (.long (v4))) l_X10_168 kS_X10_spelled (by decide) (C_X10_spelled hc) rfl (Nat.le_of_ble_eq_true rfl) dX10_letters_101 ?_
    obtain rfl := Option.some.inj hL
    exact g_lret rfl dX10_letters_104
  rw [if_neg q3] at hL
  by_cases q5 : a1 = 2
  · rw [if_pos q5] at hL
    refine g_tableIn (off := 104) (tgt := 105) dX10_letters_1 (by rw [q5]; decide) (by rw [q5]; decide) (by rw [q5]; decide +kernel) (by decide) ?_
    refine g_bipush (v := 104) dX10_letters_105 (by decide) ?_
    refine g_bipush (v := 97) dX10_letters_107 (by decide) ?_
    refine g_bipush (v := 115) dX10_letters_109 (by decide) ?_
    refine g_bipush (v := 116) dX10_letters_111 (by decide) ?_
    refine g_bipush (v := 101) dX10_letters_113 (by decide) ?_
    refine g_iconst (v := 0) dX10_letters_115 (by decide) ?_
    obtain ⟨v6, hc, hL⟩ := xB_some hL
    refine g_callS (M' := M_X10_spelled) (as := [.int (104), .int (97), .int (115), .int (116), .int (101), .int (0)]) (v := some (.long (v6))) l_X10_168 kS_X10_spelled (by decide) (C_X10_spelled hc) rfl (Nat.le_of_ble_eq_true rfl) dX10_letters_116 ?_
    obtain rfl := Option.some.inj hL
    exact g_lret rfl dX10_letters_119
  rw [if_neg q5] at hL
  by_cases q7 : a1 = 3
  · rw [if_pos q7] at hL
    refine g_tableIn (off := 119) (tgt := 120) dX10_letters_1 (by rw [q7]; decide) (by rw [q7]; decide) (by rw [q7]; decide +kernel) (by decide) ?_
    refine g_bipush (v := 114) dX10_letters_120 (by decide) ?_
    refine g_bipush (v := 117) dX10_letters_122 (by decide) ?_
    refine g_bipush (v := 110) dX10_letters_124 (by decide) ?_
    refine g_bipush (v := 103) dX10_letters_126 (by decide) ?_
    refine g_iconst (v := 0) dX10_letters_128 (by decide) ?_
    refine g_iconst (v := 0) dX10_letters_129 (by decide) ?_
    obtain ⟨v8, hc, hL⟩ := xB_some hL
    refine g_callS (M' := M_X10_spelled) (as := [.int (114), .int (117), .int (110), .int (103), .int (0), .int (0)]) (v := some (.long (v8))) l_X10_168 kS_X10_spelled (by decide) (C_X10_spelled hc) rfl (Nat.le_of_ble_eq_true rfl) dX10_letters_130 ?_
    obtain rfl := Option.some.inj hL
    exact g_lret rfl dX10_letters_133
  rw [if_neg q7] at hL
  by_cases q9 : a1 = 4
  · rw [if_pos q9] at hL
    refine g_tableIn (off := 133) (tgt := 134) dX10_letters_1 (by rw [q9]; decide) (by rw [q9]; decide) (by rw [q9]; decide +kernel) (by decide) ?_
    refine g_bipush (v := 100) dX10_letters_134 (by decide) ?_
    refine g_bipush (v := 117) dX10_letters_136 (by decide) ?_
    refine g_bipush (v := 116) dX10_letters_138 (by decide) ?_
    refine g_bipush (v := 121) dX10_letters_140 (by decide) ?_
    refine g_iconst (v := 0) dX10_letters_142 (by decide) ?_
    refine g_iconst (v := 0) dX10_letters_143 (by decide) ?_
    obtain ⟨v10, hc, hL⟩ := xB_some hL
    refine g_callS (M' := M_X10_spelled) (as := [.int (100), .int (117), .int (116), .int (121), .int (0), .int (0)]) (v := some (.long (v10))) l_X10_168 kS_X10_spelled (by decide) (C_X10_spelled hc) rfl (Nat.le_of_ble_eq_true rfl) dX10_letters_144 ?_
    obtain rfl := Option.some.inj hL
    exact g_lret rfl dX10_letters_147
  rw [if_neg q9] at hL
  by_cases q11 : a1 = 5
  · rw [if_pos q11] at hL
    refine g_tableIn (off := 147) (tgt := 148) dX10_letters_1 (by rw [q11]; decide) (by rw [q11]; decide) (by rw [q11]; decide +kernel) (by decide) ?_
    refine g_bipush (v := 100) dX10_letters_148 (by decide) ?_
    refine g_bipush (v := 97) dX10_letters_150 (by decide) ?_
    refine g_bipush (v := 121) dX10_letters_152 (by decide) ?_
    refine g_iconst (v := 0) dX10_letters_154 (by decide) ?_
    refine g_iconst (v := 0) dX10_letters_155 (by decide) ?_
    refine g_iconst (v := 0) dX10_letters_156 (by decide) ?_
    obtain ⟨v12, hc, hL⟩ := xB_some hL
    refine g_callS (M' := M_X10_spelled) (as := [.int (100), .int (97), .int (121), .int (0), .int (0), .int (0)]) (v := some (.long (v12))) l_X10_168 kS_X10_spelled (by decide) (C_X10_spelled hc) rfl (Nat.le_of_ble_eq_true rfl) dX10_letters_157 ?_
    obtain rfl := Option.some.inj hL
    exact g_lret rfl dX10_letters_160
  rw [if_neg q11] at hL
  by_cases q13 : a1 = 6
  · rw [if_pos q13] at hL
    refine g_tableIn (off := 160) (tgt := 161) dX10_letters_1 (by rw [q13]; decide) (by rw [q13]; decide) (by rw [q13]; decide +kernel) (by decide) ?_
    refine g_bipush (v := 119) dX10_letters_161 (by decide) ?_
    refine g_bipush (v := 97) dX10_letters_163 (by decide) ?_
    refine g_bipush (v := 121) dX10_letters_165 (by decide) ?_
    refine g_iconst (v := 0) dX10_letters_167 (by decide) ?_
    refine g_iconst (v := 0) dX10_letters_168 (by decide) ?_
    refine g_iconst (v := 0) dX10_letters_169 (by decide) ?_
    obtain ⟨v14, hc, hL⟩ := xB_some hL
    refine g_callS (M' := M_X10_spelled) (as := [.int (119), .int (97), .int (121), .int (0), .int (0), .int (0)]) (v := some (.long (v14))) l_X10_168 kS_X10_spelled (by decide) (C_X10_spelled hc) rfl (Nat.le_of_ble_eq_true rfl) dX10_letters_170 ?_
    obtain rfl := Option.some.inj hL
    exact g_lret rfl dX10_letters_173
  rw [if_neg q13] at hL
  by_cases q15 : a1 = 7
  · rw [if_pos q15] at hL
    refine g_tableIn (off := 173) (tgt := 174) dX10_letters_1 (by rw [q15]; decide) (by rw [q15]; decide) (by rw [q15]; decide +kernel) (by decide) ?_
    refine g_bipush (v := 112) dX10_letters_174 (by decide) ?_
    refine g_bipush (v := 101) dX10_letters_176 (by decide) ?_
    refine g_bipush (v := 114) dX10_letters_178 (by decide) ?_
    refine g_bipush (v := 115) dX10_letters_180 (by decide) ?_
    refine g_bipush (v := 111) dX10_letters_182 (by decide) ?_
    refine g_bipush (v := 110) dX10_letters_184 (by decide) ?_
    obtain ⟨v16, hc, hL⟩ := xB_some hL
    refine g_callS (M' := M_X10_spelled) (as := [.int (112), .int (101), .int (114), .int (115), .int (111), .int (110)]) (v := some (.long (v16))) l_X10_168 kS_X10_spelled (by decide) (C_X10_spelled hc) rfl (Nat.le_of_ble_eq_true rfl) dX10_letters_186 ?_
    obtain rfl := Option.some.inj hL
    exact g_lret rfl dX10_letters_189
  rw [if_neg q15] at hL
  by_cases q17 : a1 = 8
  · rw [if_pos q17] at hL
    refine g_tableIn (off := 189) (tgt := 190) dX10_letters_1 (by rw [q17]; decide) (by rw [q17]; decide) (by rw [q17]; decide +kernel) (by decide) ?_
    refine g_bipush (v := 109) dX10_letters_190 (by decide) ?_
    refine g_bipush (v := 117) dX10_letters_192 (by decide) ?_
    refine g_bipush (v := 108) dX10_letters_194 (by decide) ?_
    refine g_bipush (v := 101) dX10_letters_196 (by decide) ?_
    refine g_iconst (v := 0) dX10_letters_198 (by decide) ?_
    refine g_iconst (v := 0) dX10_letters_199 (by decide) ?_
    obtain ⟨v18, hc, hL⟩ := xB_some hL
    refine g_callS (M' := M_X10_spelled) (as := [.int (109), .int (117), .int (108), .int (101), .int (0), .int (0)]) (v := some (.long (v18))) l_X10_168 kS_X10_spelled (by decide) (C_X10_spelled hc) rfl (Nat.le_of_ble_eq_true rfl) dX10_letters_200 ?_
    obtain rfl := Option.some.inj hL
    exact g_lret rfl dX10_letters_203
  rw [if_neg q17] at hL
  by_cases q19 : a1 = 9
  · rw [if_pos q19] at hL
    refine g_tableIn (off := 203) (tgt := 204) dX10_letters_1 (by rw [q19]; decide) (by rw [q19]; decide) (by rw [q19]; decide +kernel) (by decide) ?_
    refine g_bipush (v := 99) dX10_letters_204 (by decide) ?_
    refine g_bipush (v := 111) dX10_letters_206 (by decide) ?_
    refine g_bipush (v := 111) dX10_letters_208 (by decide) ?_
    refine g_bipush (v := 107) dX10_letters_210 (by decide) ?_
    refine g_iconst (v := 0) dX10_letters_212 (by decide) ?_
    refine g_iconst (v := 0) dX10_letters_213 (by decide) ?_
    obtain ⟨v20, hc, hL⟩ := xB_some hL
    refine g_callS (M' := M_X10_spelled) (as := [.int (99), .int (111), .int (111), .int (107), .int (0), .int (0)]) (v := some (.long (v20))) l_X10_168 kS_X10_spelled (by decide) (C_X10_spelled hc) rfl (Nat.le_of_ble_eq_true rfl) dX10_letters_214 ?_
    obtain rfl := Option.some.inj hL
    exact g_lret rfl dX10_letters_217
  rw [if_neg q19] at hL
  by_cases q21 : a1 = 10
  · rw [if_pos q21] at hL
    refine g_tableIn (off := 217) (tgt := 218) dX10_letters_1 (by rw [q21]; decide) (by rw [q21]; decide) (by rw [q21]; decide +kernel) (by decide) ?_
    refine g_bipush (v := 112) dX10_letters_218 (by decide) ?_
    refine g_bipush (v := 97) dX10_letters_220 (by decide) ?_
    refine g_bipush (v := 99) dX10_letters_222 (by decide) ?_
    refine g_bipush (v := 101) dX10_letters_224 (by decide) ?_
    refine g_iconst (v := 0) dX10_letters_226 (by decide) ?_
    refine g_iconst (v := 0) dX10_letters_227 (by decide) ?_
    obtain ⟨v22, hc, hL⟩ := xB_some hL
    refine g_callS (M' := M_X10_spelled) (as := [.int (112), .int (97), .int (99), .int (101), .int (0), .int (0)]) (v := some (.long (v22))) l_X10_168 kS_X10_spelled (by decide) (C_X10_spelled hc) rfl (Nat.le_of_ble_eq_true rfl) dX10_letters_228 ?_
    obtain rfl := Option.some.inj hL
    exact g_lret rfl dX10_letters_231
  rw [if_neg q21] at hL
  by_cases q23 : a1 = 11
  · rw [if_pos q23] at hL
    refine g_tableIn (off := 231) (tgt := 232) dX10_letters_1 (by rw [q23]; decide) (by rw [q23]; decide) (by rw [q23]; decide +kernel) (by decide) ?_
    refine g_bipush (v := 114) dX10_letters_232 (by decide) ?_
    refine g_bipush (v := 105) dX10_letters_234 (by decide) ?_
    refine g_bipush (v := 110) dX10_letters_236 (by decide) ?_
    refine g_bipush (v := 103) dX10_letters_238 (by decide) ?_
    refine g_bipush (v := 115) dX10_letters_240 (by decide) ?_
    refine g_iconst (v := 0) dX10_letters_242 (by decide) ?_
    obtain ⟨v24, hc, hL⟩ := xB_some hL
    refine g_callS (M' := M_X10_spelled) (as := [.int (114), .int (105), .int (110), .int (103), .int (115), .int (0)]) (v := some (.long (v24))) l_X10_168 kS_X10_spelled (by decide) (C_X10_spelled hc) rfl (Nat.le_of_ble_eq_true rfl) dX10_letters_243 ?_
    obtain rfl := Option.some.inj hL
    exact g_lret rfl dX10_letters_246
  rw [if_neg q23] at hL
  by_cases q25 : a1 = 12
  · rw [if_pos q25] at hL
    refine g_tableIn (off := 246) (tgt := 247) dX10_letters_1 (by rw [q25]; decide) (by rw [q25]; decide) (by rw [q25]; decide +kernel) (by decide) ?_
    refine g_bipush (v := 109) dX10_letters_247 (by decide) ?_
    refine g_bipush (v := 101) dX10_letters_249 (by decide) ?_
    refine g_bipush (v := 110) dX10_letters_251 (by decide) ?_
    refine g_bipush (v := 100) dX10_letters_253 (by decide) ?_
    refine g_bipush (v := 115) dX10_letters_255 (by decide) ?_
    refine g_iconst (v := 0) dX10_letters_257 (by decide) ?_
    obtain ⟨v26, hc, hL⟩ := xB_some hL
    refine g_callS (M' := M_X10_spelled) (as := [.int (109), .int (101), .int (110), .int (100), .int (115), .int (0)]) (v := some (.long (v26))) l_X10_168 kS_X10_spelled (by decide) (C_X10_spelled hc) rfl (Nat.le_of_ble_eq_true rfl) dX10_letters_258 ?_
    obtain rfl := Option.some.inj hL
    exact g_lret rfl dX10_letters_261
  rw [if_neg q25] at hL
  by_cases q27 : a1 = 13
  · rw [if_pos q27] at hL
    refine g_tableIn (off := 261) (tgt := 262) dX10_letters_1 (by rw [q27]; decide) (by rw [q27]; decide) (by rw [q27]; decide +kernel) (by decide) ?_
    refine g_bipush (v := 97) dX10_letters_262 (by decide) ?_
    refine g_bipush (v := 110) dX10_letters_264 (by decide) ?_
    refine g_bipush (v := 100) dX10_letters_266 (by decide) ?_
    refine g_iconst (v := 0) dX10_letters_268 (by decide) ?_
    refine g_iconst (v := 0) dX10_letters_269 (by decide) ?_
    refine g_iconst (v := 0) dX10_letters_270 (by decide) ?_
    obtain ⟨v28, hc, hL⟩ := xB_some hL
    refine g_callS (M' := M_X10_spelled) (as := [.int (97), .int (110), .int (100), .int (0), .int (0), .int (0)]) (v := some (.long (v28))) l_X10_168 kS_X10_spelled (by decide) (C_X10_spelled hc) rfl (Nat.le_of_ble_eq_true rfl) dX10_letters_271 ?_
    obtain rfl := Option.some.inj hL
    exact g_lret rfl dX10_letters_274
  rw [if_neg q27] at hL
  by_cases q29 : a1 = 14
  · rw [if_pos q29] at hL
    refine g_tableIn (off := 274) (tgt := 275) dX10_letters_1 (by rw [q29]; decide) (by rw [q29]; decide) (by rw [q29]; decide +kernel) (by decide) ?_
    refine g_bipush (v := 111) dX10_letters_275 (by decide) ?_
    refine g_bipush (v := 114) dX10_letters_277 (by decide) ?_
    refine g_iconst (v := 0) dX10_letters_279 (by decide) ?_
    refine g_iconst (v := 0) dX10_letters_280 (by decide) ?_
    refine g_iconst (v := 0) dX10_letters_281 (by decide) ?_
    refine g_iconst (v := 0) dX10_letters_282 (by decide) ?_
    obtain ⟨v30, hc, hL⟩ := xB_some hL
    refine g_callS (M' := M_X10_spelled) (as := [.int (111), .int (114), .int (0), .int (0), .int (0), .int (0)]) (v := some (.long (v30))) l_X10_168 kS_X10_spelled (by decide) (C_X10_spelled hc) rfl (Nat.le_of_ble_eq_true rfl) dX10_letters_283 ?_
    obtain rfl := Option.some.inj hL
    exact g_lret rfl dX10_letters_286
  rw [if_neg q29] at hL
  refine g_tableOut (tgt := 287) dX10_letters_1 (i32_out (x := a1) (0) (14) (fun z hz1 hz2 => ?_)) (by decide) ?_
  · rcases (show z = 0 ∨ z = 1 ∨ z = 2 ∨ z = 3 ∨ z = 4 ∨ z = 5 ∨ z = 6 ∨ z = 7 ∨ z = 8 ∨ z = 9 ∨ z = 10 ∨ z = 11 ∨ z = 12 ∨ z = 13 ∨ z = 14 by omega) with rfl | rfl | rfl | rfl | rfl | rfl | rfl | rfl | rfl | rfl | rfl | rfl | rfl | rfl | rfl
    · exact q1
    · exact q3
    · exact q5
    · exact q7
    · exact q9
    · exact q11
    · exact q13
    · exact q15
    · exact q17
    · exact q19
    · exact q21
    · exact q23
    · exact q25
    · exact q27
    · exact q29
  · refine g_bipush (v := 110) dX10_letters_287 (by decide) ?_
    refine g_bipush (v := 111) dX10_letters_289 (by decide) ?_
    refine g_bipush (v := 116) dX10_letters_291 (by decide) ?_
    refine g_iconst (v := 0) dX10_letters_293 (by decide) ?_
    refine g_iconst (v := 0) dX10_letters_294 (by decide) ?_
    refine g_iconst (v := 0) dX10_letters_295 (by decide) ?_
    obtain ⟨v31, hc, hL⟩ := xB_some hL
    refine g_callS (M' := M_X10_spelled) (as := [.int (110), .int (111), .int (116), .int (0), .int (0), .int (0)]) (v := some (.long (v31))) l_X10_168 kS_X10_spelled (by decide) (C_X10_spelled hc) rfl (Nat.le_of_ble_eq_true rfl) dX10_letters_296 ?_
    obtain rfl := Option.some.inj hL
    exact g_lret rfl dX10_letters_299
def B_X10_knownWord_21 (kh21 : Int32 → wS → Option (Int32 × wS)) (ke39 : Int32 → wS → Option (Int32 × wS)) (ke47 : wS → Option (Int32 × wS)) (x1 : Int32) (w : wS) : Option (Int32 × wS) :=
  if 16 ≤ x1 then ke47  w else xB (L_X10_letters (x1)) fun v1 => xB (xGetL w 23) fun v2 => if (lg_cmp (v1) (v2)) = 0 then ke39 (x1) w else kh21 ((x1 + 1)) w
set_option maxRecDepth 20000 in
theorem B_X10_knownWord_21_ok {G : aG} {Hf : wS → aH} {b : Nat} {kh21 : Int32 → wS → Option (Int32 × wS)} {ke39 : Int32 → wS → Option (Int32 × wS)} {ke47 : wS → Option (Int32 × wS)} {x1 : Int32} {w : wS} {r : Int32 × wS} (E : Emb Hf b 0 tbM) (hL : B_X10_knownWord_21 kh21 ke39 ke47 x1 w = some r) (Hkh21 : ∀ (z0 : Int32) (w : wS), kh21 z0 w = some r → AG G M_X10_knownWord 21 [some (.ref (b + 0)), some (.int (z0))] [] (Hf w) (.inl (some (.int r.1)), Hf r.2)) (Hke39 : ∀ (z0 : Int32) (w : wS), ke39 z0 w = some r → AG G M_X10_knownWord 39 [none, some (.int (z0))] [] (Hf w) (.inl (some (.int r.1)), Hf r.2)) (Hke47 : ∀ (w : wS), ke47  w = some r → AG G M_X10_knownWord 47 [none, none] [] (Hf w) (.inl (some (.int r.1)), Hf r.2)) : AG G M_X10_knownWord 21 [some (.ref (b + 0)), some (.int (x1))] [] (Hf w) (.inl (some (.int r.1)), Hf r.2) := by
  unfold B_X10_knownWord_21 at hL
  refine g_iload_n dX10_knownWord_21 rfl rfl ?_
  refine g_bipush (v := 16) dX10_knownWord_22 (by decide) ?_
  refine g_icmp_ge (tgt := 47) dX10_knownWord_24 (by decide) (fun q4 => ?_) (fun q4 => ?_)
  · rw [if_pos q4] at hL
    refine g_none 0 ?_
    refine g_none 1 ?_
    exact Hke47  _ hL
  · rw [if_neg q4] at hL
    refine g_iload_n dX10_knownWord_27 rfl rfl ?_
    obtain ⟨v1, hc, hL⟩ := xB_some hL
    refine g_callS (M' := M_X10_letters) (as := [.int (x1)]) (v := some (.long (v1))) l_X10_172 kS_X10_letters (by decide) (C_X10_letters hc) rfl (Nat.le_of_ble_eq_true rfl) dX10_knownWord_28 ?_
    refine g_aload_n dX10_knownWord_31 rfl rfl ?_
    refine s_getJ (k := 0) (j := 23) E hL rfl rfl f_X10_143 dX10_knownWord_32 ?_
    intro v2 hL
    refine g_lcmp dX10_knownWord_35 ?_
    refine g_if_ne (tgt := 41) dX10_knownWord_36 (by decide) (fun q3 => ?_) (fun q3 => ?_)
    · rw [if_neg q3] at hL
      refine g_iincV (v := (x1 + 1)) dX10_knownWord_41 rfl rfl (by decide) rfl ?_
      refine g_goto (tgt := 21) dX10_knownWord_44 (by decide) ?_
      exact Hkh21 _ _ hL
    · rw [if_pos q3] at hL
      refine g_none 0 ?_
      exact Hke39 _ _ hL
def P_X10_knownWord_21 (ke39 : Int32 → wS → Option (Int32 × wS)) (ke47 : wS → Option (Int32 × wS)) (n : Nat) (x1 : Int32) (w : wS) : Option (Int32 × wS) :=
  xLoop (fun (kk : Int32 × wS → Option (Int32 × wS)) σ => B_X10_knownWord_21 (fun x1 w => kk (x1, w)) ke39 ke47 (σ.1) (σ.2)) n (x1, w)
theorem P_X10_knownWord_21_ok {G : aG} {Hf : wS → aH} {b : Nat} {ke39 : Int32 → wS → Option (Int32 × wS)} {ke47 : wS → Option (Int32 × wS)} {n : Nat} {x1 : Int32} {w : wS} {r : Int32 × wS} (E : Emb Hf b 0 tbM) (hL : P_X10_knownWord_21 ke39 ke47 n x1 w = some r) (Hke39 : ∀ (z0 : Int32) (w : wS), ke39 z0 w = some r → AG G M_X10_knownWord 39 [none, some (.int (z0))] [] (Hf w) (.inl (some (.int r.1)), Hf r.2)) (Hke47 : ∀ (w : wS), ke47  w = some r → AG G M_X10_knownWord 47 [none, none] [] (Hf w) (.inl (some (.int r.1)), Hf r.2)) : AG G M_X10_knownWord 21 [some (.ref (b + 0)), some (.int (x1))] [] (Hf w) (.inl (some (.int r.1)), Hf r.2) :=
  xLoop_ok (Q := fun (σ : Int32 × wS) => AG G M_X10_knownWord 21 [some (.ref (b + 0)), some (.int (σ.1))] [] (Hf σ.2) (.inl (some (.int r.1)), Hf r.2)) (fun kk hk σ hσ => B_X10_knownWord_21_ok E hσ (fun x1 w h9 => hk (x1, w) h9) Hke39 Hke47) n (x1, w) hL
def J_X10_knownWord_17 (w : wS) : Option (Int32 × wS) :=
  some ((-1), w)
set_option maxRecDepth 20000 in
theorem J_X10_knownWord_17_ok {G : aG} {Hf : wS → aH} {b : Nat} {w : wS} {r : Int32 × wS} (E : Emb Hf b 0 tbM) (hL : J_X10_knownWord_17   w = some r) : AG G M_X10_knownWord 17 [none, none] [] (Hf w) (.inl (some (.int r.1)), Hf r.2) := by
  unfold J_X10_knownWord_17 at hL
  refine g_iconst (v := (-1)) dX10_knownWord_17 (by decide) ?_
  obtain rfl := Option.some.inj hL
  exact g_iret rfl dX10_knownWord_18
def L_X10_knownWord (w : wS) : Option (Int32 × wS) :=
  xB (xGet w 18) fun v5 => if v5 = 1 then xB (xGet w 20) fun v6 => if v6 ≤ 6 then P_X10_knownWord_21 (fun z7 w8 => some (z7, w8)) (fun w9 => some ((-1), w9)) 5000 (0) w else J_X10_knownWord_17   w else J_X10_knownWord_17   w
set_option maxRecDepth 20000 in
theorem C_X10_knownWord {G : aG} {Hf : wS → aH} {b : Nat} {w : wS} {r : Int32 × wS} (E : Emb Hf b 0 tbM) (hL : L_X10_knownWord  w = some r) : AC G M_X10_knownWord [.ref (b + 0)] (Hf w) (.inl (some (.int r.1)), Hf r.2) := by
  unfold L_X10_knownWord at hL
  refine AC.of (by decide) rfl (Nat.le_of_ble_eq_true rfl) ?_
  show AG G M_X10_knownWord 0 [some (.ref (b + 0)), none] [] _ _
  refine g_aload_n dX10_knownWord_0 rfl rfl ?_
  refine s_getI (k := 0) (j := 18) E hL rfl rfl f_X10_153 dX10_knownWord_1 ?_
  intro v5 hL
  refine g_iconst (v := 1) dX10_knownWord_4 (by decide) ?_
  refine g_icmp_ne (tgt := 17) dX10_knownWord_5 (by decide) (fun q11 => ?_) (fun q11 => ?_)
  · rw [if_neg q11] at hL
    refine g_none 0 ?_
    exact J_X10_knownWord_17_ok E hL 
  · rw [if_pos q11] at hL
    refine g_aload_n dX10_knownWord_8 rfl rfl ?_
    refine s_getI (k := 0) (j := 20) E hL rfl rfl f_X10_163 dX10_knownWord_9 ?_
    intro v6 hL
    refine g_bipush (v := 6) dX10_knownWord_12 (by decide) ?_
    refine g_icmp_le (tgt := 19) dX10_knownWord_14 (by decide) (fun q10 => ?_) (fun q10 => ?_)
    · rw [if_pos q10] at hL
      refine g_iconst (v := 0) dX10_knownWord_19 (by decide) ?_
      refine g_istore_n (i := 1) dX10_knownWord_20 rfl (by decide) rfl ?_
      refine P_X10_knownWord_21_ok E hL ?_ ?_
      · intro z7 w8 hL
        refine g_iload_n dX10_knownWord_39 rfl rfl ?_
        refine g_none 1 ?_
        obtain rfl := Option.some.inj hL
        exact g_iret rfl dX10_knownWord_40
      · intro w9 hL
        refine g_iconst (v := (-1)) dX10_knownWord_47 (by decide) ?_
        obtain rfl := Option.some.inj hL
        exact g_iret rfl dX10_knownWord_48
    · rw [if_neg q10] at hL
      refine g_none 0 ?_
      exact J_X10_knownWord_17_ok E hL 
def L_X10_wrong (a1 : Int32) (w : wS) : Option (wS) :=
  xB (xGet w 13) fun v1 => if v1 = 0 then xB (xPut w 13 (a1)) fun w2 => xB (xGet w2 19) fun v3 => xB (xPut w2 14 (v3)) fun w4 => some w4 else some w
set_option maxRecDepth 20000 in
theorem C_X10_wrong {G : aG} {Hf : wS → aH} {b : Nat} {a1 : Int32} {w : wS} {r : wS} (E : Emb Hf b 0 tbM) (hL : L_X10_wrong a1 w = some r) : AC G M_X10_wrong [.ref (b + 0), .int a1] (Hf w) (.inl none, Hf r) := by
  unfold L_X10_wrong at hL
  refine AC.of (by decide) rfl (Nat.le_of_ble_eq_true rfl) ?_
  show AG G M_X10_wrong 0 [some (.ref (b + 0)), some (.int (a1))] [] _ _
  refine g_aload_n dX10_wrong_0 rfl rfl ?_
  refine s_getI (k := 0) (j := 13) E hL rfl rfl f_X10_176 dX10_wrong_1 ?_
  intro v1 hL
  refine g_if_eq (tgt := 8) dX10_wrong_4 (by decide) (fun q5 => ?_) (fun q5 => ?_)
  · rw [if_pos q5] at hL
    refine g_aload_n dX10_wrong_8 rfl rfl ?_
    refine g_iload_n dX10_wrong_9 rfl rfl ?_
    refine g_none 1 ?_
    refine s_putI (k := 0) (j := 13) E hL rfl rfl (by decide) fw_X10_176 rfl rfl dX10_wrong_10 ?_
    intro w2 hL
    refine g_aload_n dX10_wrong_13 rfl rfl ?_
    refine g_aload_n dX10_wrong_14 rfl rfl ?_
    refine g_none 0 ?_
    refine s_getI (k := 0) (j := 19) E hL rfl rfl f_X10_140 dX10_wrong_15 ?_
    intro v3 hL
    refine s_putI (k := 0) (j := 14) E hL rfl rfl (by decide) fw_X10_38 rfl rfl dX10_wrong_18 ?_
    intro w4 hL
    obtain rfl := Option.some.inj hL
    exact g_vret rfl dX10_wrong_21
  · rw [if_neg q5] at hL
    refine g_none 0 ?_
    refine g_none 1 ?_
    obtain rfl := Option.some.inj hL
    exact g_vret rfl dX10_wrong_7
def J_X10_isGood_12 (y0 : Int32) (w : wS) : Option (Int32 × wS) :=
  xB (xBool (y0)) fun v1 => some (v1, w)
set_option maxRecDepth 20000 in
theorem J_X10_isGood_12_ok {G : aG} {Hf : wS → aH} {b : Nat} {y0 : Int32} {w : wS} {r : Int32 × wS} (E : Emb Hf b 0 tbM) (hL : J_X10_isGood_12  y0 w = some r) : AG G M_X10_isGood 12 [none] [.int (y0)] (Hf w) (.inl (some (.int r.1)), Hf r.2) := by
  unfold J_X10_isGood_12 at hL
  obtain ⟨v1, hb, hR⟩ := xB_some hL
  obtain ⟨hz, hb2⟩ := xBool_some hb
  clear hL
  subst hz
  obtain rfl := Option.some.inj hR
  exact g_zret rfl (narrow_bool hb2) dX10_isGood_12
def L_X10_isGood (w : wS) : Option (Int32 × wS) :=
  xB (xGet w 13) fun v2 => if v2 = 0 then J_X10_isGood_12  (1) w else J_X10_isGood_12  (0) w
set_option maxRecDepth 20000 in
theorem C_X10_isGood {G : aG} {Hf : wS → aH} {b : Nat} {w : wS} {r : Int32 × wS} (E : Emb Hf b 0 tbM) (hL : L_X10_isGood  w = some r) : AC G M_X10_isGood [.ref (b + 0)] (Hf w) (.inl (some (.int r.1)), Hf r.2) := by
  unfold L_X10_isGood at hL
  refine AC.of (by decide) rfl (Nat.le_of_ble_eq_true rfl) ?_
  show AG G M_X10_isGood 0 [some (.ref (b + 0))] [] _ _
  refine g_aload_n dX10_isGood_0 rfl rfl ?_
  refine g_none 0 ?_
  refine s_getI (k := 0) (j := 13) E hL rfl rfl f_X10_176 dX10_isGood_1 ?_
  intro v2 hL
  refine g_if_ne (tgt := 11) dX10_isGood_4 (by decide) (fun q3 => ?_) (fun q3 => ?_)
  · rw [if_neg q3] at hL
    refine g_iconst (v := 0) dX10_isGood_11 (by decide) ?_
    exact J_X10_isGood_12_ok E hL 
  · rw [if_pos q3] at hL
    refine g_iconst (v := 1) dX10_isGood_7 (by decide) ?_
    refine g_goto (tgt := 12) dX10_isGood_8 (by decide) ?_
    exact J_X10_isGood_12_ok E hL 
def J_X10_isSign_21 (y0 : Int32) (w : wS) : Option (Int32 × wS) :=
  xB (xBool (y0)) fun v1 => some (v1, w)
set_option maxRecDepth 20000 in
theorem J_X10_isSign_21_ok {G : aG} {Hf : wS → aH} {b : Nat} {y0 : Int32} {w : wS} {r : Int32 × wS} (E : Emb Hf b 0 tbM) (hL : J_X10_isSign_21  y0 w = some r) : AG G M_X10_isSign 21 [none, none] [.int (y0)] (Hf w) (.inl (some (.int r.1)), Hf r.2) := by
  unfold J_X10_isSign_21 at hL
  obtain ⟨v1, hb, hR⟩ := xB_some hL
  obtain ⟨hz, hb2⟩ := xBool_some hb
  clear hL
  subst hz
  obtain rfl := Option.some.inj hR
  exact g_zret rfl (narrow_bool hb2) dX10_isSign_21
def J_X10_isSign_20 (w : wS) : Option (Int32 × wS) :=
  J_X10_isSign_21  (0) w
set_option maxRecDepth 20000 in
theorem J_X10_isSign_20_ok {G : aG} {Hf : wS → aH} {b : Nat} {w : wS} {r : Int32 × wS} (E : Emb Hf b 0 tbM) (hL : J_X10_isSign_20   w = some r) : AG G M_X10_isSign 20 [none, none] [] (Hf w) (.inl (some (.int r.1)), Hf r.2) := by
  unfold J_X10_isSign_20 at hL
  refine g_iconst (v := 0) dX10_isSign_20 (by decide) ?_
  exact J_X10_isSign_21_ok E hL 
def L_X10_isSign (a1 : Int32) (w : wS) : Option (Int32 × wS) :=
  xB (xGet w 18) fun v2 => if v2 = 3 then xB (xGet w 22) fun v3 => if v3 = a1 then J_X10_isSign_21  (1) w else J_X10_isSign_20   w else J_X10_isSign_20   w
set_option maxRecDepth 20000 in
theorem C_X10_isSign {G : aG} {Hf : wS → aH} {b : Nat} {a1 : Int32} {w : wS} {r : Int32 × wS} (E : Emb Hf b 0 tbM) (hL : L_X10_isSign a1 w = some r) : AC G M_X10_isSign [.ref (b + 0), .int a1] (Hf w) (.inl (some (.int r.1)), Hf r.2) := by
  unfold L_X10_isSign at hL
  refine AC.of (by decide) rfl (Nat.le_of_ble_eq_true rfl) ?_
  show AG G M_X10_isSign 0 [some (.ref (b + 0)), some (.int (a1))] [] _ _
  refine g_aload_n dX10_isSign_0 rfl rfl ?_
  refine s_getI (k := 0) (j := 18) E hL rfl rfl f_X10_153 dX10_isSign_1 ?_
  intro v2 hL
  refine g_iconst (v := 3) dX10_isSign_4 (by decide) ?_
  refine g_icmp_ne (tgt := 20) dX10_isSign_5 (by decide) (fun q5 => ?_) (fun q5 => ?_)
  · rw [if_neg q5] at hL
    refine g_none 0 ?_
    refine g_none 1 ?_
    exact J_X10_isSign_20_ok E hL 
  · rw [if_pos q5] at hL
    refine g_aload_n dX10_isSign_8 rfl rfl ?_
    refine g_none 0 ?_
    refine s_getI (k := 0) (j := 22) E hL rfl rfl f_X10_150 dX10_isSign_9 ?_
    intro v3 hL
    refine g_iload_n dX10_isSign_12 rfl rfl ?_
    refine g_none 1 ?_
    refine g_icmp_ne (tgt := 20) dX10_isSign_13 (by decide) (fun q4 => ?_) (fun q4 => ?_)
    · rw [if_neg q4] at hL
      exact J_X10_isSign_20_ok E hL 
    · rw [if_pos q4] at hL
      refine g_iconst (v := 1) dX10_isSign_16 (by decide) ?_
      refine g_goto (tgt := 21) dX10_isSign_17 (by decide) ?_
      exact J_X10_isSign_21_ok E hL 
