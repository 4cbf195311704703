def J_X1_mend_32 (o : wO) (x1 : Int32) (y0 : Int32) (w : wS) : Option (wS) :=
  xB (L_X1_hasten o (x1) (y0) w) fun w1 => some w1
set_option maxRecDepth 20000 in
theorem J_X1_mend_32_ok {G : aG} {Hf : wS → aH} {bx : Nat} {o : wO} {x1 : Int32} {y0 : Int32} {w : wS} {r : wS} (hG : aGood G) (E : EX Hf bx o) (hL : J_X1_mend_32 o  x1 y0 w = some r) : AG G M_X1_mend 32 [some (.ref (bx + 30)), some (.int (x1)), none, none, none] [.int (y0)] (Hf w) (.inl none, Hf r) := by
  unfold J_X1_mend_32 at hL
  refine g_istore (i := 4) dX1_mend_32 (by decide) rfl ?_
  refine g_aload_n dX1_mend_34 rfl rfl ?_
  refine g_none 0 ?_
  refine g_iload_n dX1_mend_35 rfl rfl ?_
  refine g_none 1 ?_
  refine g_iload dX1_mend_36 rfl ?_
  refine g_none 4 ?_
  obtain ⟨w1, hc, hL⟩ := xB_some hL
  refine g_callV (M' := M_X1_hasten) (as := [.int (x1), .int (y0)]) (v := none) l_X1_175 kV_X1_hasten (by decide) (C_X1_hasten hG E hc) rfl (by have := E.1.1; omega) (E.1.2.1 _ 30 _ rfl) ⟨_, _, rfl⟩ (Nat.le_of_ble_eq_true rfl) dX1_mend_38 ?_
  obtain rfl := Option.some.inj hL
  exact g_vret rfl dX1_mend_41
def L_X1_mend (o : wO) (a1 : Int32) (a2 : Int32) (w : wS) : Option (wS) :=
  xIf (xRef w 3010 (oT o + 0)) (xNu w 100010 (oS o + 0) (J_X1_mend_32 o  (a1) (1) w) (xB (L_X1_valuesOf o (a1) (a2) w) fun w2 => xB2 (L_X3_give_s0_x40 o  w2) fun v3 w4 => xB (L_X9_within (v3) (0) (9)) fun v5 => J_X1_mend_32 o  (a1) (v5) w4))
set_option maxRecDepth 20000 in
theorem C_X1_mend {G : aG} {Hf : wS → aH} {bx : Nat} {o : wO} {a1 : Int32} {a2 : Int32} {w : wS} {r : wS} (hG : aGood G) (E : EX Hf bx o) (hL : L_X1_mend o a1 a2 w = some r) : AC G M_X1_mend [.ref (bx + 30), .int a1, .int a2] (Hf w) (.inl none, Hf r) := by
  unfold L_X1_mend at hL
  refine AC.of (by decide) rfl (Nat.le_of_ble_eq_true rfl) ?_
  show AG G M_X1_mend 0 [some (.ref (bx + 30)), some (.int (a1)), some (.int (a2)), none, none] [] _ _
  refine g_aload_n dX1_mend_0 rfl rfl ?_
  refine s_getT (k := 30) (j := 10) E.1 hL rfl rfl f_X1_52 dX1_mend_1 ?_
  intro hL
  refine s_getN (k := 0) (j := 10) E.2.1 hL rfl rfl f_X1_172 dX1_mend_4 ?_ ?_
  · intro hL
    refine g_astore_nN (i := 3) dX1_mend_7 rfl (by decide) rfl ?_
    refine g_aload_nN dX1_mend_8 rfl rfl ?_
    refine g_ifnonnullN dX1_mend_9 ?_
    refine g_none 2 ?_
    refine g_none 3 ?_
    refine g_iconst (v := 1) dX1_mend_12 (by decide) ?_
    refine g_goto (tgt := 32) dX1_mend_13 (by decide) ?_
    exact J_X1_mend_32_ok hG E hL 
  · intro hs hL
    refine g_astore_n (i := 3) dX1_mend_7 rfl (by decide) rfl ?_
    refine g_aload_n dX1_mend_8 rfl rfl ?_
    refine g_ifnonnull (tgt := 16) dX1_mend_9 (by decide) ?_
    refine g_aload_n dX1_mend_16 rfl rfl ?_
    refine g_none 3 ?_
    refine g_aload_n dX1_mend_17 rfl rfl ?_
    refine g_iload_n dX1_mend_18 rfl rfl ?_
    refine g_iload_n dX1_mend_19 rfl rfl ?_
    refine g_none 2 ?_
    obtain ⟨w2, hc, hL⟩ := xB_some hL
    refine g_callV (M' := M_X1_valuesOf) (as := [.int (a1), .int (a2)]) (v := some (.ref (bx + 40))) l_X1_135 kV_X1_valuesOf (by decide) (C_X1_valuesOf hG E hc) rfl (by have := E.1.1; omega) (E.1.2.1 _ 30 _ rfl) ⟨_, _, rfl⟩ (Nat.le_of_ble_eq_true rfl) dX1_mend_20 ?_
    obtain ⟨v3, w4, hc, hL⟩ := xB2_some hL
    refine g_callV (M' := M_X3_give) (as := [.ref (bx + 40)]) (v := some (.int (v3))) l_X1_139 kV_X3_give (by decide) (C_X3_give_s0_x40 hG E hs hc) rfl (by have := (E.2.2.2 hs).1; omega) ((E.2.2.2 hs).2.1 _ 0 _ rfl) ⟨_, _, rfl⟩ (Nat.le_of_ble_eq_true rfl) dX1_mend_23 ?_
    refine g_iconst (v := 0) dX1_mend_26 (by decide) ?_
    refine g_bipush (v := 9) dX1_mend_27 (by decide) ?_
    obtain ⟨v5, hc, hL⟩ := xB_some hL
    refine g_callS (M' := M_X9_within) (as := [.int (v3), .int (0), .int (9)]) (v := some (.int (v5))) l_X1_143 kS_X9_within (by decide) (C_X9_within hc) rfl (Nat.le_of_ble_eq_true rfl) dX1_mend_29 ?_
    exact J_X1_mend_32_ok hG E hL 
def J_X1_turn_62 (o : wO) (w : wS) : Option (wS) :=
  some w
set_option maxRecDepth 20000 in
theorem J_X1_turn_62_ok {G : aG} {Hf : wS → aH} {bx : Nat} {o : wO} {w : wS} {r : wS} (hG : aGood G) (E : EX Hf bx o) (hL : J_X1_turn_62 o   w = some r) : AG G M_X1_turn 62 [none, none, none] [] (Hf w) (.inl none, Hf r) := by
  unfold J_X1_turn_62 at hL
  obtain rfl := Option.some.inj hL
  exact g_vret rfl dX1_turn_62
def B_X1_turn_7 (o : wO) (kh7 : Int32 → Int32 → wS → Option (wS)) (ke30 : Int32 → wS → Option (wS)) (x1 : Int32) (x2 : Int32) (w : wS) : Option (wS) :=
  xIf (xRef w 3010 (oT o + 0)) (xB (xGet w 100006) fun v1 => if v1 ≤ x2 then ke30 (x1) w else xB (L_X1_come o (x2) (x1) w) fun w2 => kh7 (x1) ((x2 + 1)) w2)
set_option maxRecDepth 20000 in
theorem B_X1_turn_7_ok {G : aG} {Hf : wS → aH} {bx : Nat} {o : wO} {kh7 : Int32 → Int32 → wS → Option (wS)} {ke30 : Int32 → wS → Option (wS)} {x1 : Int32} {x2 : Int32} {w : wS} {r : wS} (hG : aGood G) (E : EX Hf bx o) (hL : B_X1_turn_7 o kh7 ke30 x1 x2 w = some r) (Hkh7 : ∀ (z0 : Int32) (z1 : Int32) (w : wS), kh7 z0 z1 w = some r → AG G M_X1_turn 7 [some (.ref (bx + 30)), some (.int (z0)), some (.int (z1))] [] (Hf w) (.inl none, Hf r)) (Hke30 : ∀ (z0 : Int32) (w : wS), ke30 z0 w = some r → AG G M_X1_turn 30 [some (.ref (bx + 30)), some (.int (z0)), none] [] (Hf w) (.inl none, Hf r)) : AG G M_X1_turn 7 [some (.ref (bx + 30)), some (.int (x1)), some (.int (x2))] [] (Hf w) (.inl none, Hf r) := by
  unfold B_X1_turn_7 at hL
  refine g_iload_n dX1_turn_7 rfl rfl ?_
  refine g_aload_n dX1_turn_8 rfl rfl ?_
  refine s_getT (k := 30) (j := 10) E.1 hL rfl rfl f_X1_52 dX1_turn_9 ?_
  intro hL
  refine s_getI (k := 0) (j := 6) E.2.1 hL rfl rfl f_X1_86 dX1_turn_12 ?_
  intro v1 hL
  refine g_icmp_ge (tgt := 30) dX1_turn_15 (by decide) (fun q3 => ?_) (fun q3 => ?_)
  · rw [if_pos q3] at hL
    refine g_none 2 ?_
    exact Hke30 _ _ hL
  · rw [if_neg q3] at hL
    refine g_aload_n dX1_turn_18 rfl rfl ?_
    refine g_iload_n dX1_turn_19 rfl rfl ?_
    refine g_iload_n dX1_turn_20 rfl rfl ?_
    obtain ⟨w2, hc, hL⟩ := xB_some hL
    refine g_callV (M' := M_X1_come) (as := [.int (x2), .int (x1)]) (v := none) l_X1_113 kV_X1_come (by decide) (C_X1_come hG E hc) rfl (by have := E.1.1; omega) (E.1.2.1 _ 30 _ rfl) ⟨_, _, rfl⟩ (Nat.le_of_ble_eq_true rfl) dX1_turn_21 ?_
    refine g_iincV (v := (x2 + 1)) dX1_turn_24 rfl rfl (by decide) rfl ?_
    refine g_goto (tgt := 7) dX1_turn_27 (by decide) ?_
    exact Hkh7 _ _ _ hL
def P_X1_turn_7 (o : wO) (ke30 : Int32 → wS → Option (wS)) (n : Nat) (x1 : Int32) (x2 : Int32) (w : wS) : Option (wS) :=
  xLoop (fun (kk : Int32 × Int32 × wS → Option (wS)) σ => B_X1_turn_7 o (fun x1 x2 w => kk (x1, x2, w)) ke30 (σ.1) (σ.2.1) (σ.2.2)) n (x1, x2, w)
theorem P_X1_turn_7_ok {G : aG} {Hf : wS → aH} {bx : Nat} {o : wO} {ke30 : Int32 → wS → Option (wS)} {n : Nat} {x1 : Int32} {x2 : Int32} {w : wS} {r : wS} (hG : aGood G) (E : EX Hf bx o) (hL : P_X1_turn_7 o ke30 n x1 x2 w = some r) (Hke30 : ∀ (z0 : Int32) (w : wS), ke30 z0 w = some r → AG G M_X1_turn 30 [some (.ref (bx + 30)), some (.int (z0)), none] [] (Hf w) (.inl none, Hf r)) : AG G M_X1_turn 7 [some (.ref (bx + 30)), some (.int (x1)), some (.int (x2))] [] (Hf w) (.inl none, Hf r) :=
  xLoop_ok (Q := fun (σ : Int32 × Int32 × wS) => AG G M_X1_turn 7 [some (.ref (bx + 30)), some (.int (σ.1)), some (.int (σ.2.1))] [] (Hf σ.2.2) (.inl none, Hf r)) (fun kk hk σ hσ => B_X1_turn_7_ok hG E hσ (fun x1 x2 w h9 => hk (x1, x2, w) h9) Hke30) n (x1, x2, w) hL
def L_X1_turn (o : wO) (a1 : Int32) (w : wS) : Option (wS) :=
  xB (L_X1_ring o (a1) w) fun w4 => P_X1_turn_7 o (fun z5 w6 => xB2 (L_X1_lastWithout o (0) w6) fun v7 w8 => xB (xAst w8 39 6 (z5) (v7)) fun w9 => xB (L_X5_setRinger_x31 o (v7) w9) fun w10 => if v7 = (-1) then J_X1_turn_62 o   w10 else xB (L_X1_mend o (v7) (z5) w10) fun w11 => J_X1_turn_62 o   w11) 5000 (a1) (0) w4
set_option maxRecDepth 20000 in
theorem C_X1_turn {G : aG} {Hf : wS → aH} {bx : Nat} {o : wO} {a1 : Int32} {w : wS} {r : wS} (hG : aGood G) (E : EX Hf bx o) (hL : L_X1_turn o a1 w = some r) : AC G M_X1_turn [.ref (bx + 30), .int a1] (Hf w) (.inl none, Hf r) := by
  unfold L_X1_turn at hL
  refine AC.of (by decide) rfl (Nat.le_of_ble_eq_true rfl) ?_
  show AG G M_X1_turn 0 [some (.ref (bx + 30)), some (.int (a1)), none] [] _ _
  refine g_aload_n dX1_turn_0 rfl rfl ?_
  refine g_iload_n dX1_turn_1 rfl rfl ?_
  obtain ⟨w4, hc, hL⟩ := xB_some hL
  refine g_callV (M' := M_X1_ring) (as := [.int (a1)]) (v := none) l_X1_110 kV_X1_ring (by decide) (C_X1_ring hG E hc) rfl (by have := E.1.1; omega) (E.1.2.1 _ 30 _ rfl) ⟨_, _, rfl⟩ (Nat.le_of_ble_eq_true rfl) dX1_turn_2 ?_
  refine g_iconst (v := 0) dX1_turn_5 (by decide) ?_
  refine g_istore_n (i := 2) dX1_turn_6 rfl (by decide) rfl ?_
  refine P_X1_turn_7_ok hG E hL ?_
  · intro z5 w6 hL
    refine g_aload_n dX1_turn_30 rfl rfl ?_
    refine g_iconst (v := 0) dX1_turn_31 (by decide) ?_
    obtain ⟨v7, w8, hc, hL⟩ := xB2_some hL
    refine g_callV (M' := M_X1_lastWithout) (as := [.int (0)]) (v := some (.int (v7))) l_X1_116 kV_X1_lastWithout (by decide) (C_X1_lastWithout hG E hc) rfl (by have := E.1.1; omega) (E.1.2.1 _ 30 _ rfl) ⟨_, _, rfl⟩ (Nat.le_of_ble_eq_true rfl) dX1_turn_32 ?_
    refine g_istore_n (i := 2) dX1_turn_35 rfl (by decide) rfl ?_
    refine g_aload_n dX1_turn_36 rfl rfl ?_
    refine s_getR (k := 30) (j := 7) E.1 rfl rfl f_X1_37 dX1_turn_37 ?_
    refine g_iload_n dX1_turn_40 rfl rfl ?_
    refine g_iload_n dX1_turn_41 rfl rfl ?_
    refine s_iast (k := 39) E.1 hL rfl dX1_turn_42 ?_
    intro w9 hL
    refine g_aload_n dX1_turn_43 rfl rfl ?_
    refine s_getR (k := 30) (j := 0) E.1 rfl rfl f_X1_12 dX1_turn_44 ?_
    refine g_iload_n dX1_turn_47 rfl rfl ?_
    obtain ⟨w10, hc, hL⟩ := xB_some hL
    refine g_callV (M' := M_X5_setRinger) (as := [.int (v7)]) (v := none) l_X1_119 kV_X5_setRinger (by decide) (C_X5_setRinger_x31 hG E hc) rfl (by have := E.1.1; omega) (E.1.2.1 _ 31 _ rfl) ⟨_, _, rfl⟩ (Nat.le_of_ble_eq_true rfl) dX1_turn_48 ?_
    refine g_iload_n dX1_turn_51 rfl rfl ?_
    refine g_iconst (v := (-1)) dX1_turn_52 (by decide) ?_
    refine g_icmp_eq (tgt := 62) dX1_turn_53 (by decide) (fun q12 => ?_) (fun q12 => ?_)
    · rw [if_pos q12] at hL
      refine g_none 0 ?_
      refine g_none 1 ?_
      refine g_none 2 ?_
      exact J_X1_turn_62_ok hG E hL 
    · rw [if_neg q12] at hL
      refine g_aload_n dX1_turn_56 rfl rfl ?_
      refine g_none 0 ?_
      refine g_iload_n dX1_turn_57 rfl rfl ?_
      refine g_none 2 ?_
      refine g_iload_n dX1_turn_58 rfl rfl ?_
      refine g_none 1 ?_
      obtain ⟨w11, hc, hL⟩ := xB_some hL
      refine g_callV (M' := M_X1_mend) (as := [.int (v7), .int (z5)]) (v := none) l_X1_122 kV_X1_mend (by decide) (C_X1_mend hG E hc) rfl (by have := E.1.1; omega) (E.1.2.1 _ 30 _ rfl) ⟨_, _, rfl⟩ (Nat.le_of_ble_eq_true rfl) dX1_turn_59 ?_
      exact J_X1_turn_62_ok hG E hL 
def L_X5_endDay_x31 (o : wO) (w : wS) : Option (wS) :=
  xB (xAld w 32 33 (31)) fun v1 => xB (xAst w 32 33 (31) ((v1 + (1 : Int32)))) fun w2 => some w2
set_option maxRecDepth 20000 in
theorem C_X5_endDay_x31 {G : aG} {Hf : wS → aH} {bx : Nat} {o : wO} {w : wS} {r : wS} (hG : aGood G) (E : EX Hf bx o) (hL : L_X5_endDay_x31 o  w = some r) : AC G M_X5_endDay [.ref (bx + 31)] (Hf w) (.inl none, Hf r) := by
  unfold L_X5_endDay_x31 at hL
  refine AC.of (by decide) rfl (Nat.le_of_ble_eq_true rfl) ?_
  show AG G M_X5_endDay 0 [some (.ref (bx + 31))] [] _ _
  refine g_aload_n dX5_endDay_0 rfl rfl ?_
  refine g_none 0 ?_
  refine s_getR (k := 31) (j := 0) E.1 rfl rfl f_X5_11 dX5_endDay_1 ?_
  refine g_bipush (v := 31) dX5_endDay_4 (by decide) ?_
  refine g_dup2 dX5_endDay_6 rfl rfl ?_
  refine s_iald (k := 32) E.1 hL rfl dX5_endDay_7 ?_
  intro v1 hL
  refine g_iconst (v := 1) dX5_endDay_8 (by decide) ?_
  refine g_iadd dX5_endDay_9 ?_
  refine s_iast (k := 32) E.1 hL rfl dX5_endDay_10 ?_
  intro w2 hL
  obtain rfl := Option.some.inj hL
  exact g_vret rfl dX5_endDay_11
def J_X1_oneDay_72 (o : wO) (kh31 : Int32 → wS → Option (wS)) (ke78 : wS → Option (wS)) (x1 : Int32) (w : wS) : Option (wS) :=
  kh31 ((x1 + 1)) w
set_option maxRecDepth 20000 in
theorem J_X1_oneDay_72_ok {G : aG} {Hf : wS → aH} {bx : Nat} {o : wO} {kh31 : Int32 → wS → Option (wS)} {ke78 : wS → Option (wS)} {x1 : Int32} {w : wS} {r : wS} (hG : aGood G) (E : EX Hf bx o) (hL : J_X1_oneDay_72 o kh31 ke78 x1 w = some r) (Hkh31 : ∀ (z0 : Int32) (w : wS), kh31 z0 w = some r → AG G M_X1_oneDay 31 [some (.ref (bx + 30)), some (.int (z0))] [] (Hf w) (.inl none, Hf r)) (Hke78 : ∀ (w : wS), ke78  w = some r → AG G M_X1_oneDay 78 [some (.ref (bx + 30)), none] [] (Hf w) (.inl none, Hf r)) : AG G M_X1_oneDay 72 [some (.ref (bx + 30)), some (.int (x1))] [] (Hf w) (.inl none, Hf r) := by
  unfold J_X1_oneDay_72 at hL
  refine g_iincV (v := (x1 + 1)) dX1_oneDay_72 rfl rfl (by decide) rfl ?_
  refine g_goto (tgt := 31) dX1_oneDay_75 (by decide) ?_
  exact Hkh31 _ _ hL
def B_X1_oneDay_31 (o : wO) (kh31 : Int32 → wS → Option (wS)) (ke78 : wS → Option (wS)) (x1 : Int32) (w : wS) : Option (wS) :=
  xIf (xRef w 3010 (oT o + 0)) (xB (xGet w 100006) fun v1 => if v1 ≤ x1 then ke78  w else xB2 (L_X1_rangToday o (x1) w) fun v2 w3 => if v2 = 0 then xB2 (L_X5_hasteOf_x31 o (x1) w3) fun v4 w5 => xB (L_X5_setHaste_x31 o (x1) ((xMax (0) ((v4 - (1 : Int32))))) w5) fun w6 => J_X1_oneDay_72 o kh31 ke78 (x1) w6 else J_X1_oneDay_72 o kh31 ke78 (x1) w3)
set_option maxRecDepth 20000 in
theorem B_X1_oneDay_31_ok {G : aG} {Hf : wS → aH} {bx : Nat} {o : wO} {kh31 : Int32 → wS → Option (wS)} {ke78 : wS → Option (wS)} {x1 : Int32} {w : wS} {r : wS} (hG : aGood G) (E : EX Hf bx o) (hL : B_X1_oneDay_31 o kh31 ke78 x1 w = some r) (Hkh31 : ∀ (z0 : Int32) (w : wS), kh31 z0 w = some r → AG G M_X1_oneDay 31 [some (.ref (bx + 30)), some (.int (z0))] [] (Hf w) (.inl none, Hf r)) (Hke78 : ∀ (w : wS), ke78  w = some r → AG G M_X1_oneDay 78 [some (.ref (bx + 30)), none] [] (Hf w) (.inl none, Hf r)) : AG G M_X1_oneDay 31 [some (.ref (bx + 30)), some (.int (x1))] [] (Hf w) (.inl none, Hf r) := by
  unfold B_X1_oneDay_31 at hL
  refine g_iload_n dX1_oneDay_31 rfl rfl ?_
  refine g_aload_n dX1_oneDay_32 rfl rfl ?_
  refine s_getT (k := 30) (j := 10) E.1 hL rfl rfl f_X1_52 dX1_oneDay_33 ?_
  intro hL
  refine s_getI (k := 0) (j := 6) E.2.1 hL rfl rfl f_X1_86 dX1_oneDay_36 ?_
  intro v1 hL
  refine g_icmp_ge (tgt := 78) dX1_oneDay_39 (by decide) (fun q8 => ?_) (fun q8 => ?_)
  · rw [if_pos q8] at hL
    refine g_none 1 ?_
    exact Hke78  _ hL
  · rw [if_neg q8] at hL
    refine g_aload_n dX1_oneDay_42 rfl rfl ?_
    refine g_iload_n dX1_oneDay_43 rfl rfl ?_
    obtain ⟨v2, w3, hc, hL⟩ := xB2_some hL
    refine g_callV (M' := M_X1_rangToday) (as := [.int (x1)]) (v := some (.int (v2))) l_X1_89 kV_X1_rangToday (by decide) (C_X1_rangToday hG E hc) rfl (by have := E.1.1; omega) (E.1.2.1 _ 30 _ rfl) ⟨_, _, rfl⟩ (Nat.le_of_ble_eq_true rfl) dX1_oneDay_44 ?_
    refine g_if_ne (tgt := 72) dX1_oneDay_47 (by decide) (fun q7 => ?_) (fun q7 => ?_)
    · rw [if_neg q7] at hL
      exact J_X1_oneDay_72_ok hG E hL Hkh31 Hke78
    · rw [if_pos q7] at hL
      refine g_aload_n dX1_oneDay_50 rfl rfl ?_
      refine s_getR (k := 30) (j := 0) E.1 rfl rfl f_X1_12 dX1_oneDay_51 ?_
      refine g_iload_n dX1_oneDay_54 rfl rfl ?_
      refine g_iconst (v := 0) dX1_oneDay_55 (by decide) ?_
      refine g_aload_n dX1_oneDay_56 rfl rfl ?_
      refine s_getR (k := 30) (j := 0) E.1 rfl rfl f_X1_12 dX1_oneDay_57 ?_
      refine g_iload_n dX1_oneDay_60 rfl rfl ?_
      obtain ⟨v4, w5, hc, hL⟩ := xB2_some hL
      refine g_callV (M' := M_X5_hasteOf) (as := [.int (x1)]) (v := some (.int (v4))) l_X1_93 kV_X5_hasteOf (by decide) (C_X5_hasteOf_x31 hG E hc) rfl (by have := E.1.1; omega) (E.1.2.1 _ 31 _ rfl) ⟨_, _, rfl⟩ (Nat.le_of_ble_eq_true rfl) dX1_oneDay_61 ?_
      refine g_iconst (v := 1) dX1_oneDay_64 (by decide) ?_
      refine g_isub dX1_oneDay_65 ?_
      refine g_mmax (aIn1 589 (by decide +kernel) rfl) mmax_1 mmax_2 mmax_3 (by decide) (Nat.le_of_ble_eq_true rfl) dX1_oneDay_66 ?_
      obtain ⟨w6, hc, hL⟩ := xB_some hL
      refine g_callV (M' := M_X5_setHaste) (as := [.int (x1), .int ((xMax (0) ((v4 - (1 : Int32)))))]) (v := none) l_X1_103 kV_X5_setHaste (by decide) (C_X5_setHaste_x31 hG E hc) rfl (by have := E.1.1; omega) (E.1.2.1 _ 31 _ rfl) ⟨_, _, rfl⟩ (Nat.le_of_ble_eq_true rfl) dX1_oneDay_69 ?_
      exact J_X1_oneDay_72_ok hG E hL Hkh31 Hke78
def P_X1_oneDay_31 (o : wO) (ke78 : wS → Option (wS)) (n : Nat) (x1 : Int32) (w : wS) : Option (wS) :=
  xLoop (fun (kk : Int32 × wS → Option (wS)) σ => B_X1_oneDay_31 o (fun x1 w => kk (x1, w)) ke78 (σ.1) (σ.2)) n (x1, w)
theorem P_X1_oneDay_31_ok {G : aG} {Hf : wS → aH} {bx : Nat} {o : wO} {ke78 : wS → Option (wS)} {n : Nat} {x1 : Int32} {w : wS} {r : wS} (hG : aGood G) (E : EX Hf bx o) (hL : P_X1_oneDay_31 o ke78 n x1 w = some r) (Hke78 : ∀ (w : wS), ke78  w = some r → AG G M_X1_oneDay 78 [some (.ref (bx + 30)), none] [] (Hf w) (.inl none, Hf r)) : AG G M_X1_oneDay 31 [some (.ref (bx + 30)), some (.int (x1))] [] (Hf w) (.inl none, Hf r) :=
  xLoop_ok (Q := fun (σ : Int32 × wS) => AG G M_X1_oneDay 31 [some (.ref (bx + 30)), some (.int (σ.1))] [] (Hf σ.2) (.inl none, Hf r)) (fun kk hk σ hσ => B_X1_oneDay_31_ok hG E hσ (fun x1 w h9 => hk (x1, w) h9) Hke78) n (x1, w) hL
def B_X1_oneDay_7 (o : wO) (kh7 : Int32 → wS → Option (wS)) (ke29 : wS → Option (wS)) (x1 : Int32) (w : wS) : Option (wS) :=
  xIf (xRef w 3010 (oT o + 0)) (xB (xGet w 100007) fun v9 => if v9 ≤ x1 then ke29  w else xB (L_X1_turn o (x1) w) fun w10 => kh7 ((x1 + 1)) w10)
set_option maxRecDepth 20000 in
theorem B_X1_oneDay_7_ok {G : aG} {Hf : wS → aH} {bx : Nat} {o : wO} {kh7 : Int32 → wS → Option (wS)} {ke29 : wS → Option (wS)} {x1 : Int32} {w : wS} {r : wS} (hG : aGood G) (E : EX Hf bx o) (hL : B_X1_oneDay_7 o kh7 ke29 x1 w = some r) (Hkh7 : ∀ (z0 : Int32) (w : wS), kh7 z0 w = some r → AG G M_X1_oneDay 7 [some (.ref (bx + 30)), some (.int (z0))] [] (Hf w) (.inl none, Hf r)) (Hke29 : ∀ (w : wS), ke29  w = some r → AG G M_X1_oneDay 29 [some (.ref (bx + 30)), none] [] (Hf w) (.inl none, Hf r)) : AG G M_X1_oneDay 7 [some (.ref (bx + 30)), some (.int (x1))] [] (Hf w) (.inl none, Hf r) := by
  unfold B_X1_oneDay_7 at hL
  refine g_iload_n dX1_oneDay_7 rfl rfl ?_
  refine g_aload_n dX1_oneDay_8 rfl rfl ?_
  refine s_getT (k := 30) (j := 10) E.1 hL rfl rfl f_X1_52 dX1_oneDay_9 ?_
  intro hL
  refine s_getI (k := 0) (j := 7) E.2.1 hL rfl rfl f_X1_79 dX1_oneDay_12 ?_
  intro v9 hL
  refine g_icmp_ge (tgt := 29) dX1_oneDay_15 (by decide) (fun q11 => ?_) (fun q11 => ?_)
  · rw [if_pos q11] at hL
    refine g_none 1 ?_
    exact Hke29  _ hL
  · rw [if_neg q11] at hL
    refine g_aload_n dX1_oneDay_18 rfl rfl ?_
    refine g_iload_n dX1_oneDay_19 rfl rfl ?_
    obtain ⟨w10, hc, hL⟩ := xB_some hL
    refine g_callV (M' := M_X1_turn) (as := [.int (x1)]) (v := none) l_X1_82 kV_X1_turn (by decide) (C_X1_turn hG E hc) rfl (by have := E.1.1; omega) (E.1.2.1 _ 30 _ rfl) ⟨_, _, rfl⟩ (Nat.le_of_ble_eq_true rfl) dX1_oneDay_20 ?_
    refine g_iincV (v := (x1 + 1)) dX1_oneDay_23 rfl rfl (by decide) rfl ?_
    refine g_goto (tgt := 7) dX1_oneDay_26 (by decide) ?_
    exact Hkh7 _ _ hL
def P_X1_oneDay_7 (o : wO) (ke29 : wS → Option (wS)) (n : Nat) (x1 : Int32) (w : wS) : Option (wS) :=
  xLoop (fun (kk : Int32 × wS → Option (wS)) σ => B_X1_oneDay_7 o (fun x1 w => kk (x1, w)) ke29 (σ.1) (σ.2)) n (x1, w)
theorem P_X1_oneDay_7_ok {G : aG} {Hf : wS → aH} {bx : Nat} {o : wO} {ke29 : wS → Option (wS)} {n : Nat} {x1 : Int32} {w : wS} {r : wS} (hG : aGood G) (E : EX Hf bx o) (hL : P_X1_oneDay_7 o ke29 n x1 w = some r) (Hke29 : ∀ (w : wS), ke29  w = some r → AG G M_X1_oneDay 29 [some (.ref (bx + 30)), none] [] (Hf w) (.inl none, Hf r)) : AG G M_X1_oneDay 7 [some (.ref (bx + 30)), some (.int (x1))] [] (Hf w) (.inl none, Hf r) :=
  xLoop_ok (Q := fun (σ : Int32 × wS) => AG G M_X1_oneDay 7 [some (.ref (bx + 30)), some (.int (σ.1))] [] (Hf σ.2) (.inl none, Hf r)) (fun kk hk σ hσ => B_X1_oneDay_7_ok hG E hσ (fun x1 w h9 => hk (x1, w) h9) Hke29) n (x1, w) hL
def L_X1_oneDay (o : wO) (w : wS) : Option (wS) :=
  xB (xPut w 3011 (0)) fun w12 => P_X1_oneDay_7 o (fun w13 => P_X1_oneDay_31 o (fun w14 => xB (L_X5_endDay_x31 o  w14) fun w15 => some w15) 5000 (0) w13) 5000 (0) w12
set_option maxRecDepth 20000 in
theorem C_X1_oneDay {G : aG} {Hf : wS → aH} {bx : Nat} {o : wO} {w : wS} {r : wS} (hG : aGood G) (E : EX Hf bx o) (hL : L_X1_oneDay o  w = some r) : AC G M_X1_oneDay [.ref (bx + 30)] (Hf w) (.inl none, Hf r) := by
  unfold L_X1_oneDay at hL
  refine AC.of (by decide) rfl (Nat.le_of_ble_eq_true rfl) ?_
  show AG G M_X1_oneDay 0 [some (.ref (bx + 30)), none] [] _ _
  refine g_aload_n dX1_oneDay_0 rfl rfl ?_
  refine g_iconst (v := 0) dX1_oneDay_1 (by decide) ?_
  refine s_putI (k := 30) (j := 11) E.1 hL rfl rfl (by decide) fw_X1_56 rfl rfl dX1_oneDay_2 ?_
  intro w12 hL
  refine g_iconst (v := 0) dX1_oneDay_5 (by decide) ?_
  refine g_istore_n (i := 1) dX1_oneDay_6 rfl (by decide) rfl ?_
  refine P_X1_oneDay_7_ok hG E hL ?_
  · intro w13 hL
    refine g_iconst (v := 0) dX1_oneDay_29 (by decide) ?_
    refine g_istore_n (i := 1) dX1_oneDay_30 rfl (by decide) rfl ?_
    refine P_X1_oneDay_31_ok hG E hL ?_
    · intro w14 hL
      refine g_aload_n dX1_oneDay_78 rfl rfl ?_
      refine g_none 0 ?_
      refine s_getR (k := 30) (j := 0) E.1 rfl rfl f_X1_12 dX1_oneDay_79 ?_
      obtain ⟨w15, hc, hL⟩ := xB_some hL
      refine g_callV (M' := M_X5_endDay) (as := []) (v := none) l_X1_107 kV_X5_endDay (by decide) (C_X5_endDay_x31 hG E hc) rfl (by have := E.1.1; omega) (E.1.2.1 _ 31 _ rfl) ⟨_, _, rfl⟩ (Nat.le_of_ble_eq_true rfl) dX1_oneDay_82 ?_
      obtain rfl := Option.some.inj hL
      exact g_vret rfl dX1_oneDay_85
def B_X1_manyDays_2 (o : wO) (kh2 : Int32 → Int32 → wS → Option (wS)) (ke17 : wS → Option (wS)) (x1 : Int32) (x2 : Int32) (w : wS) : Option (wS) :=
  if x1 ≤ x2 then ke17  w else xB (L_X1_oneDay o  w) fun w1 => kh2 (x1) ((x2 + 1)) w1
set_option maxRecDepth 20000 in
theorem B_X1_manyDays_2_ok {G : aG} {Hf : wS → aH} {bx : Nat} {o : wO} {kh2 : Int32 → Int32 → wS → Option (wS)} {ke17 : wS → Option (wS)} {x1 : Int32} {x2 : Int32} {w : wS} {r : wS} (hG : aGood G) (E : EX Hf bx o) (hL : B_X1_manyDays_2 o kh2 ke17 x1 x2 w = some r) (Hkh2 : ∀ (z0 : Int32) (z1 : Int32) (w : wS), kh2 z0 z1 w = some r → AG G M_X1_manyDays 2 [some (.ref (bx + 30)), some (.int (z0)), some (.int (z1))] [] (Hf w) (.inl none, Hf r)) (Hke17 : ∀ (w : wS), ke17  w = some r → AG G M_X1_manyDays 17 [none, none, none] [] (Hf w) (.inl none, Hf r)) : AG G M_X1_manyDays 2 [some (.ref (bx + 30)), some (.int (x1)), some (.int (x2))] [] (Hf w) (.inl none, Hf r) := by
  unfold B_X1_manyDays_2 at hL
  refine g_iload_n dX1_manyDays_2 rfl rfl ?_
  refine g_iload_n dX1_manyDays_3 rfl rfl ?_
  refine g_icmp_ge (tgt := 17) dX1_manyDays_4 (by decide) (fun q2 => ?_) (fun q2 => ?_)
  · rw [if_pos q2] at hL
    refine g_none 0 ?_
    refine g_none 1 ?_
    refine g_none 2 ?_
    exact Hke17  _ hL
  · rw [if_neg q2] at hL
    refine g_aload_n dX1_manyDays_7 rfl rfl ?_
    obtain ⟨w1, hc, hL⟩ := xB_some hL
    refine g_callV (M' := M_X1_oneDay) (as := []) (v := none) l_X1_76 kV_X1_oneDay (by decide) (C_X1_oneDay hG E hc) rfl (by have := E.1.1; omega) (E.1.2.1 _ 30 _ rfl) ⟨_, _, rfl⟩ (Nat.le_of_ble_eq_true rfl) dX1_manyDays_8 ?_
    refine g_iincV (v := (x2 + 1)) dX1_manyDays_11 rfl rfl (by decide) rfl ?_
    refine g_goto (tgt := 2) dX1_manyDays_14 (by decide) ?_
    exact Hkh2 _ _ _ hL
def P_X1_manyDays_2 (o : wO) (ke17 : wS → Option (wS)) (n : Nat) (x1 : Int32) (x2 : Int32) (w : wS) : Option (wS) :=
  xLoop (fun (kk : Int32 × Int32 × wS → Option (wS)) σ => B_X1_manyDays_2 o (fun x1 x2 w => kk (x1, x2, w)) ke17 (σ.1) (σ.2.1) (σ.2.2)) n (x1, x2, w)
theorem P_X1_manyDays_2_ok {G : aG} {Hf : wS → aH} {bx : Nat} {o : wO} {ke17 : wS → Option (wS)} {n : Nat} {x1 : Int32} {x2 : Int32} {w : wS} {r : wS} (hG : aGood G) (E : EX Hf bx o) (hL : P_X1_manyDays_2 o ke17 n x1 x2 w = some r) (Hke17 : ∀ (w : wS), ke17  w = some r → AG G M_X1_manyDays 17 [none, none, none] [] (Hf w) (.inl none, Hf r)) : AG G M_X1_manyDays 2 [some (.ref (bx + 30)), some (.int (x1)), some (.int (x2))] [] (Hf w) (.inl none, Hf r) :=
  xLoop_ok (Q := fun (σ : Int32 × Int32 × wS) => AG G M_X1_manyDays 2 [some (.ref (bx + 30)), some (.int (σ.1)), some (.int (σ.2.1))] [] (Hf σ.2.2) (.inl none, Hf r)) (fun kk hk σ hσ => B_X1_manyDays_2_ok hG E hσ (fun x1 x2 w h9 => hk (x1, x2, w) h9) Hke17) n (x1, x2, w) hL
def L_X1_manyDays (o : wO) (a1 : Int32) (w : wS) : Option (wS) :=
  P_X1_manyDays_2 o (fun w3 => some w3) 5000 (a1) (0) w
set_option maxRecDepth 20000 in
theorem C_X1_manyDays {G : aG} {Hf : wS → aH} {bx : Nat} {o : wO} {a1 : Int32} {w : wS} {r : wS} (hG : aGood G) (E : EX Hf bx o) (hL : L_X1_manyDays o a1 w = some r) : AC G M_X1_manyDays [.ref (bx + 30), .int a1] (Hf w) (.inl none, Hf r) := by
  unfold L_X1_manyDays at hL
  refine AC.of (by decide) rfl (Nat.le_of_ble_eq_true rfl) ?_
  show AG G M_X1_manyDays 0 [some (.ref (bx + 30)), some (.int (a1)), none] [] _ _
  refine g_iconst (v := 0) dX1_manyDays_0 (by decide) ?_
  refine g_istore_n (i := 2) dX1_manyDays_1 rfl (by decide) rfl ?_
  refine P_X1_manyDays_2_ok hG E hL ?_
  · intro w3 hL
    obtain rfl := Option.some.inj hL
    exact g_vret rfl dX1_manyDays_17
def L_X5_copyFrom_x13_x31 (o : wO) (w : wS) : Option (wS) :=
  xB (xCpy w 32 14 33 33 (0) (0) (33)) fun w1 => some w1
set_option maxRecDepth 20000 in
theorem C_X5_copyFrom_x13_x31 {G : aG} {Hf : wS → aH} {bx : Nat} {o : wO} {w : wS} {r : wS} (hG : aGood G) (E : EX Hf bx o) (hL : L_X5_copyFrom_x13_x31 o  w = some r) : AC G M_X5_copyFrom [.ref (bx + 13), .ref (bx + 31)] (Hf w) (.inl none, Hf r) := by
  unfold L_X5_copyFrom_x13_x31 at hL
  refine AC.of (by decide) rfl (Nat.le_of_ble_eq_true rfl) ?_
  show AG G M_X5_copyFrom 0 [some (.ref (bx + 13)), some (.ref (bx + 31))] [] _ _
  refine g_aload_n dX5_copyFrom_0 rfl rfl ?_
  refine g_none 1 ?_
  refine s_getR (k := 31) (j := 0) E.1 rfl rfl f_X5_11 dX5_copyFrom_1 ?_
  refine g_iconst (v := 0) dX5_copyFrom_4 (by decide) ?_
  refine g_aload_n dX5_copyFrom_5 rfl rfl ?_
  refine g_none 0 ?_
  refine s_getR (k := 13) (j := 0) E.1 rfl rfl f_X5_11 dX5_copyFrom_6 ?_
  refine g_iconst (v := 0) dX5_copyFrom_9 (by decide) ?_
  refine g_bipush (v := 33) dX5_copyFrom_10 (by decide) ?_
  refine s_copy (k0 := 32) (k1 := 14) E.1 E.1 hL rfl rfl (aIn1 450 (by decide +kernel) rfl) ac_nat ac_sta ac_ini (by decide) (Nat.le_of_ble_eq_true rfl) dX5_copyFrom_12 ?_
  intro w1 hL
  obtain rfl := Option.some.inj hL
  exact g_vret rfl dX5_copyFrom_15
def J_X9_days_29 (o : wO) (w : wS) : Option (Int32 × wS) :=
  xB (xAld w 48 3 (1)) fun v1 => xB (xAst w 48 3 (1) ((v1 + (1 : Int32)))) fun w2 => some ((-1), w2)
set_option maxRecDepth 20000 in
theorem J_X9_days_29_ok {G : aG} {Hf : wS → aH} {bx : Nat} {o : wO} {w : wS} {r : Int32 × wS} (hG : aGood G) (E : EX Hf bx o) (hL : J_X9_days_29 o   w = some r) : AG G M_X9_days 29 [some (.ref (bx + 0)), none, none] [] (Hf w) (.inl (some (.int r.1)), Hf r.2) := by
  unfold J_X9_days_29 at hL
  refine g_aload_n dX9_days_29 rfl rfl ?_
  refine g_none 0 ?_
  refine s_getR (k := 0) (j := 4) E.1 rfl rfl f_X9_33 dX9_days_30 ?_
  refine g_iconst (v := 1) dX9_days_33 (by decide) ?_
  refine g_dup2 dX9_days_34 rfl rfl ?_
  refine s_iald (k := 48) E.1 hL rfl dX9_days_35 ?_
  intro v1 hL
  refine g_iconst (v := 1) dX9_days_36 (by decide) ?_
  refine g_iadd dX9_days_37 ?_
  refine s_iast (k := 48) E.1 hL rfl dX9_days_38 ?_
  intro w2 hL
  refine g_iconst (v := (-1)) dX9_days_39 (by decide) ?_
  obtain rfl := Option.some.inj hL
  exact g_iret rfl dX9_days_40
def L_X9_days (o : wO) (a1 : Int32) (w : wS) : Option (Int32 × wS) :=
  if a1 < 1 then J_X9_days_29 o   w else if 20 < a1 then J_X9_days_29 o   w else xB2 (L_X5_day_x13 o  w) fun v3 w4 => if (v3 + a1) ≤ 999 then xB (L_X0_keep_x15_x13 o  w4) fun w5 => xB (L_X9_fromNow o  w5) fun w6 => xB (L_X1_manyDays o (a1) w6) fun w7 => xB (L_X5_copyFrom_x13_x31 o  w7) fun w8 => xB2 (L_X5_day_x13 o  w8) fun v9 w10 => some (v9, w10) else J_X9_days_29 o   w4
set_option maxRecDepth 20000 in
theorem C_X9_days {G : aG} {Hf : wS → aH} {bx : Nat} {o : wO} {a1 : Int32} {w : wS} {r : Int32 × wS} (hG : aGood G) (E : EX Hf bx o) (hL : L_X9_days o a1 w = some r) : AC G M_X9_days [.ref (bx + 0), .int a1] (Hf w) (.inl (some (.int r.1)), Hf r.2) := by
  unfold L_X9_days at hL
  refine AC.of (by decide) rfl (Nat.le_of_ble_eq_true rfl) ?_
  show AG G M_X9_days 0 [some (.ref (bx + 0)), some (.int (a1)), none] [] _ _
  refine g_iload_n dX9_days_0 rfl rfl ?_
  refine g_iconst (v := 1) dX9_days_1 (by decide) ?_
  refine g_icmp_lt (tgt := 29) dX9_days_2 (by decide) (fun q13 => ?_) (fun q13 => ?_)
  · rw [if_pos q13] at hL
    refine g_none 1 ?_
    exact J_X9_days_29_ok hG E hL 
  · rw [if_neg q13] at hL
    refine g_iload_n dX9_days_5 rfl rfl ?_
    refine g_bipush (v := 20) dX9_days_6 (by decide) ?_
    refine g_icmp_gt (tgt := 29) dX9_days_8 (by decide) (fun q12 => ?_) (fun q12 => ?_)
    · rw [if_pos q12] at hL
      refine g_none 1 ?_
      exact J_X9_days_29_ok hG E hL 
    · rw [if_neg q12] at hL
      refine g_aload_n dX9_days_11 rfl rfl ?_
      refine s_getR (k := 0) (j := 1) E.1 rfl rfl f_X9_19 dX9_days_12 ?_
      refine s_getR (k := 12) (j := 0) E.1 rfl rfl f_X9_108 dX9_days_15 ?_
      obtain ⟨v3, w4, hc, hL⟩ := xB2_some hL
      refine g_callV (M' := M_X5_day) (as := []) (v := some (.int (v3))) l_X9_112 kV_X5_day (by decide) (C_X5_day_x13 hG E hc) rfl (by have := E.1.1; omega) (E.1.2.1 _ 13 _ rfl) ⟨_, _, rfl⟩ (Nat.le_of_ble_eq_true rfl) dX9_days_18 ?_
      refine g_iload_n dX9_days_21 rfl rfl ?_
      refine g_iadd dX9_days_22 ?_
      refine g_sipush (v := 999) dX9_days_23 (by decide) ?_
      refine g_icmp_le (tgt := 41) dX9_days_26 (by decide) (fun q11 => ?_) (fun q11 => ?_)
      · rw [if_pos q11] at hL
        refine g_aload_n dX9_days_41 rfl rfl ?_
        refine s_getR (k := 0) (j := 1) E.1 rfl rfl f_X9_19 dX9_days_42 ?_
        refine s_getR (k := 12) (j := 1) E.1 rfl rfl f_X9_126 dX9_days_45 ?_
        refine g_aload_n dX9_days_48 rfl rfl ?_
        refine s_getR (k := 0) (j := 1) E.1 rfl rfl f_X9_19 dX9_days_49 ?_
        refine s_getR (k := 12) (j := 0) E.1 rfl rfl f_X9_108 dX9_days_52 ?_
        obtain ⟨w5, hc, hL⟩ := xB_some hL
        refine g_callV (M' := M_X0_keep) (as := [.ref (bx + 13)]) (v := none) l_X9_189 kV_X0_keep (by decide) (C_X0_keep_x15_x13 hG E hc) rfl (by have := E.1.1; omega) (E.1.2.1 _ 15 _ rfl) ⟨_, _, rfl⟩ (Nat.le_of_ble_eq_true rfl) dX9_days_55 ?_
        refine g_aload_n dX9_days_58 rfl rfl ?_
        obtain ⟨w6, hc, hL⟩ := xB_some hL
        refine g_callV (M' := M_X9_fromNow) (as := []) (v := some (.ref (bx + 30))) l_X9_193 kV_X9_fromNow (by decide) (C_X9_fromNow hG E hc) rfl (by have := E.1.1; omega) (E.1.2.1 _ 0 _ rfl) ⟨_, _, rfl⟩ (Nat.le_of_ble_eq_true rfl) dX9_days_59 ?_
        refine g_astore_n (i := 2) dX9_days_62 rfl (by decide) rfl ?_
        refine g_aload_n dX9_days_63 rfl rfl ?_
        refine g_iload_n dX9_days_64 rfl rfl ?_
        refine g_none 1 ?_
        obtain ⟨w7, hc, hL⟩ := xB_some hL
        refine g_callV (M' := M_X1_manyDays) (as := [.int (a1)]) (v := none) l_X9_197 kV_X1_manyDays (by decide) (C_X1_manyDays hG E hc) rfl (by have := E.1.1; omega) (E.1.2.1 _ 30 _ rfl) ⟨_, _, rfl⟩ (Nat.le_of_ble_eq_true rfl) dX9_days_65 ?_
        refine g_aload_n dX9_days_68 rfl rfl ?_
        refine s_getR (k := 0) (j := 1) E.1 rfl rfl f_X9_19 dX9_days_69 ?_
        refine s_getR (k := 12) (j := 0) E.1 rfl rfl f_X9_108 dX9_days_72 ?_
        refine g_aload_n dX9_days_75 rfl rfl ?_
        refine g_none 2 ?_
        refine s_getR (k := 30) (j := 0) E.1 rfl rfl f_X9_200 dX9_days_76 ?_
        obtain ⟨w8, hc, hL⟩ := xB_some hL
        refine g_callV (M' := M_X5_copyFrom) (as := [.ref (bx + 31)]) (v := none) l_X9_201 kV_X5_copyFrom (by decide) (C_X5_copyFrom_x13_x31 hG E hc) rfl (by have := E.1.1; omega) (E.1.2.1 _ 13 _ rfl) ⟨_, _, rfl⟩ (Nat.le_of_ble_eq_true rfl) dX9_days_79 ?_
        refine g_aload_n dX9_days_82 rfl rfl ?_
        refine g_none 0 ?_
        refine s_getR (k := 0) (j := 1) E.1 rfl rfl f_X9_19 dX9_days_83 ?_
        refine s_getR (k := 12) (j := 0) E.1 rfl rfl f_X9_108 dX9_days_86 ?_
        obtain ⟨v9, w10, hc, hL⟩ := xB2_some hL
        refine g_callV (M' := M_X5_day) (as := []) (v := some (.int (v9))) l_X9_112 kV_X5_day (by decide) (C_X5_day_x13 hG E hc) rfl (by have := E.1.1; omega) (E.1.2.1 _ 13 _ rfl) ⟨_, _, rfl⟩ (Nat.le_of_ble_eq_true rfl) dX9_days_89 ?_
        obtain rfl := Option.some.inj hL
        exact g_iret rfl dX9_days_92
      · rw [if_neg q11] at hL
        refine g_none 1 ?_
        exact J_X9_days_29_ok hG E hL 
def L_X5_setHaste_x13 (o : wO) (a1 : Int32) (a2 : Int32) (w : wS) : Option (wS) :=
  xB (xAst w 14 33 (((1 : Int32) + a1)) (a2)) fun w1 => some w1
set_option maxRecDepth 20000 in
theorem C_X5_setHaste_x13 {G : aG} {Hf : wS → aH} {bx : Nat} {o : wO} {a1 : Int32} {a2 : Int32} {w : wS} {r : wS} (hG : aGood G) (E : EX Hf bx o) (hL : L_X5_setHaste_x13 o a1 a2 w = some r) : AC G M_X5_setHaste [.ref (bx + 13), .int a1, .int a2] (Hf w) (.inl none, Hf r) := by
  unfold L_X5_setHaste_x13 at hL
  refine AC.of (by decide) rfl (Nat.le_of_ble_eq_true rfl) ?_
  show AG G M_X5_setHaste 0 [some (.ref (bx + 13)), some (.int (a1)), some (.int (a2))] [] _ _
  refine g_aload_n dX5_setHaste_0 rfl rfl ?_
  refine g_none 0 ?_
  refine s_getR (k := 13) (j := 0) E.1 rfl rfl f_X5_11 dX5_setHaste_1 ?_
  refine g_iconst (v := 1) dX5_setHaste_4 (by decide) ?_
  refine g_iload_n dX5_setHaste_5 rfl rfl ?_
  refine g_none 1 ?_
  refine g_iadd dX5_setHaste_6 ?_
  refine g_iload_n dX5_setHaste_7 rfl rfl ?_
  refine g_none 2 ?_
  refine s_iast (k := 14) E.1 hL rfl dX5_setHaste_8 ?_
  intro w1 hL
  obtain rfl := Option.some.inj hL
  exact g_vret rfl dX5_setHaste_9
def J_X9_hurry_15 (o : wO) (w : wS) : Option ((Int32 ⊕ String) × wS) :=
  xB (xAld w 48 3 (1)) fun v1 => xB (xAst w 48 3 (1) ((v1 + (1 : Int32)))) fun w2 => some (.inl ((-1)), w2)
set_option maxRecDepth 20000 in
theorem J_X9_hurry_15_ok {G : aG} {Hf : wS → aH} {bx : Nat} {o : wO} {w : wS} {r : (Int32 ⊕ String) × wS} (hG : aGood G) (E : EX Hf bx o) (hL : J_X9_hurry_15 o   w = some r) : AG G M_X9_hurry 15 [some (.ref (bx + 0)), none, none, none] [] (Hf w) (xRv Hf r) := by
  unfold J_X9_hurry_15 at hL
  refine g_aload_n dX9_hurry_15 rfl rfl ?_
  refine g_none 0 ?_
  refine s_getR (k := 0) (j := 4) E.1 rfl rfl f_X9_33 dX9_hurry_16 ?_
  refine g_iconst (v := 1) dX9_hurry_19 (by decide) ?_
  refine g_dup2 dX9_hurry_20 rfl rfl ?_
  refine s_iald (k := 48) E.1 hL rfl dX9_hurry_21 ?_
  intro v1 hL
  refine g_iconst (v := 1) dX9_hurry_22 (by decide) ?_
  refine g_iadd dX9_hurry_23 ?_
  refine s_iast (k := 48) E.1 hL rfl dX9_hurry_24 ?_
  intro w2 hL
  refine g_iconst (v := (-1)) dX9_hurry_25 (by decide) ?_
  obtain rfl := Option.some.inj hL
  exact g_iret rfl dX9_hurry_26
def L_X9_hurry (o : wO) (a1 : Int32) (a2 : Int32) (w : wS) : Option ((Int32 ⊕ String) × wS) :=
  xBT (L_X9_needPerson o (a1) w) (fun E9 => some (.inr E9, w)) (if a2 < 0 then J_X9_hurry_15 o   w else if a2 ≤ 60 then xB2 (L_X5_hasteOf_x13 o (a1) w) fun v3 w4 => xB (L_X0_keep_x15_x13 o  w4) fun w5 => xB (L_X5_setHaste_x13 o (a1) (a2) w5) fun w6 => some (.inl (v3), w6) else J_X9_hurry_15 o   w)
set_option maxRecDepth 20000 in
theorem C_X9_hurry {G : aG} {Hf : wS → aH} {bx : Nat} {o : wO} {a1 : Int32} {a2 : Int32} {w : wS} {r : (Int32 ⊕ String) × wS} (hG : aGood G) (E : EX Hf bx o) (hL : L_X9_hurry o a1 a2 w = some r) : AC G M_X9_hurry [.ref (bx + 0), .int a1, .int a2] (Hf w) (xRv Hf r) := by
  unfold L_X9_hurry at hL
  refine AC.of (by decide) rfl (Nat.le_of_ble_eq_true rfl) ?_
  show AG G M_X9_hurry 0 [some (.ref (bx + 0)), some (.int (a1)), some (.int (a2)), none] [] _ _
  refine g_aload_n dX9_hurry_0 rfl rfl ?_
  refine g_iload_n dX9_hurry_1 rfl rfl ?_
  rcases xBT_some hL with ⟨hc, hL⟩ | ⟨E9, hc, hL⟩
  · refine g_callV (M' := M_X9_needPerson) (as := [.int (a1)]) (v := none) l_X9_147 kV_X9_needPerson (by decide) (C_X9_needPerson hG E hc) rfl (by have := E.1.1; omega) (E.1.2.1 _ 0 _ rfl) ⟨_, _, rfl⟩ (Nat.le_of_ble_eq_true rfl) dX9_hurry_2 ?_
    refine g_iload_n dX9_hurry_5 rfl rfl ?_
    refine g_if_lt (tgt := 15) dX9_hurry_6 (by decide) (fun q8 => ?_) (fun q8 => ?_)
    · rw [if_pos q8] at hL
      refine g_none 1 ?_
      refine g_none 2 ?_
      exact J_X9_hurry_15_ok hG E hL 
    · rw [if_neg q8] at hL
      refine g_iload_n dX9_hurry_9 rfl rfl ?_
      refine g_bipush (v := 60) dX9_hurry_10 (by decide) ?_
      refine g_icmp_le (tgt := 27) dX9_hurry_12 (by decide) (fun q7 => ?_) (fun q7 => ?_)
      · rw [if_pos q7] at hL
        refine g_aload_n dX9_hurry_27 rfl rfl ?_
        refine s_getR (k := 0) (j := 1) E.1 rfl rfl f_X9_19 dX9_hurry_28 ?_
        refine s_getR (k := 12) (j := 0) E.1 rfl rfl f_X9_108 dX9_hurry_31 ?_
        refine g_iload_n dX9_hurry_34 rfl rfl ?_
        obtain ⟨v3, w4, hc, hL⟩ := xB2_some hL
        refine g_callV (M' := M_X5_hasteOf) (as := [.int (a1)]) (v := some (.int (v3))) l_X9_153 kV_X5_hasteOf (by decide) (C_X5_hasteOf_x13 hG E hc) rfl (by have := E.1.1; omega) (E.1.2.1 _ 13 _ rfl) ⟨_, _, rfl⟩ (Nat.le_of_ble_eq_true rfl) dX9_hurry_35 ?_
        refine g_istore_n (i := 3) dX9_hurry_38 rfl (by decide) rfl ?_
        refine g_aload_n dX9_hurry_39 rfl rfl ?_
        refine s_getR (k := 0) (j := 1) E.1 rfl rfl f_X9_19 dX9_hurry_40 ?_
        refine s_getR (k := 12) (j := 1) E.1 rfl rfl f_X9_126 dX9_hurry_43 ?_
        refine g_aload_n dX9_hurry_46 rfl rfl ?_
        refine s_getR (k := 0) (j := 1) E.1 rfl rfl f_X9_19 dX9_hurry_47 ?_
        refine s_getR (k := 12) (j := 0) E.1 rfl rfl f_X9_108 dX9_hurry_50 ?_
        obtain ⟨w5, hc, hL⟩ := xB_some hL
        refine g_callV (M' := M_X0_keep) (as := [.ref (bx + 13)]) (v := none) l_X9_189 kV_X0_keep (by decide) (C_X0_keep_x15_x13 hG E hc) rfl (by have := E.1.1; omega) (E.1.2.1 _ 15 _ rfl) ⟨_, _, rfl⟩ (Nat.le_of_ble_eq_true rfl) dX9_hurry_53 ?_
        refine g_aload_n dX9_hurry_56 rfl rfl ?_
        refine g_none 0 ?_
        refine s_getR (k := 0) (j := 1) E.1 rfl rfl f_X9_19 dX9_hurry_57 ?_
        refine s_getR (k := 12) (j := 0) E.1 rfl rfl f_X9_108 dX9_hurry_60 ?_
        refine g_iload_n dX9_hurry_63 rfl rfl ?_
        refine g_none 1 ?_
        refine g_iload_n dX9_hurry_64 rfl rfl ?_
        refine g_none 2 ?_
        obtain ⟨w6, hc, hL⟩ := xB_some hL
        refine g_callV (M' := M_X5_setHaste) (as := [.int (a1), .int (a2)]) (v := none) l_X9_204 kV_X5_setHaste (by decide) (C_X5_setHaste_x13 hG E hc) rfl (by have := E.1.1; omega) (E.1.2.1 _ 13 _ rfl) ⟨_, _, rfl⟩ (Nat.le_of_ble_eq_true rfl) dX9_hurry_65 ?_
        refine g_iload_n dX9_hurry_68 rfl rfl ?_
        refine g_none 3 ?_
        obtain rfl := Option.some.inj hL
        exact g_iret rfl dX9_hurry_69
      · rw [if_neg q7] at hL
        refine g_none 1 ?_
        refine g_none 2 ?_
        exact J_X9_hurry_15_ok hG E hL 
  · obtain rfl := Option.some.inj hL
    exact g_callVX (M' := M_X9_needPerson) (as := [.int (a1)]) (E := E9) (aIn1 956 (by decide +kernel) rfl) kV_X9_needPerson (by decide) rfl (C_X9_needPerson hG E hc) rfl (by have := E.1.1; omega) (E.1.2.1 _ 0 _ rfl) ⟨_, _, rfl⟩ (Nat.le_of_ble_eq_true rfl) dX9_hurry_2
def L_X5_turnHealth_x13 (o : wO) (a1 : Int32) (w : wS) : Option (wS) :=
  xB (xAld w 14 33 (32)) fun v1 => xB (xAst w 14 33 (32) ((v1 ^^^ ((1 : Int32) <<< (a1 &&& 31))))) fun w2 => some w2
set_option maxRecDepth 20000 in
theorem C_X5_turnHealth_x13 {G : aG} {Hf : wS → aH} {bx : Nat} {o : wO} {a1 : Int32} {w : wS} {r : wS} (hG : aGood G) (E : EX Hf bx o) (hL : L_X5_turnHealth_x13 o a1 w = some r) : AC G M_X5_turnHealth [.ref (bx + 13), .int a1] (Hf w) (.inl none, Hf r) := by
  unfold L_X5_turnHealth_x13 at hL
  refine AC.of (by decide) rfl (Nat.le_of_ble_eq_true rfl) ?_
  show AG G M_X5_turnHealth 0 [some (.ref (bx + 13)), some (.int (a1))] [] _ _
  refine g_aload_n dX5_turnHealth_0 rfl rfl ?_
  refine g_none 0 ?_
  refine s_getR (k := 13) (j := 0) E.1 rfl rfl f_X5_11 dX5_turnHealth_1 ?_
  refine g_bipush (v := 32) dX5_turnHealth_4 (by decide) ?_
  refine g_dup2 dX5_turnHealth_6 rfl rfl ?_
  refine s_iald (k := 14) E.1 hL rfl dX5_turnHealth_7 ?_
  intro v1 hL
  refine g_iconst (v := 1) dX5_turnHealth_8 (by decide) ?_
  refine g_iload_n dX5_turnHealth_9 rfl rfl ?_
  refine g_none 1 ?_
  refine g_ishl dX5_turnHealth_10 ?_
  refine g_ixor dX5_turnHealth_11 ?_
  refine s_iast (k := 14) E.1 hL rfl dX5_turnHealth_12 ?_
  intro w2 hL
  obtain rfl := Option.some.inj hL
  exact g_vret rfl dX5_turnHealth_13
def L_X9_ill (o : wO) (a1 : Int32) (a2 : Int32) (w : wS) : Option ((Int32 ⊕ String) × wS) :=
  xBT (L_X9_needPerson o (a1) w) (fun E9 => some (.inr E9, w)) (xB2 (L_X5_isIll_x13 o (a1) w) fun v1 w2 => if v1 = a2 then xB (xAld w2 48 3 (1)) fun v5 => xB (xAst w2 48 3 (1) ((v5 + (1 : Int32)))) fun w6 => some (.inl (0), w6) else xB (L_X0_keep_x15_x13 o  w2) fun w3 => xB (L_X5_turnHealth_x13 o (a1) w3) fun w4 => some (.inl (1), w4))
set_option maxRecDepth 20000 in
theorem C_X9_ill {G : aG} {Hf : wS → aH} {bx : Nat} {o : wO} {a1 : Int32} {a2 : Int32} {w : wS} {r : (Int32 ⊕ String) × wS} (hG : aGood G) (E : EX Hf bx o) (hL : L_X9_ill o a1 a2 w = some r) : AC G M_X9_ill [.ref (bx + 0), .int a1, .int a2] (Hf w) (xRv Hf r) := by
  unfold L_X9_ill at hL
  refine AC.of (by decide) rfl (Nat.le_of_ble_eq_true rfl) ?_
  show AG G M_X9_ill 0 [some (.ref (bx + 0)), some (.int (a1)), some (.int (a2))] [] _ _
  refine g_aload_n dX9_ill_0 rfl rfl ?_
  refine g_iload_n dX9_ill_1 rfl rfl ?_
  rcases xBT_some hL with ⟨hc, hL⟩ | ⟨E9, hc, hL⟩
  · refine g_callV (M' := M_X9_needPerson) (as := [.int (a1)]) (v := none) l_X9_147 kV_X9_needPerson (by decide) (C_X9_needPerson hG E hc) rfl (by have := E.1.1; omega) (E.1.2.1 _ 0 _ rfl) ⟨_, _, rfl⟩ (Nat.le_of_ble_eq_true rfl) dX9_ill_2 ?_
    refine g_aload_n dX9_ill_5 rfl rfl ?_
    refine s_getR (k := 0) (j := 1) E.1 rfl rfl f_X9_19 dX9_ill_6 ?_
    refine s_getR (k := 12) (j := 0) E.1 rfl rfl f_X9_108 dX9_ill_9 ?_
    refine g_iload_n dX9_ill_12 rfl rfl ?_
    obtain ⟨v1, w2, hc, hL⟩ := xB2_some hL
    refine g_callV (M' := M_X5_isIll) (as := [.int (a1)]) (v := some (.int (v1))) l_X9_169 kV_X5_isIll (by decide) (C_X5_isIll_x13 hG E hc) rfl (by have := E.1.1; omega) (E.1.2.1 _ 13 _ rfl) ⟨_, _, rfl⟩ (Nat.le_of_ble_eq_true rfl) dX9_ill_13 ?_
    refine g_iload_n dX9_ill_16 rfl rfl ?_
    refine g_none 2 ?_
    refine g_icmp_ne (tgt := 32) dX9_ill_17 (by decide) (fun q7 => ?_) (fun q7 => ?_)
    · rw [if_neg q7] at hL
      refine g_aload_n dX9_ill_32 rfl rfl ?_
      refine s_getR (k := 0) (j := 1) E.1 rfl rfl f_X9_19 dX9_ill_33 ?_
      refine s_getR (k := 12) (j := 1) E.1 rfl rfl f_X9_126 dX9_ill_36 ?_
      refine g_aload_n dX9_ill_39 rfl rfl ?_
      refine s_getR (k := 0) (j := 1) E.1 rfl rfl f_X9_19 dX9_ill_40 ?_
      refine s_getR (k := 12) (j := 0) E.1 rfl rfl f_X9_108 dX9_ill_43 ?_
      obtain ⟨w3, hc, hL⟩ := xB_some hL
      refine g_callV (M' := M_X0_keep) (as := [.ref (bx + 13)]) (v := none) l_X9_189 kV_X0_keep (by decide) (C_X0_keep_x15_x13 hG E hc) rfl (by have := E.1.1; omega) (E.1.2.1 _ 15 _ rfl) ⟨_, _, rfl⟩ (Nat.le_of_ble_eq_true rfl) dX9_ill_46 ?_
      refine g_aload_n dX9_ill_49 rfl rfl ?_
      refine g_none 0 ?_
      refine s_getR (k := 0) (j := 1) E.1 rfl rfl f_X9_19 dX9_ill_50 ?_
      refine s_getR (k := 12) (j := 0) E.1 rfl rfl f_X9_108 dX9_ill_53 ?_
      refine g_iload_n dX9_ill_56 rfl rfl ?_
      refine g_none 1 ?_
      obtain ⟨w4, hc, hL⟩ := xB_some hL
      refine g_callV (M' := M_X5_turnHealth) (as := [.int (a1)]) (v := none) l_X9_208 kV_X5_turnHealth (by decide) (C_X5_turnHealth_x13 hG E hc) rfl (by have := E.1.1; omega) (E.1.2.1 _ 13 _ rfl) ⟨_, _, rfl⟩ (Nat.le_of_ble_eq_true rfl) dX9_ill_57 ?_
      refine g_iconst (v := 1) dX9_ill_60 (by decide) ?_
      obtain rfl := Option.some.inj hL
      exact g_zret rfl (by decide) dX9_ill_61
    · rw [if_pos q7] at hL
      refine g_none 1 ?_
      refine g_aload_n dX9_ill_20 rfl rfl ?_
      refine g_none 0 ?_
      refine s_getR (k := 0) (j := 4) E.1 rfl rfl f_X9_33 dX9_ill_21 ?_
      refine g_iconst (v := 1) dX9_ill_24 (by decide) ?_
      refine g_dup2 dX9_ill_25 rfl rfl ?_
      refine s_iald (k := 48) E.1 hL rfl dX9_ill_26 ?_
      intro v5 hL
      refine g_iconst (v := 1) dX9_ill_27 (by decide) ?_
      refine g_iadd dX9_ill_28 ?_
      refine s_iast (k := 48) E.1 hL rfl dX9_ill_29 ?_
      intro w6 hL
      refine g_iconst (v := 0) dX9_ill_30 (by decide) ?_
      obtain rfl := Option.some.inj hL
      exact g_zret rfl (by decide) dX9_ill_31
  · obtain rfl := Option.some.inj hL
    exact g_callVX (M' := M_X9_needPerson) (as := [.int (a1)]) (E := E9) (aIn1 956 (by decide +kernel) rfl) kV_X9_needPerson (by decide) rfl (C_X9_needPerson hG E hc) rfl (by have := E.1.1; omega) (E.1.2.1 _ 0 _ rfl) ⟨_, _, rfl⟩ (Nat.le_of_ble_eq_true rfl) dX9_ill_2
def L_X5_setRinger_x13 (o : wO) (a1 : Int32) (w : wS) : Option (wS) :=
  xB (xAst w 14 33 (0) (a1)) fun w1 => some w1
set_option maxRecDepth 20000 in
theorem C_X5_setRinger_x13 {G : aG} {Hf : wS → aH} {bx : Nat} {o : wO} {a1 : Int32} {w : wS} {r : wS} (hG : aGood G) (E : EX Hf bx o) (hL : L_X5_setRinger_x13 o a1 w = some r) : AC G M_X5_setRinger [.ref (bx + 13), .int a1] (Hf w) (.inl none, Hf r) := by
  unfold L_X5_setRinger_x13 at hL
  refine AC.of (by decide) rfl (Nat.le_of_ble_eq_true rfl) ?_
  show AG G M_X5_setRinger 0 [some (.ref (bx + 13)), some (.int (a1))] [] _ _
  refine g_aload_n dX5_setRinger_0 rfl rfl ?_
  refine g_none 0 ?_
  refine s_getR (k := 13) (j := 0) E.1 rfl rfl f_X5_11 dX5_setRinger_1 ?_
  refine g_iconst (v := 0) dX5_setRinger_4 (by decide) ?_
  refine g_iload_n dX5_setRinger_5 rfl rfl ?_
  refine g_none 1 ?_
  refine s_iast (k := 14) E.1 hL rfl dX5_setRinger_6 ?_
  intro w1 hL
  obtain rfl := Option.some.inj hL
  exact g_vret rfl dX5_setRinger_7
def J_X9_appoint_48 (o : wO) (w : wS) : Option ((Int32 ⊕ String) × wS) :=
  xB (xAld w 48 3 (1)) fun v1 => xB (xAst w 48 3 (1) ((v1 + (1 : Int32)))) fun w2 => some (.inl ((-2)), w2)
set_option maxRecDepth 20000 in
theorem J_X9_appoint_48_ok {G : aG} {Hf : wS → aH} {bx : Nat} {o : wO} {w : wS} {r : (Int32 ⊕ String) × wS} (hG : aGood G) (E : EX Hf bx o) (hL : J_X9_appoint_48 o   w = some r) : AG G M_X9_appoint 48 [some (.ref (bx + 0)), none, none] [] (Hf w) (xRv Hf r) := by
  unfold J_X9_appoint_48 at hL
  refine g_aload_n dX9_appoint_48 rfl rfl ?_
  refine g_none 0 ?_
  refine s_getR (k := 0) (j := 4) E.1 rfl rfl f_X9_33 dX9_appoint_49 ?_
  refine g_iconst (v := 1) dX9_appoint_52 (by decide) ?_
  refine g_dup2 dX9_appoint_53 rfl rfl ?_
  refine s_iald (k := 48) E.1 hL rfl dX9_appoint_54 ?_
  intro v1 hL
  refine g_iconst (v := 1) dX9_appoint_55 (by decide) ?_
  refine g_iadd dX9_appoint_56 ?_
  refine s_iast (k := 48) E.1 hL rfl dX9_appoint_57 ?_
  intro w2 hL
  refine g_bipush (v := (-2)) dX9_appoint_58 (by decide) ?_
  obtain rfl := Option.some.inj hL
  exact g_iret rfl dX9_appoint_60
def L_X9_appoint (o : wO) (a1 : Int32) (w : wS) : Option ((Int32 ⊕ String) × wS) :=
  xBT (L_X9_needPerson o (a1) w) (fun E9 => some (.inr E9, w)) (xB2 (L_X5_ringer_x13 o  w) fun v3 w4 => if v3 = a1 then J_X9_appoint_48 o   w4 else xIf (xRef w4 9 (oT o + 0)) (xB (xAld w4 1001 8 (a1)) fun v5 => if v5 = 2 then J_X9_appoint_48 o   w4 else xB2 (L_X5_isIll_x13 o (a1) w4) fun v6 w7 => if v6 = 0 then xB (L_X0_keep_x15_x13 o  w7) fun w8 => xB (L_X5_setRinger_x13 o (a1) w8) fun w9 => some (.inl (v3), w9) else J_X9_appoint_48 o   w7))
set_option maxRecDepth 20000 in
theorem C_X9_appoint {G : aG} {Hf : wS → aH} {bx : Nat} {o : wO} {a1 : Int32} {w : wS} {r : (Int32 ⊕ String) × wS} (hG : aGood G) (E : EX Hf bx o) (hL : L_X9_appoint o a1 w = some r) : AC G M_X9_appoint [.ref (bx + 0), .int a1] (Hf w) (xRv Hf r) := by
  unfold L_X9_appoint at hL
  refine AC.of (by decide) rfl (Nat.le_of_ble_eq_true rfl) ?_
  show AG G M_X9_appoint 0 [some (.ref (bx + 0)), some (.int (a1)), none] [] _ _
  refine g_aload_n dX9_appoint_0 rfl rfl ?_
  refine g_iload_n dX9_appoint_1 rfl rfl ?_
  rcases xBT_some hL with ⟨hc, hL⟩ | ⟨E9, hc, hL⟩
  · refine g_callV (M' := M_X9_needPerson) (as := [.int (a1)]) (v := none) l_X9_147 kV_X9_needPerson (by decide) (C_X9_needPerson hG E hc) rfl (by have := E.1.1; omega) (E.1.2.1 _ 0 _ rfl) ⟨_, _, rfl⟩ (Nat.le_of_ble_eq_true rfl) dX9_appoint_2 ?_
    refine g_aload_n dX9_appoint_5 rfl rfl ?_
    refine s_getR (k := 0) (j := 1) E.1 rfl rfl f_X9_19 dX9_appoint_6 ?_
    refine s_getR (k := 12) (j := 0) E.1 rfl rfl f_X9_108 dX9_appoint_9 ?_
    obtain ⟨v3, w4, hc, hL⟩ := xB2_some hL
    refine g_callV (M' := M_X5_ringer) (as := []) (v := some (.int (v3))) l_X9_116 kV_X5_ringer (by decide) (C_X5_ringer_x13 hG E hc) rfl (by have := E.1.1; omega) (E.1.2.1 _ 13 _ rfl) ⟨_, _, rfl⟩ (Nat.le_of_ble_eq_true rfl) dX9_appoint_12 ?_
    refine g_istore_n (i := 2) dX9_appoint_15 rfl (by decide) rfl ?_
    refine g_iload_n dX9_appoint_16 rfl rfl ?_
    refine g_iload_n dX9_appoint_17 rfl rfl ?_
    refine g_icmp_eq (tgt := 48) dX9_appoint_18 (by decide) (fun q12 => ?_) (fun q12 => ?_)
    · rw [if_pos q12] at hL
      refine g_none 1 ?_
      refine g_none 2 ?_
      exact J_X9_appoint_48_ok hG E hL 
    · rw [if_neg q12] at hL
      refine g_aload_n dX9_appoint_21 rfl rfl ?_
      refine s_getT (k := 0) (j := 9) E.1 hL rfl rfl f_X9_55 dX9_appoint_22 ?_
      intro hL
      refine s_getR (k := 0) (j := 0) E.2.1 rfl rfl f_X9_166 dX9_appoint_25 ?_
      refine g_iload_n dX9_appoint_28 rfl rfl ?_
      refine s_iald (k := 1) E.2.1 hL rfl dX9_appoint_29 ?_
      intro v5 hL
      refine g_iconst (v := 2) dX9_appoint_30 (by decide) ?_
      refine g_icmp_eq (tgt := 48) dX9_appoint_31 (by decide) (fun q11 => ?_) (fun q11 => ?_)
      · rw [if_pos q11] at hL
        refine g_none 1 ?_
        refine g_none 2 ?_
        exact J_X9_appoint_48_ok hG E hL 
      · rw [if_neg q11] at hL
        refine g_aload_n dX9_appoint_34 rfl rfl ?_
        refine s_getR (k := 0) (j := 1) E.1 rfl rfl f_X9_19 dX9_appoint_35 ?_
        refine s_getR (k := 12) (j := 0) E.1 rfl rfl f_X9_108 dX9_appoint_38 ?_
        refine g_iload_n dX9_appoint_41 rfl rfl ?_
        obtain ⟨v6, w7, hc, hL⟩ := xB2_some hL
        refine g_callV (M' := M_X5_isIll) (as := [.int (a1)]) (v := some (.int (v6))) l_X9_169 kV_X5_isIll (by decide) (C_X5_isIll_x13 hG E hc) rfl (by have := E.1.1; omega) (E.1.2.1 _ 13 _ rfl) ⟨_, _, rfl⟩ (Nat.le_of_ble_eq_true rfl) dX9_appoint_42 ?_
        refine g_if_eq (tgt := 61) dX9_appoint_45 (by decide) (fun q10 => ?_) (fun q10 => ?_)
        · rw [if_pos q10] at hL
          refine g_aload_n dX9_appoint_61 rfl rfl ?_
          refine s_getR (k := 0) (j := 1) E.1 rfl rfl f_X9_19 dX9_appoint_62 ?_
          refine s_getR (k := 12) (j := 1) E.1 rfl rfl f_X9_126 dX9_appoint_65 ?_
          refine g_aload_n dX9_appoint_68 rfl rfl ?_
          refine s_getR (k := 0) (j := 1) E.1 rfl rfl f_X9_19 dX9_appoint_69 ?_
          refine s_getR (k := 12) (j := 0) E.1 rfl rfl f_X9_108 dX9_appoint_72 ?_
          obtain ⟨w8, hc, hL⟩ := xB_some hL
          refine g_callV (M' := M_X0_keep) (as := [.ref (bx + 13)]) (v := none) l_X9_189 kV_X0_keep (by decide) (C_X0_keep_x15_x13 hG E hc) rfl (by have := E.1.1; omega) (E.1.2.1 _ 15 _ rfl) ⟨_, _, rfl⟩ (Nat.le_of_ble_eq_true rfl) dX9_appoint_75 ?_
          refine g_aload_n dX9_appoint_78 rfl rfl ?_
          refine g_none 0 ?_
          refine s_getR (k := 0) (j := 1) E.1 rfl rfl f_X9_19 dX9_appoint_79 ?_
          refine s_getR (k := 12) (j := 0) E.1 rfl rfl f_X9_108 dX9_appoint_82 ?_
          refine g_iload_n dX9_appoint_85 rfl rfl ?_
          refine g_none 1 ?_
          obtain ⟨w9, hc, hL⟩ := xB_some hL
          refine g_callV (M' := M_X5_setRinger) (as := [.int (a1)]) (v := none) l_X9_211 kV_X5_setRinger (by decide) (C_X5_setRinger_x13 hG E hc) rfl (by have := E.1.1; omega) (E.1.2.1 _ 13 _ rfl) ⟨_, _, rfl⟩ (Nat.le_of_ble_eq_true rfl) dX9_appoint_86 ?_
          refine g_iload_n dX9_appoint_89 rfl rfl ?_
          refine g_none 2 ?_
          obtain rfl := Option.some.inj hL
          exact g_iret rfl dX9_appoint_90
        · rw [if_neg q10] at hL
          refine g_none 1 ?_
          refine g_none 2 ?_
          exact J_X9_appoint_48_ok hG E hL 
  · obtain rfl := Option.some.inj hL
    exact g_callVX (M' := M_X9_needPerson) (as := [.int (a1)]) (E := E9) (aIn1 956 (by decide +kernel) rfl) kV_X9_needPerson (by decide) rfl (C_X9_needPerson hG E hc) rfl (by have := E.1.1; omega) (E.1.2.1 _ 0 _ rfl) ⟨_, _, rfl⟩ (Nat.le_of_ble_eq_true rfl) dX9_appoint_2
def L_X5_setDue_x13 (o : wO) (a1 : Int32) (a2 : Int32) (w : wS) : Option (wS) :=
  xB (xAst w 14 33 (((25 : Int32) + a1)) (a2)) fun w1 => some w1
set_option maxRecDepth 20000 in
theorem C_X5_setDue_x13 {G : aG} {Hf : wS → aH} {bx : Nat} {o : wO} {a1 : Int32} {a2 : Int32} {w : wS} {r : wS} (hG : aGood G) (E : EX Hf bx o) (hL : L_X5_setDue_x13 o a1 a2 w = some r) : AC G M_X5_setDue [.ref (bx + 13), .int a1, .int a2] (Hf w) (.inl none, Hf r) := by
  unfold L_X5_setDue_x13 at hL
  refine AC.of (by decide) rfl (Nat.le_of_ble_eq_true rfl) ?_
  show AG G M_X5_setDue 0 [some (.ref (bx + 13)), some (.int (a1)), some (.int (a2))] [] _ _
  refine g_aload_n dX5_setDue_0 rfl rfl ?_
  refine g_none 0 ?_
  refine s_getR (k := 13) (j := 0) E.1 rfl rfl f_X5_11 dX5_setDue_1 ?_
  refine g_bipush (v := 25) dX5_setDue_4 (by decide) ?_
  refine g_iload_n dX5_setDue_6 rfl rfl ?_
  refine g_none 1 ?_
  refine g_iadd dX5_setDue_7 ?_
  refine g_iload_n dX5_setDue_8 rfl rfl ?_
  refine g_none 2 ?_
  refine s_iast (k := 14) E.1 hL rfl dX5_setDue_9 ?_
  intro w1 hL
  obtain rfl := Option.some.inj hL
  exact g_vret rfl dX5_setDue_10
def J_X9_due_16 (o : wO) (w : wS) : Option ((Int32 ⊕ String) × wS) :=
  xB (xAld w 48 3 (1)) fun v1 => xB (xAst w 48 3 (1) ((v1 + (1 : Int32)))) fun w2 => some (.inl ((-1)), w2)
set_option maxRecDepth 20000 in
theorem J_X9_due_16_ok {G : aG} {Hf : wS → aH} {bx : Nat} {o : wO} {w : wS} {r : (Int32 ⊕ String) × wS} (hG : aGood G) (E : EX Hf bx o) (hL : J_X9_due_16 o   w = some r) : AG G M_X9_due 16 [some (.ref (bx + 0)), none, none, none] [] (Hf w) (xRv Hf r) := by
  unfold J_X9_due_16 at hL
  refine g_aload_n dX9_due_16 rfl rfl ?_
  refine g_none 0 ?_
  refine s_getR (k := 0) (j := 4) E.1 rfl rfl f_X9_33 dX9_due_17 ?_
  refine g_iconst (v := 1) dX9_due_20 (by decide) ?_
  refine g_dup2 dX9_due_21 rfl rfl ?_
  refine s_iald (k := 48) E.1 hL rfl dX9_due_22 ?_
  intro v1 hL
  refine g_iconst (v := 1) dX9_due_23 (by decide) ?_
  refine g_iadd dX9_due_24 ?_
  refine s_iast (k := 48) E.1 hL rfl dX9_due_25 ?_
  intro w2 hL
  refine g_iconst (v := (-1)) dX9_due_26 (by decide) ?_
  obtain rfl := Option.some.inj hL
  exact g_iret rfl dX9_due_27
def L_X9_due (o : wO) (a1 : Int32) (a2 : Int32) (w : wS) : Option ((Int32 ⊕ String) × wS) :=
  xBT (L_X9_needDuty o (a1) w) (fun E9 => some (.inr E9, w)) (if a2 < 0 then J_X9_due_16 o   w else if a2 ≤ 999 then xB2 (L_X5_dueOf_x13 o (a1) w) fun v3 w4 => xB (L_X0_keep_x15_x13 o  w4) fun w5 => xB (L_X5_setDue_x13 o (a1) (a2) w5) fun w6 => some (.inl (v3), w6) else J_X9_due_16 o   w)
set_option maxRecDepth 20000 in
theorem C_X9_due {G : aG} {Hf : wS → aH} {bx : Nat} {o : wO} {a1 : Int32} {a2 : Int32} {w : wS} {r : (Int32 ⊕ String) × wS} (hG : aGood G) (E : EX Hf bx o) (hL : L_X9_due o a1 a2 w = some r) : AC G M_X9_due [.ref (bx + 0), .int a1, .int a2] (Hf w) (xRv Hf r) := by
  unfold L_X9_due at hL
  refine AC.of (by decide) rfl (Nat.le_of_ble_eq_true rfl) ?_
  show AG G M_X9_due 0 [some (.ref (bx + 0)), some (.int (a1)), some (.int (a2)), none] [] _ _
  refine g_aload_n dX9_due_0 rfl rfl ?_
  refine g_iload_n dX9_due_1 rfl rfl ?_
  rcases xBT_some hL with ⟨hc, hL⟩ | ⟨E9, hc, hL⟩
  · refine g_callV (M' := M_X9_needDuty) (as := [.int (a1)]) (v := none) l_X9_175 kV_X9_needDuty (by decide) (C_X9_needDuty hG E hc) rfl (by have := E.1.1; omega) (E.1.2.1 _ 0 _ rfl) ⟨_, _, rfl⟩ (Nat.le_of_ble_eq_true rfl) dX9_due_2 ?_
    refine g_iload_n dX9_due_5 rfl rfl ?_
    refine g_if_lt (tgt := 16) dX9_due_6 (by decide) (fun q8 => ?_) (fun q8 => ?_)
    · rw [if_pos q8] at hL
      refine g_none 1 ?_
      refine g_none 2 ?_
      exact J_X9_due_16_ok hG E hL 
    · rw [if_neg q8] at hL
      refine g_iload_n dX9_due_9 rfl rfl ?_
      refine g_sipush (v := 999) dX9_due_10 (by decide) ?_
      refine g_icmp_le (tgt := 28) dX9_due_13 (by decide) (fun q7 => ?_) (fun q7 => ?_)
      · rw [if_pos q7] at hL
        refine g_aload_n dX9_due_28 rfl rfl ?_
        refine s_getR (k := 0) (j := 1) E.1 rfl rfl f_X9_19 dX9_due_29 ?_
        refine s_getR (k := 12) (j := 0) E.1 rfl rfl f_X9_108 dX9_due_32 ?_
        refine g_iload_n dX9_due_35 rfl rfl ?_
        obtain ⟨v3, w4, hc, hL⟩ := xB2_some hL
        refine g_callV (M' := M_X5_dueOf) (as := [.int (a1)]) (v := some (.int (v3))) l_X9_178 kV_X5_dueOf (by decide) (C_X5_dueOf_x13 hG E hc) rfl (by have := E.1.1; omega) (E.1.2.1 _ 13 _ rfl) ⟨_, _, rfl⟩ (Nat.le_of_ble_eq_true rfl) dX9_due_36 ?_
        refine g_istore_n (i := 3) dX9_due_39 rfl (by decide) rfl ?_
        refine g_aload_n dX9_due_40 rfl rfl ?_
        refine s_getR (k := 0) (j := 1) E.1 rfl rfl f_X9_19 dX9_due_41 ?_
        refine s_getR (k := 12) (j := 1) E.1 rfl rfl f_X9_126 dX9_due_44 ?_
        refine g_aload_n dX9_due_47 rfl rfl ?_
        refine s_getR (k := 0) (j := 1) E.1 rfl rfl f_X9_19 dX9_due_48 ?_
        refine s_getR (k := 12) (j := 0) E.1 rfl rfl f_X9_108 dX9_due_51 ?_
        obtain ⟨w5, hc, hL⟩ := xB_some hL
        refine g_callV (M' := M_X0_keep) (as := [.ref (bx + 13)]) (v := none) l_X9_189 kV_X0_keep (by decide) (C_X0_keep_x15_x13 hG E hc) rfl (by have := E.1.1; omega) (E.1.2.1 _ 15 _ rfl) ⟨_, _, rfl⟩ (Nat.le_of_ble_eq_true rfl) dX9_due_54 ?_
        refine g_aload_n dX9_due_57 rfl rfl ?_
        refine g_none 0 ?_
        refine s_getR (k := 0) (j := 1) E.1 rfl rfl f_X9_19 dX9_due_58 ?_
        refine s_getR (k := 12) (j := 0) E.1 rfl rfl f_X9_108 dX9_due_61 ?_
        refine g_iload_n dX9_due_64 rfl rfl ?_
        refine g_none 1 ?_
        refine g_iload_n dX9_due_65 rfl rfl ?_
        refine g_none 2 ?_
        obtain ⟨w6, hc, hL⟩ := xB_some hL
        refine g_callV (M' := M_X5_setDue) (as := [.int (a1), .int (a2)]) (v := none) l_X9_214 kV_X5_setDue (by decide) (C_X5_setDue_x13 hG E hc) rfl (by have := E.1.1; omega) (E.1.2.1 _ 13 _ rfl) ⟨_, _, rfl⟩ (Nat.le_of_ble_eq_true rfl) dX9_due_66 ?_
        refine g_iload_n dX9_due_69 rfl rfl ?_
        refine g_none 3 ?_
        obtain rfl := Option.some.inj hL
        exact g_iret rfl dX9_due_70
      · rw [if_neg q7] at hL
        refine g_none 1 ?_
        refine g_none 2 ?_
        exact J_X9_due_16_ok hG E hL 
  · obtain rfl := Option.some.inj hL
    exact g_callVX (M' := M_X9_needDuty) (as := [.int (a1)]) (E := E9) (aIn1 972 (by decide +kernel) rfl) kV_X9_needDuty (by decide) rfl (C_X9_needDuty hG E hc) rfl (by have := E.1.1; omega) (E.1.2.1 _ 0 _ rfl) ⟨_, _, rfl⟩ (Nat.le_of_ble_eq_true rfl) dX9_due_2
def L_X5_copyBack_x13_x16 (o : wO) (a2 : Int32) (w : wS) : Option (wS) :=
  xB (xCpy w 16 14 1320 33 ((a2 * (33 : Int32))) (0) (33)) fun w1 => some w1
set_option maxRecDepth 20000 in
theorem C_X5_copyBack_x13_x16 {G : aG} {Hf : wS → aH} {bx : Nat} {o : wO} {a2 : Int32} {w : wS} {r : wS} (hG : aGood G) (E : EX Hf bx o) (hL : L_X5_copyBack_x13_x16 o a2 w = some r) : AC G M_X5_copyBack [.ref (bx + 13), .ref (bx + 16), .int a2] (Hf w) (.inl none, Hf r) := by
  unfold L_X5_copyBack_x13_x16 at hL
  refine AC.of (by decide) rfl (Nat.le_of_ble_eq_true rfl) ?_
  show AG G M_X5_copyBack 0 [some (.ref (bx + 13)), some (.ref (bx + 16)), some (.int (a2))] [] _ _
  refine g_aload_n dX5_copyBack_0 rfl rfl ?_
  refine g_none 1 ?_
  refine g_iload_n dX5_copyBack_1 rfl rfl ?_
  refine g_none 2 ?_
  refine g_bipush (v := 33) dX5_copyBack_2 (by decide) ?_
  refine g_imul dX5_copyBack_4 ?_
  refine g_aload_n dX5_copyBack_5 rfl rfl ?_
  refine g_none 0 ?_
  refine s_getR (k := 13) (j := 0) E.1 rfl rfl f_X5_11 dX5_copyBack_6 ?_
  refine g_iconst (v := 0) dX5_copyBack_9 (by decide) ?_
  refine g_bipush (v := 33) dX5_copyBack_10 (by decide) ?_
  refine s_copy (k0 := 16) (k1 := 14) E.1 E.1 hL rfl rfl (aIn1 450 (by decide +kernel) rfl) ac_nat ac_sta ac_ini (by decide) (Nat.le_of_ble_eq_true rfl) dX5_copyBack_12 ?_
  intro w1 hL
  obtain rfl := Option.some.inj hL
  exact g_vret rfl dX5_copyBack_15
def L_X0_takeBack_x15_x13 (o : wO) (w : wS) : Option (Int32 × wS) :=
  xB (xGet w 1502) fun v1 => if v1 = 0 then some (0, w) else xB (xGet w 1502) fun v2 => xB (xPut w 1502 ((v2 - (1 : Int32)))) fun w3 => xB (xGet w3 1501) fun v4 => xB (xGet w3 1502) fun v5 => xB (xRem ((v4 + v5)) (40)) fun v6 => xB (L_X5_copyBack_x13_x16 o (v6) w3) fun w7 => some (1, w7)
set_option maxRecDepth 20000 in
theorem C_X0_takeBack_x15_x13 {G : aG} {Hf : wS → aH} {bx : Nat} {o : wO} {w : wS} {r : Int32 × wS} (hG : aGood G) (E : EX Hf bx o) (hL : L_X0_takeBack_x15_x13 o  w = some r) : AC G M_X0_takeBack [.ref (bx + 15), .ref (bx + 13)] (Hf w) (.inl (some (.int r.1)), Hf r.2) := by
  unfold L_X0_takeBack_x15_x13 at hL
  refine AC.of (by decide) rfl (Nat.le_of_ble_eq_true rfl) ?_
  show AG G M_X0_takeBack 0 [some (.ref (bx + 15)), some (.ref (bx + 13))] [] _ _
  refine g_aload_n dX0_takeBack_0 rfl rfl ?_
  refine s_getI (k := 15) (j := 2) E.1 hL rfl rfl f_X0_21 dX0_takeBack_1 ?_
  intro v1 hL
  refine g_if_ne (tgt := 9) dX0_takeBack_4 (by decide) (fun q8 => ?_) (fun q8 => ?_)
  · rw [if_neg q8] at hL
    refine g_aload_n dX0_takeBack_9 rfl rfl ?_
    refine g_dup dX0_takeBack_10 rfl ?_
    refine s_getI (k := 15) (j := 2) E.1 hL rfl rfl f_X0_21 dX0_takeBack_11 ?_
    intro v2 hL
    refine g_iconst (v := 1) dX0_takeBack_14 (by decide) ?_
    refine g_isub dX0_takeBack_15 ?_
    refine s_putI (k := 15) (j := 2) E.1 hL rfl rfl (by decide) fw_X0_21 rfl rfl dX0_takeBack_16 ?_
    intro w3 hL
    refine g_aload_n dX0_takeBack_19 rfl rfl ?_
    refine g_none 1 ?_
    refine g_aload_n dX0_takeBack_20 rfl rfl ?_
    refine s_getR (k := 15) (j := 0) E.1 rfl rfl f_X0_11 dX0_takeBack_21 ?_
    refine g_aload_n dX0_takeBack_24 rfl rfl ?_
    refine s_getI (k := 15) (j := 1) E.1 hL rfl rfl f_X0_17 dX0_takeBack_25 ?_
    intro v4 hL
    refine g_aload_n dX0_takeBack_28 rfl rfl ?_
    refine g_none 0 ?_
    refine s_getI (k := 15) (j := 2) E.1 hL rfl rfl f_X0_21 dX0_takeBack_29 ?_
    intro v5 hL
    refine g_iadd dX0_takeBack_32 ?_
    refine g_bipush (v := 40) dX0_takeBack_33 (by decide) ?_
    refine s_irem hL dX0_takeBack_35 ?_
    intro v6 hL
    obtain ⟨w7, hc, hL⟩ := xB_some hL
    refine g_callV (M' := M_X5_copyBack) (as := [.ref (bx + 16), .int (v6)]) (v := none) l_X0_28 kV_X5_copyBack (by decide) (C_X5_copyBack_x13_x16 hG E hc) rfl (by have := E.1.1; omega) (E.1.2.1 _ 13 _ rfl) ⟨_, _, rfl⟩ (Nat.le_of_ble_eq_true rfl) dX0_takeBack_36 ?_
    refine g_iconst (v := 1) dX0_takeBack_39 (by decide) ?_
    obtain rfl := Option.some.inj hL
    exact g_zret rfl (by decide) dX0_takeBack_40
  · rw [if_pos q8] at hL
    refine g_none 0 ?_
    refine g_none 1 ?_
    refine g_iconst (v := 0) dX0_takeBack_7 (by decide) ?_
    obtain rfl := Option.some.inj hL
    exact g_zret rfl (by decide) dX0_takeBack_8
def J_X9_undo_34 (o : wO) (y0 : Int32) (w : wS) : Option (Int32 × wS) :=
  some (y0, w)
set_option maxRecDepth 20000 in
theorem J_X9_undo_34_ok {G : aG} {Hf : wS → aH} {bx : Nat} {o : wO} {y0 : Int32} {w : wS} {r : Int32 × wS} (hG : aGood G) (E : EX Hf bx o) (hL : J_X9_undo_34 o  y0 w = some r) : AG G M_X9_undo 34 [none] [.int (y0)] (Hf w) (.inl (some (.int r.1)), Hf r.2) := by
  unfold J_X9_undo_34 at hL
  obtain rfl := Option.some.inj hL
  exact g_iret rfl dX9_undo_34
def L_X9_undo (o : wO) (w : wS) : Option (Int32 × wS) :=
  xB2 (L_X0_takeBack_x15_x13 o  w) fun v1 w2 => if v1 = 0 then J_X9_undo_34 o  ((-1)) w2 else xB (xGet w2 1502) fun v3 => J_X9_undo_34 o  (v3) w2
set_option maxRecDepth 20000 in
theorem C_X9_undo {G : aG} {Hf : wS → aH} {bx : Nat} {o : wO} {w : wS} {r : Int32 × wS} (hG : aGood G) (E : EX Hf bx o) (hL : L_X9_undo o  w = some r) : AC G M_X9_undo [.ref (bx + 0)] (Hf w) (.inl (some (.int r.1)), Hf r.2) := by
  unfold L_X9_undo at hL
  refine AC.of (by decide) rfl (Nat.le_of_ble_eq_true rfl) ?_
  show AG G M_X9_undo 0 [some (.ref (bx + 0))] [] _ _
  refine g_aload_n dX9_undo_0 rfl rfl ?_
  refine s_getR (k := 0) (j := 1) E.1 rfl rfl f_X9_19 dX9_undo_1 ?_
  refine s_getR (k := 12) (j := 1) E.1 rfl rfl f_X9_126 dX9_undo_4 ?_
  refine g_aload_n dX9_undo_7 rfl rfl ?_
  refine s_getR (k := 0) (j := 1) E.1 rfl rfl f_X9_19 dX9_undo_8 ?_
  refine s_getR (k := 12) (j := 0) E.1 rfl rfl f_X9_108 dX9_undo_11 ?_
  obtain ⟨v1, w2, hc, hL⟩ := xB2_some hL
  refine g_callV (M' := M_X0_takeBack) (as := [.ref (bx + 13)]) (v := some (.int (v1))) l_X9_217 kV_X0_takeBack (by decide) (C_X0_takeBack_x15_x13 hG E hc) rfl (by have := E.1.1; omega) (E.1.2.1 _ 15 _ rfl) ⟨_, _, rfl⟩ (Nat.le_of_ble_eq_true rfl) dX9_undo_14 ?_
  refine g_if_eq (tgt := 33) dX9_undo_17 (by decide) (fun q4 => ?_) (fun q4 => ?_)
  · rw [if_pos q4] at hL
    refine g_none 0 ?_
    refine g_iconst (v := (-1)) dX9_undo_33 (by decide) ?_
    exact J_X9_undo_34_ok hG E hL 
  · rw [if_neg q4] at hL
    refine g_aload_n dX9_undo_20 rfl rfl ?_
    refine g_none 0 ?_
    refine s_getR (k := 0) (j := 1) E.1 rfl rfl f_X9_19 dX9_undo_21 ?_
    refine s_getR (k := 12) (j := 1) E.1 rfl rfl f_X9_126 dX9_undo_24 ?_
    refine s_getI (k := 15) (j := 2) E.1 hL rfl rfl f_X9_130 dX9_undo_27 ?_
    intro v3 hL
    refine g_goto (tgt := 34) dX9_undo_30 (by decide) ?_
    exact J_X9_undo_34_ok hG E hL 
def J_X9_needWhat_9 : Option (Option String) :=
  some (some cNo)
set_option maxRecDepth 20000 in
theorem J_X9_needWhat_9_ok {G : aG} {h : aH} {r : Option String} (hG : aGood G) (hL : J_X9_needWhat_9   = some r) : AG G M_X9_needWhat 9 [none, none] [] h (xN h r) := by
  unfold J_X9_needWhat_9 at hL
  obtain rfl := Option.some.inj hL
  exact g_throwSW (k := 22) hG thr_No rfl rfl (by decide) (Nat.le_of_ble_eq_true rfl) dX9_needWhat_9 dX9_needWhat_12 dX9_needWhat_13 dX9_needWhat_16 dX9_needWhat_19
def L_X9_needWhat (a1 : Int32) (a2 : Int32) : Option (Option String) :=
  if a1 < 0 then J_X9_needWhat_9   else if a1 ≤ a2 then some none else J_X9_needWhat_9  
set_option maxRecDepth 20000 in
theorem C_X9_needWhat {G : aG} {h : aH} {a1 : Int32} {a2 : Int32} {r : Option String} (hG : aGood G) (hL : L_X9_needWhat a1 a2 = some r) : AC G M_X9_needWhat [.int a1, .int a2] h (xN h r) := by
  unfold L_X9_needWhat at hL
  refine AC.of (by decide) rfl (Nat.le_of_ble_eq_true rfl) ?_
  show AG G M_X9_needWhat 0 [some (.int (a1)), some (.int (a2))] [] _ _
  refine g_iload_n dX9_needWhat_0 rfl rfl ?_
  refine g_if_lt (tgt := 9) dX9_needWhat_1 (by decide) (fun q2 => ?_) (fun q2 => ?_)
  · rw [if_pos q2] at hL
    refine g_none 0 ?_
    refine g_none 1 ?_
    exact J_X9_needWhat_9_ok hG hL 
  · rw [if_neg q2] at hL
    refine g_iload_n dX9_needWhat_4 rfl rfl ?_
    refine g_none 0 ?_
    refine g_iload_n dX9_needWhat_5 rfl rfl ?_
    refine g_none 1 ?_
    refine g_icmp_le (tgt := 20) dX9_needWhat_6 (by decide) (fun q1 => ?_) (fun q1 => ?_)
    · rw [if_pos q1] at hL
      obtain rfl := Option.some.inj hL
      exact g_vret rfl dX9_needWhat_20
    · rw [if_neg q1] at hL
      exact J_X9_needWhat_9_ok hG hL 
def J_X9_needRange_10 : Option (Option String) :=
  some (some cIl)
set_option maxRecDepth 20000 in
theorem J_X9_needRange_10_ok {G : aG} {h : aH} {r : Option String} (hG : aGood G) (hL : J_X9_needRange_10   = some r) : AG G M_X9_needRange 10 [none, none, none] [] h (xN h r) := by
  unfold J_X9_needRange_10 at hL
  obtain rfl := Option.some.inj hL
  exact g_throwSW (k := 23) hG thr_Il rfl rfl (by decide) (Nat.le_of_ble_eq_true rfl) dX9_needRange_10 dX9_needRange_13 dX9_needRange_14 dX9_needRange_17 dX9_needRange_20
def L_X9_needRange (a1 : Int32) (a2 : Int32) (a3 : Int32) : Option (Option String) :=
  if a1 < a2 then J_X9_needRange_10   else if a1 ≤ a3 then some none else J_X9_needRange_10  
set_option maxRecDepth 20000 in
theorem C_X9_needRange {G : aG} {h : aH} {a1 : Int32} {a2 : Int32} {a3 : Int32} {r : Option String} (hG : aGood G) (hL : L_X9_needRange a1 a2 a3 = some r) : AC G M_X9_needRange [.int a1, .int a2, .int a3] h (xN h r) := by
  unfold L_X9_needRange at hL
  refine AC.of (by decide) rfl (Nat.le_of_ble_eq_true rfl) ?_
  show AG G M_X9_needRange 0 [some (.int (a1)), some (.int (a2)), some (.int (a3))] [] _ _
  refine g_iload_n dX9_needRange_0 rfl rfl ?_
  refine g_iload_n dX9_needRange_1 rfl rfl ?_
  refine g_none 1 ?_
  refine g_icmp_lt (tgt := 10) dX9_needRange_2 (by decide) (fun q2 => ?_) (fun q2 => ?_)
  · rw [if_pos q2] at hL
    refine g_none 0 ?_
    refine g_none 2 ?_
    exact J_X9_needRange_10_ok hG hL 
  · rw [if_neg q2] at hL
    refine g_iload_n dX9_needRange_5 rfl rfl ?_
    refine g_none 0 ?_
    refine g_iload_n dX9_needRange_6 rfl rfl ?_
    refine g_none 2 ?_
    refine g_icmp_le (tgt := 21) dX9_needRange_7 (by decide) (fun q1 => ?_) (fun q1 => ?_)
    · rw [if_pos q1] at hL
      obtain rfl := Option.some.inj hL
      exact g_vret rfl dX9_needRange_21
    · rw [if_neg q1] at hL
      exact J_X9_needRange_10_ok hG hL 
def J_X9_then_60 (o : wO) (y0 : Int32) (w : wS) : Option ((Int32 ⊕ String) × wS) :=
  some (.inl (y0), w)
set_option maxRecDepth 20000 in
theorem J_X9_then_60_ok {G : aG} {Hf : wS → aH} {bx : Nat} {o : wO} {y0 : Int32} {w : wS} {r : (Int32 ⊕ String) × wS} (hG : aGood G) (E : EX Hf bx o) (hL : J_X9_then_60 o  y0 w = some r) : AG G M_X9_then 60 [none, none, none, none, none] [.int (y0)] (Hf w) (xRv Hf r) := by
  unfold J_X9_then_60 at hL
  obtain rfl := Option.some.inj hL
  exact g_iret rfl dX9_then_60
def L_X9_then (o : wO) (a1 : Int32) (a2 : Int32) (a3 : Int32) (w : wS) : Option ((Int32 ⊕ String) × wS) :=
  xBT (L_X9_needDuty o (a1) w) (fun E9 => some (.inr E9, w)) (xBT (L_X9_needWhat (a3) (1)) (fun E9 => some (.inr E9, w)) (xBT (L_X9_needRange (a2) (1) (40)) (fun E9 => some (.inr E9, w)) (xB (L_X9_fromNow o  w) fun w1 => xB (L_X1_manyDays o (a2) w1) fun w2 => if a3 = 0 then xB2 (L_X5_dueOf_x31 o (a1) w2) fun v4 w5 => xB (xAld w5 38 6 (a1)) fun v6 => J_X9_then_60 o  ((v4 + v6)) w5 else xB (xAld w2 39 6 (a1)) fun v3 => J_X9_then_60 o  (v3) w2)))
set_option maxRecDepth 20000 in
theorem C_X9_then {G : aG} {Hf : wS → aH} {bx : Nat} {o : wO} {a1 : Int32} {a2 : Int32} {a3 : Int32} {w : wS} {r : (Int32 ⊕ String) × wS} (hG : aGood G) (E : EX Hf bx o) (hL : L_X9_then o a1 a2 a3 w = some r) : AC G M_X9_then [.ref (bx + 0), .int a1, .int a2, .int a3] (Hf w) (xRv Hf r) := by
  unfold L_X9_then at hL
  refine AC.of (by decide) rfl (Nat.le_of_ble_eq_true rfl) ?_
  show AG G M_X9_then 0 [some (.ref (bx + 0)), some (.int (a1)), some (.int (a2)), some (.int (a3)), none] [] _ _
  refine g_aload_n dX9_then_0 rfl rfl ?_
  refine g_iload_n dX9_then_1 rfl rfl ?_
  rcases xBT_some hL with ⟨hc, hL⟩ | ⟨E9, hc, hL⟩
  · refine g_callV (M' := M_X9_needDuty) (as := [.int (a1)]) (v := none) l_X9_175 kV_X9_needDuty (by decide) (C_X9_needDuty hG E hc) rfl (by have := E.1.1; omega) (E.1.2.1 _ 0 _ rfl) ⟨_, _, rfl⟩ (Nat.le_of_ble_eq_true rfl) dX9_then_2 ?_
    refine g_iload_n dX9_then_5 rfl rfl ?_
    refine g_iconst (v := 1) dX9_then_6 (by decide) ?_
    rcases xBT_some hL with ⟨hc, hL⟩ | ⟨E9, hc, hL⟩
    · refine g_callS (M' := M_X9_needWhat) (as := [.int (a3), .int (1)]) (v := none) l_X9_221 kS_X9_needWhat (by decide) (C_X9_needWhat hG hc) rfl (Nat.le_of_ble_eq_true rfl) dX9_then_7 ?_
      refine g_iload_n dX9_then_10 rfl rfl ?_
      refine g_iconst (v := 1) dX9_then_11 (by decide) ?_
      refine g_bipush (v := 40) dX9_then_12 (by decide) ?_
      rcases xBT_some hL with ⟨hc, hL⟩ | ⟨E9, hc, hL⟩
      · refine g_callS (M' := M_X9_needRange) (as := [.int (a2), .int (1), .int (40)]) (v := none) l_X9_224 kS_X9_needRange (by decide) (C_X9_needRange hG hc) rfl (Nat.le_of_ble_eq_true rfl) dX9_then_14 ?_
        refine g_aload_n dX9_then_17 rfl rfl ?_
        refine g_none 0 ?_
        obtain ⟨w1, hc, hL⟩ := xB_some hL
        refine g_callV (M' := M_X9_fromNow) (as := []) (v := some (.ref (bx + 30))) l_X9_193 kV_X9_fromNow (by decide) (C_X9_fromNow hG E hc) rfl (by have := E.1.1; omega) (E.1.2.1 _ 0 _ rfl) ⟨_, _, rfl⟩ (Nat.le_of_ble_eq_true rfl) dX9_then_18 ?_
        refine g_astore (i := 4) dX9_then_21 (by decide) rfl ?_
        refine g_aload dX9_then_23 rfl ?_
        refine g_iload_n dX9_then_25 rfl rfl ?_
        refine g_none 2 ?_
        obtain ⟨w2, hc, hL⟩ := xB_some hL
        refine g_callV (M' := M_X1_manyDays) (as := [.int (a2)]) (v := none) l_X9_197 kV_X1_manyDays (by decide) (C_X1_manyDays hG E hc) rfl (by have := E.1.1; omega) (E.1.2.1 _ 30 _ rfl) ⟨_, _, rfl⟩ (Nat.le_of_ble_eq_true rfl) dX9_then_26 ?_
        refine g_iload_n dX9_then_29 rfl rfl ?_
        refine g_none 3 ?_
        refine g_if_ne (tgt := 53) dX9_then_30 (by decide) (fun q7 => ?_) (fun q7 => ?_)
        · rw [if_neg q7] at hL
          refine g_aload dX9_then_53 rfl ?_
          refine g_none 4 ?_
          refine s_getR (k := 30) (j := 7) E.1 rfl rfl f_X9_231 dX9_then_55 ?_
          refine g_iload_n dX9_then_58 rfl rfl ?_
          refine g_none 1 ?_
          refine s_iald (k := 39) E.1 hL rfl dX9_then_59 ?_
          intro v3 hL
          exact J_X9_then_60_ok hG E hL 
        · rw [if_pos q7] at hL
          refine g_aload dX9_then_33 rfl ?_
          refine s_getR (k := 30) (j := 0) E.1 rfl rfl f_X9_200 dX9_then_35 ?_
          refine g_iload_n dX9_then_38 rfl rfl ?_
          obtain ⟨v4, w5, hc, hL⟩ := xB2_some hL
          refine g_callV (M' := M_X5_dueOf) (as := [.int (a1)]) (v := some (.int (v4))) l_X9_178 kV_X5_dueOf (by decide) (C_X5_dueOf_x31 hG E hc) rfl (by have := E.1.1; omega) (E.1.2.1 _ 31 _ rfl) ⟨_, _, rfl⟩ (Nat.le_of_ble_eq_true rfl) dX9_then_39 ?_
          refine g_aload dX9_then_42 rfl ?_
          refine g_none 4 ?_
          refine s_getR (k := 30) (j := 6) E.1 rfl rfl f_X9_228 dX9_then_44 ?_
          refine g_iload_n dX9_then_47 rfl rfl ?_
          refine g_none 1 ?_
          refine s_iald (k := 38) E.1 hL rfl dX9_then_48 ?_
          intro v6 hL
          refine g_iadd dX9_then_49 ?_
          refine g_goto (tgt := 60) dX9_then_50 (by decide) ?_
          exact J_X9_then_60_ok hG E hL 
      · obtain rfl := Option.some.inj hL
        exact g_callSX (M' := M_X9_needRange) (as := [.int (a2), .int (1), .int (40)]) (E := E9) (aIn1 1037 (by decide +kernel) rfl) kS_X9_needRange (by decide) rfl (C_X9_needRange hG hc) rfl (Nat.le_of_ble_eq_true rfl) dX9_then_14
    · obtain rfl := Option.some.inj hL
      exact g_callSX (M' := M_X9_needWhat) (as := [.int (a3), .int (1)]) (E := E9) (aIn1 1033 (by decide +kernel) rfl) kS_X9_needWhat (by decide) rfl (C_X9_needWhat hG hc) rfl (Nat.le_of_ble_eq_true rfl) dX9_then_7
  · obtain rfl := Option.some.inj hL
    exact g_callVX (M' := M_X9_needDuty) (as := [.int (a1)]) (E := E9) (aIn1 972 (by decide +kernel) rfl) kV_X9_needDuty (by decide) rfl (C_X9_needDuty hG E hc) rfl (by have := E.1.1; omega) (E.1.2.1 _ 0 _ rfl) ⟨_, _, rfl⟩ (Nat.le_of_ble_eq_true rfl) dX9_then_2
def J_X9_later_54 (o : wO) (y0 : Int32) (w : wS) : Option ((Int32 ⊕ String) × wS) :=
  some (.inl (y0), w)
set_option maxRecDepth 20000 in
theorem J_X9_later_54_ok {G : aG} {Hf : wS → aH} {bx : Nat} {o : wO} {y0 : Int32} {w : wS} {r : (Int32 ⊕ String) × wS} (hG : aGood G) (E : EX Hf bx o) (hL : J_X9_later_54 o  y0 w = some r) : AG G M_X9_later 54 [none, none, none, none, none] [.int (y0)] (Hf w) (xRv Hf r) := by
  unfold J_X9_later_54 at hL
  obtain rfl := Option.some.inj hL
  exact g_iret rfl dX9_later_54
def L_X9_later (o : wO) (a1 : Int32) (a2 : Int32) (a3 : Int32) (w : wS) : Option ((Int32 ⊕ String) × wS) :=
  xBT (L_X9_needPerson o (a1) w) (fun E9 => some (.inr E9, w)) (xBT (L_X9_needWhat (a3) (1)) (fun E9 => some (.inr E9, w)) (xBT (L_X9_needRange (a2) (0) (40)) (fun E9 => some (.inr E9, w)) (xB (L_X9_fromNow o  w) fun w1 => xB (L_X1_manyDays o (a2) w1) fun w2 => if a3 = 0 then xB2 (L_X5_hasteOf_x31 o (a1) w2) fun v5 w6 => J_X9_later_54 o  (v5) w6 else xB2 (L_X5_rungOf_x31 o (a1) w2) fun v3 w4 => J_X9_later_54 o  (v3) w4)))
set_option maxRecDepth 20000 in
theorem C_X9_later {G : aG} {Hf : wS → aH} {bx : Nat} {o : wO} {a1 : Int32} {a2 : Int32} {a3 : Int32} {w : wS} {r : (Int32 ⊕ String) × wS} (hG : aGood G) (E : EX Hf bx o) (hL : L_X9_later o a1 a2 a3 w = some r) : AC G M_X9_later [.ref (bx + 0), .int a1, .int a2, .int a3] (Hf w) (xRv Hf r) := by
  unfold L_X9_later at hL
  refine AC.of (by decide) rfl (Nat.le_of_ble_eq_true rfl) ?_
  show AG G M_X9_later 0 [some (.ref (bx + 0)), some (.int (a1)), some (.int (a2)), some (.int (a3)), none] [] _ _
  refine g_aload_n dX9_later_0 rfl rfl ?_
  refine g_iload_n dX9_later_1 rfl rfl ?_
  rcases xBT_some hL with ⟨hc, hL⟩ | ⟨E9, hc, hL⟩
  · refine g_callV (M' := M_X9_needPerson) (as := [.int (a1)]) (v := none) l_X9_147 kV_X9_needPerson (by decide) (C_X9_needPerson hG E hc) rfl (by have := E.1.1; omega) (E.1.2.1 _ 0 _ rfl) ⟨_, _, rfl⟩ (Nat.le_of_ble_eq_true rfl) dX9_later_2 ?_
    refine g_iload_n dX9_later_5 rfl rfl ?_
    refine g_iconst (v := 1) dX9_later_6 (by decide) ?_
    rcases xBT_some hL with ⟨hc, hL⟩ | ⟨E9, hc, hL⟩
    · refine g_callS (M' := M_X9_needWhat) (as := [.int (a3), .int (1)]) (v := none) l_X9_221 kS_X9_needWhat (by decide) (C_X9_needWhat hG hc) rfl (Nat.le_of_ble_eq_true rfl) dX9_later_7 ?_
      refine g_iload_n dX9_later_10 rfl rfl ?_
      refine g_iconst (v := 0) dX9_later_11 (by decide) ?_
      refine g_bipush (v := 40) dX9_later_12 (by decide) ?_
      rcases xBT_some hL with ⟨hc, hL⟩ | ⟨E9, hc, hL⟩
      · refine g_callS (M' := M_X9_needRange) (as := [.int (a2), .int (0), .int (40)]) (v := none) l_X9_224 kS_X9_needRange (by decide) (C_X9_needRange hG hc) rfl (Nat.le_of_ble_eq_true rfl) dX9_later_14 ?_
        refine g_aload_n dX9_later_17 rfl rfl ?_
        refine g_none 0 ?_
        obtain ⟨w1, hc, hL⟩ := xB_some hL
        refine g_callV (M' := M_X9_fromNow) (as := []) (v := some (.ref (bx + 30))) l_X9_193 kV_X9_fromNow (by decide) (C_X9_fromNow hG E hc) rfl (by have := E.1.1; omega) (E.1.2.1 _ 0 _ rfl) ⟨_, _, rfl⟩ (Nat.le_of_ble_eq_true rfl) dX9_later_18 ?_
        refine g_astore (i := 4) dX9_later_21 (by decide) rfl ?_
        refine g_aload dX9_later_23 rfl ?_
        refine g_iload_n dX9_later_25 rfl rfl ?_
        refine g_none 2 ?_
        obtain ⟨w2, hc, hL⟩ := xB_some hL
        refine g_callV (M' := M_X1_manyDays) (as := [.int (a2)]) (v := none) l_X9_197 kV_X1_manyDays (by decide) (C_X1_manyDays hG E hc) rfl (by have := E.1.1; omega) (E.1.2.1 _ 30 _ rfl) ⟨_, _, rfl⟩ (Nat.le_of_ble_eq_true rfl) dX9_later_26 ?_
        refine g_iload_n dX9_later_29 rfl rfl ?_
        refine g_none 3 ?_
        refine g_if_ne (tgt := 45) dX9_later_30 (by decide) (fun q7 => ?_) (fun q7 => ?_)
        · rw [if_neg q7] at hL
          refine g_aload dX9_later_45 rfl ?_
          refine g_none 4 ?_
          refine s_getR (k := 30) (j := 0) E.1 rfl rfl f_X9_200 dX9_later_47 ?_
          refine g_iload_n dX9_later_50 rfl rfl ?_
          refine g_none 1 ?_
          obtain ⟨v3, w4, hc, hL⟩ := xB2_some hL
          refine g_callV (M' := M_X5_rungOf) (as := [.int (a1)]) (v := some (.int (v3))) l_X9_163 kV_X5_rungOf (by decide) (C_X5_rungOf_x31 hG E hc) rfl (by have := E.1.1; omega) (E.1.2.1 _ 31 _ rfl) ⟨_, _, rfl⟩ (Nat.le_of_ble_eq_true rfl) dX9_later_51 ?_
          exact J_X9_later_54_ok hG E hL 
        · rw [if_pos q7] at hL
          refine g_aload dX9_later_33 rfl ?_
          refine g_none 4 ?_
          refine s_getR (k := 30) (j := 0) E.1 rfl rfl f_X9_200 dX9_later_35 ?_
          refine g_iload_n dX9_later_38 rfl rfl ?_
          refine g_none 1 ?_
          obtain ⟨v5, w6, hc, hL⟩ := xB2_some hL
          refine g_callV (M' := M_X5_hasteOf) (as := [.int (a1)]) (v := some (.int (v5))) l_X9_153 kV_X5_hasteOf (by decide) (C_X5_hasteOf_x31 hG E hc) rfl (by have := E.1.1; omega) (E.1.2.1 _ 31 _ rfl) ⟨_, _, rfl⟩ (Nat.le_of_ble_eq_true rfl) dX9_later_39 ?_
          refine g_goto (tgt := 54) dX9_later_42 (by decide) ?_
          exact J_X9_later_54_ok hG E hL 
      · obtain rfl := Option.some.inj hL
        exact g_callSX (M' := M_X9_needRange) (as := [.int (a2), .int (0), .int (40)]) (E := E9) (aIn1 1037 (by decide +kernel) rfl) kS_X9_needRange (by decide) rfl (C_X9_needRange hG hc) rfl (Nat.le_of_ble_eq_true rfl) dX9_later_14
    · obtain rfl := Option.some.inj hL
      exact g_callSX (M' := M_X9_needWhat) (as := [.int (a3), .int (1)]) (E := E9) (aIn1 1033 (by decide +kernel) rfl) kS_X9_needWhat (by decide) rfl (C_X9_needWhat hG hc) rfl (Nat.le_of_ble_eq_true rfl) dX9_later_7
  · obtain rfl := Option.some.inj hL
    exact g_callVX (M' := M_X9_needPerson) (as := [.int (a1)]) (E := E9) (aIn1 956 (by decide +kernel) rfl) kV_X9_needPerson (by decide) rfl (C_X9_needPerson hG E hc) rfl (by have := E.1.1; omega) (E.1.2.1 _ 0 _ rfl) ⟨_, _, rfl⟩ (Nat.le_of_ble_eq_true rfl) dX9_later_2
def B_X9_first_12 (o : wO) (kh12 : Int32 → Int32 → wS → Option ((Int32 ⊕ String) × wS)) (ke30 : Int32 → wS → Option ((Int32 ⊕ String) × wS)) (ke38 : wS → Option ((Int32 ⊕ String) × wS)) (x1 : Int32) (x3 : Int32) (w : wS) : Option ((Int32 ⊕ String) × wS) :=
  if 40 < x3 then ke38  w else xB (L_X1_oneDay o  w) fun w1 => xB2 (L_X1_rangToday o (x1) w1) fun v2 w3 => if v2 = 0 then kh12 (x1) ((x3 + 1)) w3 else ke30 (x3) w3
set_option maxRecDepth 20000 in
theorem B_X9_first_12_ok {G : aG} {Hf : wS → aH} {bx : Nat} {o : wO} {kh12 : Int32 → Int32 → wS → Option ((Int32 ⊕ String) × wS)} {ke30 : Int32 → wS → Option ((Int32 ⊕ String) × wS)} {ke38 : wS → Option ((Int32 ⊕ String) × wS)} {x1 : Int32} {x3 : Int32} {w : wS} {r : (Int32 ⊕ String) × wS} (hG : aGood G) (E : EX Hf bx o) (hL : B_X9_first_12 o kh12 ke30 ke38 x1 x3 w = some r) (Hkh12 : ∀ (z0 : Int32) (z1 : Int32) (w : wS), kh12 z0 z1 w = some r → AG G M_X9_first 12 [none, some (.int (z0)), some (.ref (bx + 30)), some (.int (z1))] [] (Hf w) (xRv Hf r)) (Hke30 : ∀ (z0 : Int32) (w : wS), ke30 z0 w = some r → AG G M_X9_first 30 [none, none, none, some (.int (z0))] [] (Hf w) (xRv Hf r)) (Hke38 : ∀ (w : wS), ke38  w = some r → AG G M_X9_first 38 [none, none, none, none] [] (Hf w) (xRv Hf r)) : AG G M_X9_first 12 [none, some (.int (x1)), some (.ref (bx + 30)), some (.int (x3))] [] (Hf w) (xRv Hf r) := by
  unfold B_X9_first_12 at hL
  refine g_iload_n dX9_first_12 rfl rfl ?_
  refine g_bipush (v := 40) dX9_first_13 (by decide) ?_
  refine g_icmp_gt (tgt := 38) dX9_first_15 (by decide) (fun q5 => ?_) (fun q5 => ?_)
  · rw [if_pos q5] at hL
    refine g_none 1 ?_
    refine g_none 2 ?_
    refine g_none 3 ?_
    exact Hke38  _ hL
  · rw [if_neg q5] at hL
    refine g_aload_n dX9_first_18 rfl rfl ?_
    obtain ⟨w1, hc, hL⟩ := xB_some hL
    refine g_callV (M' := M_X1_oneDay) (as := []) (v := none) l_X9_234 kV_X1_oneDay (by decide) (C_X1_oneDay hG E hc) rfl (by have := E.1.1; omega) (E.1.2.1 _ 30 _ rfl) ⟨_, _, rfl⟩ (Nat.le_of_ble_eq_true rfl) dX9_first_19 ?_
    refine g_aload_n dX9_first_22 rfl rfl ?_
    refine g_iload_n dX9_first_23 rfl rfl ?_
    obtain ⟨v2, w3, hc, hL⟩ := xB2_some hL
    refine g_callV (M' := M_X1_rangToday) (as := [.int (x1)]) (v := some (.int (v2))) l_X9_237 kV_X1_rangToday (by decide) (C_X1_rangToday hG E hc) rfl (by have := E.1.1; omega) (E.1.2.1 _ 30 _ rfl) ⟨_, _, rfl⟩ (Nat.le_of_ble_eq_true rfl) dX9_first_24 ?_
    refine g_if_eq (tgt := 32) dX9_first_27 (by decide) (fun q4 => ?_) (fun q4 => ?_)
    · rw [if_pos q4] at hL
      refine g_iincV (v := (x3 + 1)) dX9_first_32 rfl rfl (by decide) rfl ?_
      refine g_goto (tgt := 12) dX9_first_35 (by decide) ?_
      exact Hkh12 _ _ _ hL
    · rw [if_neg q4] at hL
      refine g_none 1 ?_
      refine g_none 2 ?_
      exact Hke30 _ _ hL
def P_X9_first_12 (o : wO) (ke30 : Int32 → wS → Option ((Int32 ⊕ String) × wS)) (ke38 : wS → Option ((Int32 ⊕ String) × wS)) (n : Nat) (x1 : Int32) (x3 : Int32) (w : wS) : Option ((Int32 ⊕ String) × wS) :=
  xLoop (fun (kk : Int32 × Int32 × wS → Option ((Int32 ⊕ String) × wS)) σ => B_X9_first_12 o (fun x1 x3 w => kk (x1, x3, w)) ke30 ke38 (σ.1) (σ.2.1) (σ.2.2)) n (x1, x3, w)
theorem P_X9_first_12_ok {G : aG} {Hf : wS → aH} {bx : Nat} {o : wO} {ke30 : Int32 → wS → Option ((Int32 ⊕ String) × wS)} {ke38 : wS → Option ((Int32 ⊕ String) × wS)} {n : Nat} {x1 : Int32} {x3 : Int32} {w : wS} {r : (Int32 ⊕ String) × wS} (hG : aGood G) (E : EX Hf bx o) (hL : P_X9_first_12 o ke30 ke38 n x1 x3 w = some r) (Hke30 : ∀ (z0 : Int32) (w : wS), ke30 z0 w = some r → AG G M_X9_first 30 [none, none, none, some (.int (z0))] [] (Hf w) (xRv Hf r)) (Hke38 : ∀ (w : wS), ke38  w = some r → AG G M_X9_first 38 [none, none, none, none] [] (Hf w) (xRv Hf r)) : AG G M_X9_first 12 [none, some (.int (x1)), some (.ref (bx + 30)), some (.int (x3))] [] (Hf w) (xRv Hf r) :=
  xLoop_ok (Q := fun (σ : Int32 × Int32 × wS) => AG G M_X9_first 12 [none, some (.int (σ.1)), some (.ref (bx + 30)), some (.int (σ.2.1))] [] (Hf σ.2.2) (xRv Hf r)) (fun kk hk σ hσ => B_X9_first_12_ok hG E hσ (fun x1 x3 w h9 => hk (x1, x3, w) h9) Hke30 Hke38) n (x1, x3, w) hL
def L_X9_first (o : wO) (a1 : Int32) (w : wS) : Option ((Int32 ⊕ String) × wS) :=
  xBT (L_X9_needPerson o (a1) w) (fun E9 => some (.inr E9, w)) (xB (L_X9_fromNow o  w) fun w6 => P_X9_first_12 o (fun z7 w8 => some (.inl (z7), w8)) (fun w9 => some (.inl ((-1)), w9)) 5000 (a1) (1) w6)
set_option maxRecDepth 20000 in
theorem C_X9_first {G : aG} {Hf : wS → aH} {bx : Nat} {o : wO} {a1 : Int32} {w : wS} {r : (Int32 ⊕ String) × wS} (hG : aGood G) (E : EX Hf bx o) (hL : L_X9_first o a1 w = some r) : AC G M_X9_first [.ref (bx + 0), .int a1] (Hf w) (xRv Hf r) := by
  unfold L_X9_first at hL
  refine AC.of (by decide) rfl (Nat.le_of_ble_eq_true rfl) ?_
  show AG G M_X9_first 0 [some (.ref (bx + 0)), some (.int (a1)), none, none] [] _ _
  refine g_aload_n dX9_first_0 rfl rfl ?_
  refine g_iload_n dX9_first_1 rfl rfl ?_
  rcases xBT_some hL with ⟨hc, hL⟩ | ⟨E9, hc, hL⟩
  · refine g_callV (M' := M_X9_needPerson) (as := [.int (a1)]) (v := none) l_X9_147 kV_X9_needPerson (by decide) (C_X9_needPerson hG E hc) rfl (by have := E.1.1; omega) (E.1.2.1 _ 0 _ rfl) ⟨_, _, rfl⟩ (Nat.le_of_ble_eq_true rfl) dX9_first_2 ?_
    refine g_aload_n dX9_first_5 rfl rfl ?_
    refine g_none 0 ?_
    obtain ⟨w6, hc, hL⟩ := xB_some hL
    refine g_callV (M' := M_X9_fromNow) (as := []) (v := some (.ref (bx + 30))) l_X9_193 kV_X9_fromNow (by decide) (C_X9_fromNow hG E hc) rfl (by have := E.1.1; omega) (E.1.2.1 _ 0 _ rfl) ⟨_, _, rfl⟩ (Nat.le_of_ble_eq_true rfl) dX9_first_6 ?_
    refine g_astore_n (i := 2) dX9_first_9 rfl (by decide) rfl ?_
    refine g_iconst (v := 1) dX9_first_10 (by decide) ?_
    refine g_istore_n (i := 3) dX9_first_11 rfl (by decide) rfl ?_
    refine P_X9_first_12_ok hG E hL ?_ ?_
    · intro z7 w8 hL
      refine g_iload_n dX9_first_30 rfl rfl ?_
      refine g_none 3 ?_
      obtain rfl := Option.some.inj hL
      exact g_iret rfl dX9_first_31
    · intro w9 hL
      refine g_iconst (v := (-1)) dX9_first_38 (by decide) ?_
      obtain rfl := Option.some.inj hL
      exact g_iret rfl dX9_first_39
  · obtain rfl := Option.some.inj hL
    exact g_callVX (M' := M_X9_needPerson) (as := [.int (a1)]) (E := E9) (aIn1 956 (by decide +kernel) rfl) kV_X9_needPerson (by decide) rfl (C_X9_needPerson hG E hc) rfl (by have := E.1.1; omega) (E.1.2.1 _ 0 _ rfl) ⟨_, _, rfl⟩ (Nat.le_of_ble_eq_true rfl) dX9_first_2
def J_X9_worst_58 (o : wO) (kh22 : Int32 → Int32 → wS → Option ((Int32 ⊕ String) × wS)) (ke64 : Int32 → wS → Option ((Int32 ⊕ String) × wS)) (x3 : Int32) (x4 : Int32) (w : wS) : Option ((Int32 ⊕ String) × wS) :=
  kh22 (x3) ((x4 + 1)) w
set_option maxRecDepth 20000 in
theorem J_X9_worst_58_ok {G : aG} {Hf : wS → aH} {bx : Nat} {o : wO} {kh22 : Int32 → Int32 → wS → Option ((Int32 ⊕ String) × wS)} {ke64 : Int32 → wS → Option ((Int32 ⊕ String) × wS)} {x3 : Int32} {x4 : Int32} {w : wS} {r : (Int32 ⊕ String) × wS} (hG : aGood G) (E : EX Hf bx o) (hL : J_X9_worst_58 o kh22 ke64 x3 x4 w = some r) (Hkh22 : ∀ (z0 : Int32) (z1 : Int32) (w : wS), kh22 z0 z1 w = some r → AG G M_X9_worst 22 [some (.ref (bx + 0)), none, some (.ref (bx + 30)), some (.int (z0)), some (.int (z1))] [] (Hf w) (xRv Hf r)) (Hke64 : ∀ (z0 : Int32) (w : wS), ke64 z0 w = some r → AG G M_X9_worst 64 [none, none, none, some (.int (z0)), none] [] (Hf w) (xRv Hf r)) : AG G M_X9_worst 58 [some (.ref (bx + 0)), none, some (.ref (bx + 30)), some (.int (x3)), some (.int (x4))] [] (Hf w) (xRv Hf r) := by
  unfold J_X9_worst_58 at hL
  refine g_iincV (v := (x4 + 1)) dX9_worst_58 rfl rfl (by decide) rfl ?_
  refine g_goto (tgt := 22) dX9_worst_61 (by decide) ?_
  exact Hkh22 _ _ _ hL
def J_X9_worst_55 (o : wO) (kh22 : Int32 → Int32 → wS → Option ((Int32 ⊕ String) × wS)) (ke64 : Int32 → wS → Option ((Int32 ⊕ String) × wS)) (x4 : Int32) (w : wS) : Option ((Int32 ⊕ String) × wS) :=
  J_X9_worst_58 o kh22 ke64 (x4) (x4) w
set_option maxRecDepth 20000 in
theorem J_X9_worst_55_ok {G : aG} {Hf : wS → aH} {bx : Nat} {o : wO} {kh22 : Int32 → Int32 → wS → Option ((Int32 ⊕ String) × wS)} {ke64 : Int32 → wS → Option ((Int32 ⊕ String) × wS)} {x4 : Int32} {w : wS} {r : (Int32 ⊕ String) × wS} (hG : aGood G) (E : EX Hf bx o) (hL : J_X9_worst_55 o kh22 ke64 x4 w = some r) (Hkh22 : ∀ (z0 : Int32) (z1 : Int32) (w : wS), kh22 z0 z1 w = some r → AG G M_X9_worst 22 [some (.ref (bx + 0)), none, some (.ref (bx + 30)), some (.int (z0)), some (.int (z1))] [] (Hf w) (xRv Hf r)) (Hke64 : ∀ (z0 : Int32) (w : wS), ke64 z0 w = some r → AG G M_X9_worst 64 [none, none, none, some (.int (z0)), none] [] (Hf w) (xRv Hf r)) : AG G M_X9_worst 55 [some (.ref (bx + 0)), none, some (.ref (bx + 30)), none, some (.int (x4))] [] (Hf w) (xRv Hf r) := by
  unfold J_X9_worst_55 at hL
  refine g_iload dX9_worst_55 rfl ?_
  refine g_istore_n (i := 3) dX9_worst_57 rfl (by decide) rfl ?_
  exact J_X9_worst_58_ok hG E hL Hkh22 Hke64
def B_X9_worst_22 (o : wO) (kh22 : Int32 → Int32 → wS → Option ((Int32 ⊕ String) × wS)) (ke64 : Int32 → wS → Option ((Int32 ⊕ String) × wS)) (x3 : Int32) (x4 : Int32) (w : wS) : Option ((Int32 ⊕ String) × wS) :=
  xIf (xRef w 9 (oT o + 0)) (xB (xGet w 100007) fun v1 => if v1 ≤ x4 then ke64 (x3) w else if x3 = (-1) then J_X9_worst_55 o kh22 ke64 (x4) w else xB (xAld w 38 6 (x4)) fun v2 => xB (xAld w 38 6 (x3)) fun v3 => if v2 ≤ v3 then J_X9_worst_58 o kh22 ke64 (x3) (x4) w else J_X9_worst_55 o kh22 ke64 (x4) w)
set_option maxRecDepth 20000 in
theorem B_X9_worst_22_ok {G : aG} {Hf : wS → aH} {bx : Nat} {o : wO} {kh22 : Int32 → Int32 → wS → Option ((Int32 ⊕ String) × wS)} {ke64 : Int32 → wS → Option ((Int32 ⊕ String) × wS)} {x3 : Int32} {x4 : Int32} {w : wS} {r : (Int32 ⊕ String) × wS} (hG : aGood G) (E : EX Hf bx o) (hL : B_X9_worst_22 o kh22 ke64 x3 x4 w = some r) (Hkh22 : ∀ (z0 : Int32) (z1 : Int32) (w : wS), kh22 z0 z1 w = some r → AG G M_X9_worst 22 [some (.ref (bx + 0)), none, some (.ref (bx + 30)), some (.int (z0)), some (.int (z1))] [] (Hf w) (xRv Hf r)) (Hke64 : ∀ (z0 : Int32) (w : wS), ke64 z0 w = some r → AG G M_X9_worst 64 [none, none, none, some (.int (z0)), none] [] (Hf w) (xRv Hf r)) : AG G M_X9_worst 22 [some (.ref (bx + 0)), none, some (.ref (bx + 30)), some (.int (x3)), some (.int (x4))] [] (Hf w) (xRv Hf r) := by
  unfold B_X9_worst_22 at hL
  refine g_iload dX9_worst_22 rfl ?_
  refine g_aload_n dX9_worst_24 rfl rfl ?_
  refine s_getT (k := 0) (j := 9) E.1 hL rfl rfl f_X9_55 dX9_worst_25 ?_
  intro hL
  refine s_getI (k := 0) (j := 7) E.2.1 hL rfl rfl f_X9_102 dX9_worst_28 ?_
  intro v1 hL
  refine g_icmp_ge (tgt := 64) dX9_worst_31 (by decide) (fun q6 => ?_) (fun q6 => ?_)
  · rw [if_pos q6] at hL
    refine g_none 0 ?_
    refine g_none 2 ?_
    refine g_none 4 ?_
    exact Hke64 _ _ hL
  · rw [if_neg q6] at hL
    refine g_iload_n dX9_worst_34 rfl rfl ?_
    refine g_iconst (v := (-1)) dX9_worst_35 (by decide) ?_
    refine g_icmp_eq (tgt := 55) dX9_worst_36 (by decide) (fun q5 => ?_) (fun q5 => ?_)
    · rw [if_pos q5] at hL
      refine g_none 3 ?_
      exact J_X9_worst_55_ok hG E hL Hkh22 Hke64
    · rw [if_neg q5] at hL
      refine g_aload_n dX9_worst_39 rfl rfl ?_
      refine s_getR (k := 30) (j := 6) E.1 rfl rfl f_X9_228 dX9_worst_40 ?_
      refine g_iload dX9_worst_43 rfl ?_
      refine s_iald (k := 38) E.1 hL rfl dX9_worst_45 ?_
      intro v2 hL
      refine g_aload_n dX9_worst_46 rfl rfl ?_
      refine s_getR (k := 30) (j := 6) E.1 rfl rfl f_X9_228 dX9_worst_47 ?_
      refine g_iload_n dX9_worst_50 rfl rfl ?_
      refine s_iald (k := 38) E.1 hL rfl dX9_worst_51 ?_
      intro v3 hL
      refine g_icmp_le (tgt := 58) dX9_worst_52 (by decide) (fun q4 => ?_) (fun q4 => ?_)
      · rw [if_pos q4] at hL
        exact J_X9_worst_58_ok hG E hL Hkh22 Hke64
      · rw [if_neg q4] at hL
        refine g_none 3 ?_
        exact J_X9_worst_55_ok hG E hL Hkh22 Hke64
def P_X9_worst_22 (o : wO) (ke64 : Int32 → wS → Option ((Int32 ⊕ String) × wS)) (n : Nat) (x3 : Int32) (x4 : Int32) (w : wS) : Option ((Int32 ⊕ String) × wS) :=
  xLoop (fun (kk : Int32 × Int32 × wS → Option ((Int32 ⊕ String) × wS)) σ => B_X9_worst_22 o (fun x3 x4 w => kk (x3, x4, w)) ke64 (σ.1) (σ.2.1) (σ.2.2)) n (x3, x4, w)
theorem P_X9_worst_22_ok {G : aG} {Hf : wS → aH} {bx : Nat} {o : wO} {ke64 : Int32 → wS → Option ((Int32 ⊕ String) × wS)} {n : Nat} {x3 : Int32} {x4 : Int32} {w : wS} {r : (Int32 ⊕ String) × wS} (hG : aGood G) (E : EX Hf bx o) (hL : P_X9_worst_22 o ke64 n x3 x4 w = some r) (Hke64 : ∀ (z0 : Int32) (w : wS), ke64 z0 w = some r → AG G M_X9_worst 64 [none, none, none, some (.int (z0)), none] [] (Hf w) (xRv Hf r)) : AG G M_X9_worst 22 [some (.ref (bx + 0)), none, some (.ref (bx + 30)), some (.int (x3)), some (.int (x4))] [] (Hf w) (xRv Hf r) :=
  xLoop_ok (Q := fun (σ : Int32 × Int32 × wS) => AG G M_X9_worst 22 [some (.ref (bx + 0)), none, some (.ref (bx + 30)), some (.int (σ.1)), some (.int (σ.2.1))] [] (Hf σ.2.2) (xRv Hf r)) (fun kk hk σ hσ => B_X9_worst_22_ok hG E hσ (fun x3 x4 w h9 => hk (x3, x4, w) h9) Hke64) n (x3, x4, w) hL
def L_X9_worst (o : wO) (a1 : Int32) (w : wS) : Option ((Int32 ⊕ String) × wS) :=
  xBT (L_X9_needRange (a1) (1) (40)) (fun E9 => some (.inr E9, w)) (xB (L_X9_fromNow o  w) fun w7 => xB (L_X1_manyDays o (a1) w7) fun w8 => P_X9_worst_22 o (fun z9 w10 => some (.inl (z9), w10)) 5000 ((-1)) (0) w8)
set_option maxRecDepth 20000 in
theorem C_X9_worst {G : aG} {Hf : wS → aH} {bx : Nat} {o : wO} {a1 : Int32} {w : wS} {r : (Int32 ⊕ String) × wS} (hG : aGood G) (E : EX Hf bx o) (hL : L_X9_worst o a1 w = some r) : AC G M_X9_worst [.ref (bx + 0), .int a1] (Hf w) (xRv Hf r) := by
  unfold L_X9_worst at hL
  refine AC.of (by decide) rfl (Nat.le_of_ble_eq_true rfl) ?_
  show AG G M_X9_worst 0 [some (.ref (bx + 0)), some (.int (a1)), none, none, none] [] _ _
  refine g_iload_n dX9_worst_0 rfl rfl ?_
  refine g_iconst (v := 1) dX9_worst_1 (by decide) ?_
  refine g_bipush (v := 40) dX9_worst_2 (by decide) ?_
  rcases xBT_some hL with ⟨hc, hL⟩ | ⟨E9, hc, hL⟩
  · refine g_callS (M' := M_X9_needRange) (as := [.int (a1), .int (1), .int (40)]) (v := none) l_X9_224 kS_X9_needRange (by decide) (C_X9_needRange hG hc) rfl (Nat.le_of_ble_eq_true rfl) dX9_worst_4 ?_
    refine g_aload_n dX9_worst_7 rfl rfl ?_
    obtain ⟨w7, hc, hL⟩ := xB_some hL
    refine g_callV (M' := M_X9_fromNow) (as := []) (v := some (.ref (bx + 30))) l_X9_193 kV_X9_fromNow (by decide) (C_X9_fromNow hG E hc) rfl (by have := E.1.1; omega) (E.1.2.1 _ 0 _ rfl) ⟨_, _, rfl⟩ (Nat.le_of_ble_eq_true rfl) dX9_worst_8 ?_
    refine g_astore_n (i := 2) dX9_worst_11 rfl (by decide) rfl ?_
    refine g_aload_n dX9_worst_12 rfl rfl ?_
    refine g_iload_n dX9_worst_13 rfl rfl ?_
    refine g_none 1 ?_
    obtain ⟨w8, hc, hL⟩ := xB_some hL
    refine g_callV (M' := M_X1_manyDays) (as := [.int (a1)]) (v := none) l_X9_197 kV_X1_manyDays (by decide) (C_X1_manyDays hG E hc) rfl (by have := E.1.1; omega) (E.1.2.1 _ 30 _ rfl) ⟨_, _, rfl⟩ (Nat.le_of_ble_eq_true rfl) dX9_worst_14 ?_
    refine g_iconst (v := (-1)) dX9_worst_17 (by decide) ?_
    refine g_istore_n (i := 3) dX9_worst_18 rfl (by decide) rfl ?_
    refine g_iconst (v := 0) dX9_worst_19 (by decide) ?_
    refine g_istore (i := 4) dX9_worst_20 (by decide) rfl ?_
    refine P_X9_worst_22_ok hG E hL ?_
    · intro z9 w10 hL
      refine g_iload_n dX9_worst_64 rfl rfl ?_
      refine g_none 3 ?_
      obtain rfl := Option.some.inj hL
      exact g_iret rfl dX9_worst_65
  · obtain rfl := Option.some.inj hL
    exact g_callSX (M' := M_X9_needRange) (as := [.int (a1), .int (1), .int (40)]) (E := E9) (aIn1 1037 (by decide +kernel) rfl) kS_X9_needRange (by decide) rfl (C_X9_needRange hG hc) rfl (Nat.le_of_ble_eq_true rfl) dX9_worst_4
