def L_X6_copyFrom_x12_x21 (o : wO) (w : wS) : Option (wS) :=
  xB (L_X5_copyFrom_x13_x22 o  w) fun w1 => xB (L_X0_copyFrom_x15_x24 o  w1) fun w2 => xB (L_X4_copyFrom_x17_x26 o  w2) fun w3 => some w3
set_option maxRecDepth 20000 in
theorem C_X6_copyFrom_x12_x21 {G : aG} {Hf : wS → aH} {bx : Nat} {o : wO} {w : wS} {r : wS} (hG : aGood G) (E : EX Hf bx o) (hL : L_X6_copyFrom_x12_x21 o  w = some r) : AC G M_X6_copyFrom [.ref (bx + 12), .ref (bx + 21)] (Hf w) (.inl none, Hf r) := by
  unfold L_X6_copyFrom_x12_x21 at hL
  refine AC.of (by decide) rfl (Nat.le_of_ble_eq_true rfl) ?_
  show AG G M_X6_copyFrom 0 [some (.ref (bx + 12)), some (.ref (bx + 21))] [] _ _
  refine g_aload_n dX6_copyFrom_0 rfl rfl ?_
  refine s_getR (k := 12) (j := 0) E.1 rfl rfl f_X6_10 dX6_copyFrom_1 ?_
  refine g_aload_n dX6_copyFrom_4 rfl rfl ?_
  refine s_getR (k := 21) (j := 0) E.1 rfl rfl f_X6_10 dX6_copyFrom_5 ?_
  obtain ⟨w1, hc, hL⟩ := xB_some hL
  refine g_callV (M' := M_X5_copyFrom) (as := [.ref (bx + 22)]) (v := none) l_X6_41 kV_X5_copyFrom (by decide) (C_X5_copyFrom_x13_x22 hG E hc) rfl (by have := E.1.1; omega) (E.1.2.1 _ 13 _ rfl) ⟨_, _, rfl⟩ (Nat.le_of_ble_eq_true rfl) dX6_copyFrom_8 ?_
  refine g_aload_n dX6_copyFrom_11 rfl rfl ?_
  refine s_getR (k := 12) (j := 1) E.1 rfl rfl f_X6_19 dX6_copyFrom_12 ?_
  refine g_aload_n dX6_copyFrom_15 rfl rfl ?_
  refine s_getR (k := 21) (j := 1) E.1 rfl rfl f_X6_19 dX6_copyFrom_16 ?_
  obtain ⟨w2, hc, hL⟩ := xB_some hL
  refine g_callV (M' := M_X0_copyFrom) (as := [.ref (bx + 24)]) (v := none) l_X6_45 kV_X0_copyFrom (by decide) (C_X0_copyFrom_x15_x24 hG E hc) rfl (by have := E.1.1; omega) (E.1.2.1 _ 15 _ rfl) ⟨_, _, rfl⟩ (Nat.le_of_ble_eq_true rfl) dX6_copyFrom_19 ?_
  refine g_aload_n dX6_copyFrom_22 rfl rfl ?_
  refine g_none 0 ?_
  refine s_getR (k := 12) (j := 2) E.1 rfl rfl f_X6_26 dX6_copyFrom_23 ?_
  refine g_aload_n dX6_copyFrom_26 rfl rfl ?_
  refine g_none 1 ?_
  refine s_getR (k := 21) (j := 2) E.1 rfl rfl f_X6_26 dX6_copyFrom_27 ?_
  obtain ⟨w3, hc, hL⟩ := xB_some hL
  refine g_callV (M' := M_X4_copyFrom) (as := [.ref (bx + 26)]) (v := none) l_X6_48 kV_X4_copyFrom (by decide) (C_X4_copyFrom_x17_x26 hG E hc) rfl (by have := E.1.1; omega) (E.1.2.1 _ 17 _ rfl) ⟨_, _, rfl⟩ (Nat.le_of_ble_eq_true rfl) dX6_copyFrom_30 ?_
  obtain rfl := Option.some.inj hL
  exact g_vret rfl dX6_copyFrom_33
def J_X9_restore_18 (o : wO) (w : wS) : Option (Int32 × wS) :=
  xB (xGet w 10) fun v1 => xB (xBool (v1)) fun v2 => some (v2, w)
set_option maxRecDepth 20000 in
theorem J_X9_restore_18_ok {G : aG} {Hf : wS → aH} {bx : Nat} {o : wO} {w : wS} {r : Int32 × wS} (hG : aGood G) (E : EX Hf bx o) (hL : J_X9_restore_18 o   w = some r) : AG G M_X9_restore 18 [some (.ref (bx + 0))] [] (Hf w) (.inl (some (.int r.1)), Hf r.2) := by
  unfold J_X9_restore_18 at hL
  refine g_aload_n dX9_restore_18 rfl rfl ?_
  refine g_none 0 ?_
  refine s_getI (k := 0) (j := 10) E.1 hL rfl rfl f_X9_59 dX9_restore_19 ?_
  intro v1 hL
  obtain ⟨v2, hb, hR⟩ := xB_some hL
  obtain ⟨hz, hb2⟩ := xBool_some hb
  clear hL
  subst hz
  obtain rfl := Option.some.inj hR
  exact g_zret rfl (narrow_bool hb2) dX9_restore_22
def L_X9_restore (o : wO) (w : wS) : Option (Int32 × wS) :=
  xB (xGet w 10) fun v3 => if v3 = 0 then J_X9_restore_18 o   w else xB (L_X6_copyFrom_x12_x21 o  w) fun w4 => J_X9_restore_18 o   w4
set_option maxRecDepth 20000 in
theorem C_X9_restore {G : aG} {Hf : wS → aH} {bx : Nat} {o : wO} {w : wS} {r : Int32 × wS} (hG : aGood G) (E : EX Hf bx o) (hL : L_X9_restore o  w = some r) : AC G M_X9_restore [.ref (bx + 0)] (Hf w) (.inl (some (.int r.1)), Hf r.2) := by
  unfold L_X9_restore at hL
  refine AC.of (by decide) rfl (Nat.le_of_ble_eq_true rfl) ?_
  show AG G M_X9_restore 0 [some (.ref (bx + 0))] [] _ _
  refine g_aload_n dX9_restore_0 rfl rfl ?_
  refine s_getI (k := 0) (j := 10) E.1 hL rfl rfl f_X9_59 dX9_restore_1 ?_
  intro v3 hL
  refine g_if_eq (tgt := 18) dX9_restore_4 (by decide) (fun q5 => ?_) (fun q5 => ?_)
  · rw [if_pos q5] at hL
    exact J_X9_restore_18_ok hG E hL 
  · rw [if_neg q5] at hL
    refine g_aload_n dX9_restore_7 rfl rfl ?_
    refine s_getR (k := 0) (j := 1) E.1 rfl rfl f_X9_19 dX9_restore_8 ?_
    refine g_aload_n dX9_restore_11 rfl rfl ?_
    refine s_getR (k := 0) (j := 2) E.1 rfl rfl f_X9_23 dX9_restore_12 ?_
    obtain ⟨w4, hc, hL⟩ := xB_some hL
    refine g_callV (M' := M_X6_copyFrom) (as := [.ref (bx + 21)]) (v := none) l_X9_358 kV_X6_copyFrom (by decide) (C_X6_copyFrom_x12_x21 hG E hc) rfl (by have := E.1.1; omega) (E.1.2.1 _ 12 _ rfl) ⟨_, _, rfl⟩ (Nat.le_of_ble_eq_true rfl) dX9_restore_15 ?_
    exact J_X9_restore_18_ok hG E hL 
