def J_X9_areTwins_72 (o : wO) (y0 : Int32) (w : wS) : Option (Int32 × wS) :=
  xB (xBool (y0)) fun v1 => some (v1, w)
set_option maxRecDepth 20000 in
theorem J_X9_areTwins_72_ok {G : aG} {Hf : wS → aH} {bx : Nat} {o : wO} {y0 : Int32} {w : wS} {r : Int32 × wS} (hG : aGood G) (E : EX Hf bx o) (hL : J_X9_areTwins_72 o  y0 w = some r) : AG G M_X9_areTwins 72 [none, none, none] [.int (y0)] (Hf w) (.inl (some (.int r.1)), Hf r.2) := by
  unfold J_X9_areTwins_72 at hL
  obtain ⟨v1, hb, hR⟩ := xB_some hL
  obtain ⟨hz, hb2⟩ := xBool_some hb
  clear hL
  subst hz
  obtain rfl := Option.some.inj hR
  exact g_zret rfl (narrow_bool hb2) dX9_areTwins_72
def J_X9_areTwins_71 (o : wO) (w : wS) : Option (Int32 × wS) :=
  J_X9_areTwins_72 o  (0) w
set_option maxRecDepth 20000 in
theorem J_X9_areTwins_71_ok {G : aG} {Hf : wS → aH} {bx : Nat} {o : wO} {w : wS} {r : Int32 × wS} (hG : aGood G) (E : EX Hf bx o) (hL : J_X9_areTwins_71 o   w = some r) : AG G M_X9_areTwins 71 [none, none, none] [] (Hf w) (.inl (some (.int r.1)), Hf r.2) := by
  unfold J_X9_areTwins_71 at hL
  refine g_iconst (v := 0) dX9_areTwins_71 (by decide) ?_
  exact J_X9_areTwins_72_ok hG E hL 
def L_X9_areTwins (o : wO) (a1 : Int32) (a2 : Int32) (w : wS) : Option (Int32 × wS) :=
  xIf (xRef w 9 (oT o + 0)) (xB (xAld w 1004 8 (a1)) fun v2 => xIf (xRef w 9 (oT o + 0)) (xB (xAld w 1004 8 (a2)) fun v3 => if v2 = v3 then xIf (xRef w 9 (oT o + 0)) (xB (xAld w 1002 8 (a1)) fun v4 => xIf (xRef w 9 (oT o + 0)) (xB (xAld w 1002 8 (a2)) fun v5 => if v4 = v5 then xB2 (L_X5_hasteOf_x13 o (a1) w) fun v6 w7 => xB2 (L_X5_hasteOf_x13 o (a2) w7) fun v8 w9 => if v6 = v8 then J_X9_areTwins_72 o  (1) w9 else J_X9_areTwins_71 o   w9 else J_X9_areTwins_71 o   w)) else J_X9_areTwins_71 o   w))
set_option maxRecDepth 20000 in
theorem C_X9_areTwins {G : aG} {Hf : wS → aH} {bx : Nat} {o : wO} {a1 : Int32} {a2 : Int32} {w : wS} {r : Int32 × wS} (hG : aGood G) (E : EX Hf bx o) (hL : L_X9_areTwins o a1 a2 w = some r) : AC G M_X9_areTwins [.ref (bx + 0), .int a1, .int a2] (Hf w) (.inl (some (.int r.1)), Hf r.2) := by
  unfold L_X9_areTwins at hL
  refine AC.of (by decide) rfl (Nat.le_of_ble_eq_true rfl) ?_
  show AG G M_X9_areTwins 0 [some (.ref (bx + 0)), some (.int (a1)), some (.int (a2))] [] _ _
  refine g_aload_n dX9_areTwins_0 rfl rfl ?_
  refine s_getT (k := 0) (j := 9) E.1 hL rfl rfl f_X9_55 dX9_areTwins_1 ?_
  intro hL
  refine s_getR (k := 0) (j := 3) E.2.1 rfl rfl f_X9_157 dX9_areTwins_4 ?_
  refine g_iload_n dX9_areTwins_7 rfl rfl ?_
  refine s_iald (k := 4) E.2.1 hL rfl dX9_areTwins_8 ?_
  intro v2 hL
  refine g_aload_n dX9_areTwins_9 rfl rfl ?_
  refine s_getT (k := 0) (j := 9) E.1 hL rfl rfl f_X9_55 dX9_areTwins_10 ?_
  intro hL
  refine s_getR (k := 0) (j := 3) E.2.1 rfl rfl f_X9_157 dX9_areTwins_13 ?_
  refine g_iload_n dX9_areTwins_16 rfl rfl ?_
  refine s_iald (k := 4) E.2.1 hL rfl dX9_areTwins_17 ?_
  intro v3 hL
  refine g_icmp_ne (tgt := 71) dX9_areTwins_18 (by decide) (fun q12 => ?_) (fun q12 => ?_)
  · rw [if_neg q12] at hL
    refine g_none 0 ?_
    refine g_none 1 ?_
    refine g_none 2 ?_
    exact J_X9_areTwins_71_ok hG E hL 
  · rw [if_pos q12] at hL
    refine g_aload_n dX9_areTwins_21 rfl rfl ?_
    refine s_getT (k := 0) (j := 9) E.1 hL rfl rfl f_X9_55 dX9_areTwins_22 ?_
    intro hL
    refine s_getR (k := 0) (j := 1) E.2.1 rfl rfl f_X9_150 dX9_areTwins_25 ?_
    refine g_iload_n dX9_areTwins_28 rfl rfl ?_
    refine s_iald (k := 2) E.2.1 hL rfl dX9_areTwins_29 ?_
    intro v4 hL
    refine g_aload_n dX9_areTwins_30 rfl rfl ?_
    refine s_getT (k := 0) (j := 9) E.1 hL rfl rfl f_X9_55 dX9_areTwins_31 ?_
    intro hL
    refine s_getR (k := 0) (j := 1) E.2.1 rfl rfl f_X9_150 dX9_areTwins_34 ?_
    refine g_iload_n dX9_areTwins_37 rfl rfl ?_
    refine s_iald (k := 2) E.2.1 hL rfl dX9_areTwins_38 ?_
    intro v5 hL
    refine g_icmp_ne (tgt := 71) dX9_areTwins_39 (by decide) (fun q11 => ?_) (fun q11 => ?_)
    · rw [if_neg q11] at hL
      refine g_none 0 ?_
      refine g_none 1 ?_
      refine g_none 2 ?_
      exact J_X9_areTwins_71_ok hG E hL 
    · rw [if_pos q11] at hL
      refine g_aload_n dX9_areTwins_42 rfl rfl ?_
      refine s_getR (k := 0) (j := 1) E.1 rfl rfl f_X9_19 dX9_areTwins_43 ?_
      refine s_getR (k := 12) (j := 0) E.1 rfl rfl f_X9_108 dX9_areTwins_46 ?_
      refine g_iload_n dX9_areTwins_49 rfl rfl ?_
      refine g_none 1 ?_
      obtain ⟨v6, w7, hc, hL⟩ := xB2_some hL
      refine g_callV (M' := M_X5_hasteOf) (as := [.int (a1)]) (v := some (.int (v6))) l_X9_153 kV_X5_hasteOf (by decide) (C_X5_hasteOf_x13 hG E hc) rfl (by have := E.1.1; omega) (E.1.2.1 _ 13 _ rfl) ⟨_, _, rfl⟩ (Nat.le_of_ble_eq_true rfl) dX9_areTwins_50 ?_
      refine g_aload_n dX9_areTwins_53 rfl rfl ?_
      refine g_none 0 ?_
      refine s_getR (k := 0) (j := 1) E.1 rfl rfl f_X9_19 dX9_areTwins_54 ?_
      refine s_getR (k := 12) (j := 0) E.1 rfl rfl f_X9_108 dX9_areTwins_57 ?_
      refine g_iload_n dX9_areTwins_60 rfl rfl ?_
      refine g_none 2 ?_
      obtain ⟨v8, w9, hc, hL⟩ := xB2_some hL
      refine g_callV (M' := M_X5_hasteOf) (as := [.int (a2)]) (v := some (.int (v8))) l_X9_153 kV_X5_hasteOf (by decide) (C_X5_hasteOf_x13 hG E hc) rfl (by have := E.1.1; omega) (E.1.2.1 _ 13 _ rfl) ⟨_, _, rfl⟩ (Nat.le_of_ble_eq_true rfl) dX9_areTwins_61 ?_
      refine g_icmp_ne (tgt := 71) dX9_areTwins_64 (by decide) (fun q10 => ?_) (fun q10 => ?_)
      · rw [if_neg q10] at hL
        exact J_X9_areTwins_71_ok hG E hL 
      · rw [if_pos q10] at hL
        refine g_iconst (v := 1) dX9_areTwins_67 (by decide) ?_
        refine g_goto (tgt := 72) dX9_areTwins_68 (by decide) ?_
        exact J_X9_areTwins_72_ok hG E hL 
def J_X9_twins_34 (o : wO) (kh17 : Int32 → Int32 → Int32 → wS → Option (Int32 × wS)) (ke40 : Int32 → Int32 → wS → Option (Int32 × wS)) (x1 : Int32) (x2 : Int32) (x3 : Int32) (w : wS) : Option (Int32 × wS) :=
  kh17 (x1) (x2) ((x3 + 1)) w
set_option maxRecDepth 20000 in
theorem J_X9_twins_34_ok {G : aG} {Hf : wS → aH} {bx : Nat} {o : wO} {kh17 : Int32 → Int32 → Int32 → wS → Option (Int32 × wS)} {ke40 : Int32 → Int32 → wS → Option (Int32 × wS)} {x1 : Int32} {x2 : Int32} {x3 : Int32} {w : wS} {r : Int32 × wS} (hG : aGood G) (E : EX Hf bx o) (hL : J_X9_twins_34 o kh17 ke40 x1 x2 x3 w = some r) (Hkh17 : ∀ (z0 : Int32) (z1 : Int32) (z2 : Int32) (w : wS), kh17 z0 z1 z2 w = some r → AG G M_X9_twins 17 [some (.ref (bx + 0)), some (.int (z0)), some (.int (z1)), some (.int (z2))] [] (Hf w) (.inl (some (.int r.1)), Hf r.2)) (Hke40 : ∀ (z0 : Int32) (z1 : Int32) (w : wS), ke40 z0 z1 w = some r → AG G M_X9_twins 40 [some (.ref (bx + 0)), some (.int (z0)), some (.int (z1)), none] [] (Hf w) (.inl (some (.int r.1)), Hf r.2)) : AG G M_X9_twins 34 [some (.ref (bx + 0)), some (.int (x1)), some (.int (x2)), some (.int (x3))] [] (Hf w) (.inl (some (.int r.1)), Hf r.2) := by
  unfold J_X9_twins_34 at hL
  refine g_iincV (v := (x3 + 1)) dX9_twins_34 rfl rfl (by decide) rfl ?_
  refine g_goto (tgt := 17) dX9_twins_37 (by decide) ?_
  exact Hkh17 _ _ _ _ hL
def B_X9_twins_17 (o : wO) (kh17 : Int32 → Int32 → Int32 → wS → Option (Int32 × wS)) (ke40 : Int32 → Int32 → wS → Option (Int32 × wS)) (x1 : Int32) (x2 : Int32) (x3 : Int32) (w : wS) : Option (Int32 × wS) :=
  if x2 ≤ x3 then ke40 (x1) (x2) w else xB2 (L_X9_areTwins o (x2) (x3) w) fun v1 w2 => if v1 = 0 then J_X9_twins_34 o kh17 ke40 (x1) (x2) (x3) w2 else J_X9_twins_34 o kh17 ke40 ((x1 + 1)) (x2) (x3) w2
set_option maxRecDepth 20000 in
theorem B_X9_twins_17_ok {G : aG} {Hf : wS → aH} {bx : Nat} {o : wO} {kh17 : Int32 → Int32 → Int32 → wS → Option (Int32 × wS)} {ke40 : Int32 → Int32 → wS → Option (Int32 × wS)} {x1 : Int32} {x2 : Int32} {x3 : Int32} {w : wS} {r : Int32 × wS} (hG : aGood G) (E : EX Hf bx o) (hL : B_X9_twins_17 o kh17 ke40 x1 x2 x3 w = some r) (Hkh17 : ∀ (z0 : Int32) (z1 : Int32) (z2 : Int32) (w : wS), kh17 z0 z1 z2 w = some r → AG G M_X9_twins 17 [some (.ref (bx + 0)), some (.int (z0)), some (.int (z1)), some (.int (z2))] [] (Hf w) (.inl (some (.int r.1)), Hf r.2)) (Hke40 : ∀ (z0 : Int32) (z1 : Int32) (w : wS), ke40 z0 z1 w = some r → AG G M_X9_twins 40 [some (.ref (bx + 0)), some (.int (z0)), some (.int (z1)), none] [] (Hf w) (.inl (some (.int r.1)), Hf r.2)) : AG G M_X9_twins 17 [some (.ref (bx + 0)), some (.int (x1)), some (.int (x2)), some (.int (x3))] [] (Hf w) (.inl (some (.int r.1)), Hf r.2) := by
  unfold B_X9_twins_17 at hL
  refine g_iload_n dX9_twins_17 rfl rfl ?_
  refine g_iload_n dX9_twins_18 rfl rfl ?_
  refine g_icmp_ge (tgt := 40) dX9_twins_19 (by decide) (fun q4 => ?_) (fun q4 => ?_)
  · rw [if_pos q4] at hL
    refine g_none 3 ?_
    exact Hke40 _ _ _ hL
  · rw [if_neg q4] at hL
    refine g_aload_n dX9_twins_22 rfl rfl ?_
    refine g_iload_n dX9_twins_23 rfl rfl ?_
    refine g_iload_n dX9_twins_24 rfl rfl ?_
    obtain ⟨v1, w2, hc, hL⟩ := xB2_some hL
    refine g_callV (M' := M_X9_areTwins) (as := [.int (x2), .int (x3)]) (v := some (.int (v1))) l_X9_349 kV_X9_areTwins (by decide) (C_X9_areTwins hG E hc) rfl (by have := E.1.1; omega) (E.1.2.1 _ 0 _ rfl) ⟨_, _, rfl⟩ (Nat.le_of_ble_eq_true rfl) dX9_twins_25 ?_
    refine g_if_eq (tgt := 34) dX9_twins_28 (by decide) (fun q3 => ?_) (fun q3 => ?_)
    · rw [if_pos q3] at hL
      exact J_X9_twins_34_ok hG E hL Hkh17 Hke40
    · rw [if_neg q3] at hL
      refine g_iincV (v := (x1 + 1)) dX9_twins_31 rfl rfl (by decide) rfl ?_
      exact J_X9_twins_34_ok hG E hL Hkh17 Hke40
def P_X9_twins_17 (o : wO) (ke40 : Int32 → Int32 → wS → Option (Int32 × wS)) (n : Nat) (x1 : Int32) (x2 : Int32) (x3 : Int32) (w : wS) : Option (Int32 × wS) :=
  xLoop (fun (kk : Int32 × Int32 × Int32 × wS → Option (Int32 × wS)) σ => B_X9_twins_17 o (fun x1 x2 x3 w => kk (x1, x2, x3, w)) ke40 (σ.1) (σ.2.1) (σ.2.2.1) (σ.2.2.2)) n (x1, x2, x3, w)
theorem P_X9_twins_17_ok {G : aG} {Hf : wS → aH} {bx : Nat} {o : wO} {ke40 : Int32 → Int32 → wS → Option (Int32 × wS)} {n : Nat} {x1 : Int32} {x2 : Int32} {x3 : Int32} {w : wS} {r : Int32 × wS} (hG : aGood G) (E : EX Hf bx o) (hL : P_X9_twins_17 o ke40 n x1 x2 x3 w = some r) (Hke40 : ∀ (z0 : Int32) (z1 : Int32) (w : wS), ke40 z0 z1 w = some r → AG G M_X9_twins 40 [some (.ref (bx + 0)), some (.int (z0)), some (.int (z1)), none] [] (Hf w) (.inl (some (.int r.1)), Hf r.2)) : AG G M_X9_twins 17 [some (.ref (bx + 0)), some (.int (x1)), some (.int (x2)), some (.int (x3))] [] (Hf w) (.inl (some (.int r.1)), Hf r.2) :=
  xLoop_ok (Q := fun (σ : Int32 × Int32 × Int32 × wS) => AG G M_X9_twins 17 [some (.ref (bx + 0)), some (.int (σ.1)), some (.int (σ.2.1)), some (.int (σ.2.2.1))] [] (Hf σ.2.2.2) (.inl (some (.int r.1)), Hf r.2)) (fun kk hk σ hσ => B_X9_twins_17_ok hG E hσ (fun x1 x2 x3 w h9 => hk (x1, x2, x3, w) h9) Hke40) n (x1, x2, x3, w) hL
def B_X9_twins_4 (o : wO) (kh4 : Int32 → Int32 → wS → Option (Int32 × wS)) (ke46 : Int32 → wS → Option (Int32 × wS)) (x1 : Int32) (x2 : Int32) (w : wS) : Option (Int32 × wS) :=
  xIf (xRef w 9 (oT o + 0)) (xB (xGet w 100006) fun v5 => if v5 ≤ x2 then ke46 (x1) w else P_X9_twins_17 o (fun z6 z7 w8 => kh4 (z6) ((z7 + 1)) w8) 5000 (x1) (x2) (0) w)
set_option maxRecDepth 20000 in
theorem B_X9_twins_4_ok {G : aG} {Hf : wS → aH} {bx : Nat} {o : wO} {kh4 : Int32 → Int32 → wS → Option (Int32 × wS)} {ke46 : Int32 → wS → Option (Int32 × wS)} {x1 : Int32} {x2 : Int32} {w : wS} {r : Int32 × wS} (hG : aGood G) (E : EX Hf bx o) (hL : B_X9_twins_4 o kh4 ke46 x1 x2 w = some r) (Hkh4 : ∀ (z0 : Int32) (z1 : Int32) (w : wS), kh4 z0 z1 w = some r → AG G M_X9_twins 4 [some (.ref (bx + 0)), some (.int (z0)), some (.int (z1)), none] [] (Hf w) (.inl (some (.int r.1)), Hf r.2)) (Hke46 : ∀ (z0 : Int32) (w : wS), ke46 z0 w = some r → AG G M_X9_twins 46 [none, some (.int (z0)), none, none] [] (Hf w) (.inl (some (.int r.1)), Hf r.2)) : AG G M_X9_twins 4 [some (.ref (bx + 0)), some (.int (x1)), some (.int (x2)), none] [] (Hf w) (.inl (some (.int r.1)), Hf r.2) := by
  unfold B_X9_twins_4 at hL
  refine g_iload_n dX9_twins_4 rfl rfl ?_
  refine g_aload_n dX9_twins_5 rfl rfl ?_
  refine s_getT (k := 0) (j := 9) E.1 hL rfl rfl f_X9_55 dX9_twins_6 ?_
  intro hL
  refine s_getI (k := 0) (j := 6) E.2.1 hL rfl rfl f_X9_99 dX9_twins_9 ?_
  intro v5 hL
  refine g_icmp_ge (tgt := 46) dX9_twins_12 (by decide) (fun q9 => ?_) (fun q9 => ?_)
  · rw [if_pos q9] at hL
    refine g_none 0 ?_
    refine g_none 2 ?_
    exact Hke46 _ _ hL
  · rw [if_neg q9] at hL
    refine g_iconst (v := 0) dX9_twins_15 (by decide) ?_
    refine g_istore_n (i := 3) dX9_twins_16 rfl (by decide) rfl ?_
    refine P_X9_twins_17_ok hG E hL ?_
    · intro z6 z7 w8 hL
      refine g_iincV (v := (z7 + 1)) dX9_twins_40 rfl rfl (by decide) rfl ?_
      refine g_goto (tgt := 4) dX9_twins_43 (by decide) ?_
      exact Hkh4 _ _ _ hL
def P_X9_twins_4 (o : wO) (ke46 : Int32 → wS → Option (Int32 × wS)) (n : Nat) (x1 : Int32) (x2 : Int32) (w : wS) : Option (Int32 × wS) :=
  xLoop (fun (kk : Int32 × Int32 × wS → Option (Int32 × wS)) σ => B_X9_twins_4 o (fun x1 x2 w => kk (x1, x2, w)) ke46 (σ.1) (σ.2.1) (σ.2.2)) n (x1, x2, w)
theorem P_X9_twins_4_ok {G : aG} {Hf : wS → aH} {bx : Nat} {o : wO} {ke46 : Int32 → wS → Option (Int32 × wS)} {n : Nat} {x1 : Int32} {x2 : Int32} {w : wS} {r : Int32 × wS} (hG : aGood G) (E : EX Hf bx o) (hL : P_X9_twins_4 o ke46 n x1 x2 w = some r) (Hke46 : ∀ (z0 : Int32) (w : wS), ke46 z0 w = some r → AG G M_X9_twins 46 [none, some (.int (z0)), none, none] [] (Hf w) (.inl (some (.int r.1)), Hf r.2)) : AG G M_X9_twins 4 [some (.ref (bx + 0)), some (.int (x1)), some (.int (x2)), none] [] (Hf w) (.inl (some (.int r.1)), Hf r.2) :=
  xLoop_ok (Q := fun (σ : Int32 × Int32 × wS) => AG G M_X9_twins 4 [some (.ref (bx + 0)), some (.int (σ.1)), some (.int (σ.2.1)), none] [] (Hf σ.2.2) (.inl (some (.int r.1)), Hf r.2)) (fun kk hk σ hσ => B_X9_twins_4_ok hG E hσ (fun x1 x2 w h9 => hk (x1, x2, w) h9) Hke46) n (x1, x2, w) hL
def L_X9_twins (o : wO) (w : wS) : Option (Int32 × wS) :=
  P_X9_twins_4 o (fun z10 w11 => some (z10, w11)) 5000 (0) (0) w
set_option maxRecDepth 20000 in
theorem C_X9_twins {G : aG} {Hf : wS → aH} {bx : Nat} {o : wO} {w : wS} {r : Int32 × wS} (hG : aGood G) (E : EX Hf bx o) (hL : L_X9_twins o  w = some r) : AC G M_X9_twins [.ref (bx + 0)] (Hf w) (.inl (some (.int r.1)), Hf r.2) := by
  unfold L_X9_twins at hL
  refine AC.of (by decide) rfl (Nat.le_of_ble_eq_true rfl) ?_
  show AG G M_X9_twins 0 [some (.ref (bx + 0)), none, none, none] [] _ _
  refine g_iconst (v := 0) dX9_twins_0 (by decide) ?_
  refine g_istore_n (i := 1) dX9_twins_1 rfl (by decide) rfl ?_
  refine g_iconst (v := 0) dX9_twins_2 (by decide) ?_
  refine g_istore_n (i := 2) dX9_twins_3 rfl (by decide) rfl ?_
  refine P_X9_twins_4_ok hG E hL ?_
  · intro z10 w11 hL
    refine g_iload_n dX9_twins_46 rfl rfl ?_
    refine g_none 1 ?_
    obtain rfl := Option.some.inj hL
    exact g_iret rfl dX9_twins_47
def B_X9_isSpared_19 (o : wO) (kh19 : Int32 → Int32 → Int32 → wS → Option (Int32 × wS)) (ke39 : wS → Option (Int32 × wS)) (ke47 : wS → Option (Int32 × wS)) (x1 : Int32) (x3 : Int32) (x5 : Int32) (w : wS) : Option (Int32 × wS) :=
  if x3 ≤ x5 then ke47  w else xB (L_X1_oneDay o  w) fun w1 => xB2 (L_X1_rangToday o (x1) w1) fun v2 w3 => if v2 = 0 then kh19 (x1) (x3) ((x5 + 1)) w3 else ke39  w3
set_option maxRecDepth 20000 in
theorem B_X9_isSpared_19_ok {G : aG} {Hf : wS → aH} {bx : Nat} {o : wO} {kh19 : Int32 → Int32 → Int32 → wS → Option (Int32 × wS)} {ke39 : wS → Option (Int32 × wS)} {ke47 : wS → Option (Int32 × wS)} {x1 : Int32} {x3 : Int32} {x5 : Int32} {w : wS} {r : Int32 × wS} (hG : aGood G) (E : EX Hf bx o) (hL : B_X9_isSpared_19 o kh19 ke39 ke47 x1 x3 x5 w = some r) (Hkh19 : ∀ (z0 : Int32) (z1 : Int32) (z2 : Int32) (w : wS), kh19 z0 z1 z2 w = some r → AG G M_X9_isSpared 19 [none, some (.int (z0)), none, some (.int (z1)), some (.ref (bx + 30)), some (.int (z2))] [] (Hf w) (.inl (some (.int r.1)), Hf r.2)) (Hke39 : ∀ (w : wS), ke39  w = some r → AG G M_X9_isSpared 39 [none, none, none, none, none, none] [] (Hf w) (.inl (some (.int r.1)), Hf r.2)) (Hke47 : ∀ (w : wS), ke47  w = some r → AG G M_X9_isSpared 47 [none, none, none, none, none, none] [] (Hf w) (.inl (some (.int r.1)), Hf r.2)) : AG G M_X9_isSpared 19 [none, some (.int (x1)), none, some (.int (x3)), some (.ref (bx + 30)), some (.int (x5))] [] (Hf w) (.inl (some (.int r.1)), Hf r.2) := by
  unfold B_X9_isSpared_19 at hL
  refine g_iload dX9_isSpared_19 rfl ?_
  refine g_iload_n dX9_isSpared_21 rfl rfl ?_
  refine g_icmp_ge (tgt := 47) dX9_isSpared_22 (by decide) (fun q5 => ?_) (fun q5 => ?_)
  · rw [if_pos q5] at hL
    refine g_none 1 ?_
    refine g_none 3 ?_
    refine g_none 4 ?_
    refine g_none 5 ?_
    exact Hke47  _ hL
  · rw [if_neg q5] at hL
    refine g_aload dX9_isSpared_25 rfl ?_
    obtain ⟨w1, hc, hL⟩ := xB_some hL
    refine g_callV (M' := M_X1_oneDay) (as := []) (v := none) l_X9_234 kV_X1_oneDay (by decide) (C_X1_oneDay hG E hc) rfl (by have := E.1.1; omega) (E.1.2.1 _ 30 _ rfl) ⟨_, _, rfl⟩ (Nat.le_of_ble_eq_true rfl) dX9_isSpared_27 ?_
    refine g_aload dX9_isSpared_30 rfl ?_
    refine g_iload_n dX9_isSpared_32 rfl rfl ?_
    obtain ⟨v2, w3, hc, hL⟩ := xB2_some hL
    refine g_callV (M' := M_X1_rangToday) (as := [.int (x1)]) (v := some (.int (v2))) l_X9_237 kV_X1_rangToday (by decide) (C_X1_rangToday hG E hc) rfl (by have := E.1.1; omega) (E.1.2.1 _ 30 _ rfl) ⟨_, _, rfl⟩ (Nat.le_of_ble_eq_true rfl) dX9_isSpared_33 ?_
    refine g_if_eq (tgt := 41) dX9_isSpared_36 (by decide) (fun q4 => ?_) (fun q4 => ?_)
    · rw [if_pos q4] at hL
      refine g_iincV (v := (x5 + 1)) dX9_isSpared_41 rfl rfl (by decide) rfl ?_
      refine g_goto (tgt := 19) dX9_isSpared_44 (by decide) ?_
      exact Hkh19 _ _ _ _ hL
    · rw [if_neg q4] at hL
      refine g_none 1 ?_
      refine g_none 3 ?_
      refine g_none 4 ?_
      refine g_none 5 ?_
      exact Hke39  _ hL
def P_X9_isSpared_19 (o : wO) (ke39 : wS → Option (Int32 × wS)) (ke47 : wS → Option (Int32 × wS)) (n : Nat) (x1 : Int32) (x3 : Int32) (x5 : Int32) (w : wS) : Option (Int32 × wS) :=
  xLoop (fun (kk : Int32 × Int32 × Int32 × wS → Option (Int32 × wS)) σ => B_X9_isSpared_19 o (fun x1 x3 x5 w => kk (x1, x3, x5, w)) ke39 ke47 (σ.1) (σ.2.1) (σ.2.2.1) (σ.2.2.2)) n (x1, x3, x5, w)
theorem P_X9_isSpared_19_ok {G : aG} {Hf : wS → aH} {bx : Nat} {o : wO} {ke39 : wS → Option (Int32 × wS)} {ke47 : wS → Option (Int32 × wS)} {n : Nat} {x1 : Int32} {x3 : Int32} {x5 : Int32} {w : wS} {r : Int32 × wS} (hG : aGood G) (E : EX Hf bx o) (hL : P_X9_isSpared_19 o ke39 ke47 n x1 x3 x5 w = some r) (Hke39 : ∀ (w : wS), ke39  w = some r → AG G M_X9_isSpared 39 [none, none, none, none, none, none] [] (Hf w) (.inl (some (.int r.1)), Hf r.2)) (Hke47 : ∀ (w : wS), ke47  w = some r → AG G M_X9_isSpared 47 [none, none, none, none, none, none] [] (Hf w) (.inl (some (.int r.1)), Hf r.2)) : AG G M_X9_isSpared 19 [none, some (.int (x1)), none, some (.int (x3)), some (.ref (bx + 30)), some (.int (x5))] [] (Hf w) (.inl (some (.int r.1)), Hf r.2) :=
  xLoop_ok (Q := fun (σ : Int32 × Int32 × Int32 × wS) => AG G M_X9_isSpared 19 [none, some (.int (σ.1)), none, some (.int (σ.2.1)), some (.ref (bx + 30)), some (.int (σ.2.2.1))] [] (Hf σ.2.2.2) (.inl (some (.int r.1)), Hf r.2)) (fun kk hk σ hσ => B_X9_isSpared_19_ok hG E hσ (fun x1 x3 x5 w h9 => hk (x1, x3, x5, w) h9) Hke39 Hke47) n (x1, x3, x5, w) hL
def L_X9_isSpared (o : wO) (a1 : Int32) (a2 : Int32) (a3 : Int32) (w : wS) : Option (Int32 × wS) :=
  xB (L_X9_fromNow o  w) fun w6 => xB (L_X5_setHaste_x31 o (a1) (a2) w6) fun w7 => P_X9_isSpared_19 o (fun w8 => some (0, w8)) (fun w9 => some (1, w9)) 5000 (a1) (a3) (0) w7
set_option maxRecDepth 20000 in
theorem C_X9_isSpared {G : aG} {Hf : wS → aH} {bx : Nat} {o : wO} {a1 : Int32} {a2 : Int32} {a3 : Int32} {w : wS} {r : Int32 × wS} (hG : aGood G) (E : EX Hf bx o) (hL : L_X9_isSpared o a1 a2 a3 w = some r) : AC G M_X9_isSpared [.ref (bx + 0), .int a1, .int a2, .int a3] (Hf w) (.inl (some (.int r.1)), Hf r.2) := by
  unfold L_X9_isSpared at hL
  refine AC.of (by decide) rfl (Nat.le_of_ble_eq_true rfl) ?_
  show AG G M_X9_isSpared 0 [some (.ref (bx + 0)), some (.int (a1)), some (.int (a2)), some (.int (a3)), none, none] [] _ _
  refine g_aload_n dX9_isSpared_0 rfl rfl ?_
  refine g_none 0 ?_
  obtain ⟨w6, hc, hL⟩ := xB_some hL
  refine g_callV (M' := M_X9_fromNow) (as := []) (v := some (.ref (bx + 30))) l_X9_193 kV_X9_fromNow (by decide) (C_X9_fromNow hG E hc) rfl (by have := E.1.1; omega) (E.1.2.1 _ 0 _ rfl) ⟨_, _, rfl⟩ (Nat.le_of_ble_eq_true rfl) dX9_isSpared_1 ?_
  refine g_astore (i := 4) dX9_isSpared_4 (by decide) rfl ?_
  refine g_aload dX9_isSpared_6 rfl ?_
  refine s_getR (k := 30) (j := 0) E.1 rfl rfl f_X9_200 dX9_isSpared_8 ?_
  refine g_iload_n dX9_isSpared_11 rfl rfl ?_
  refine g_iload_n dX9_isSpared_12 rfl rfl ?_
  refine g_none 2 ?_
  obtain ⟨w7, hc, hL⟩ := xB_some hL
  refine g_callV (M' := M_X5_setHaste) (as := [.int (a1), .int (a2)]) (v := none) l_X9_204 kV_X5_setHaste (by decide) (C_X5_setHaste_x31 hG E hc) rfl (by have := E.1.1; omega) (E.1.2.1 _ 31 _ rfl) ⟨_, _, rfl⟩ (Nat.le_of_ble_eq_true rfl) dX9_isSpared_13 ?_
  refine g_iconst (v := 0) dX9_isSpared_16 (by decide) ?_
  refine g_istore (i := 5) dX9_isSpared_17 (by decide) rfl ?_
  refine P_X9_isSpared_19_ok hG E hL ?_ ?_
  · intro w8 hL
    refine g_iconst (v := 0) dX9_isSpared_39 (by decide) ?_
    obtain rfl := Option.some.inj hL
    exact g_zret rfl (by decide) dX9_isSpared_40
  · intro w9 hL
    refine g_iconst (v := 1) dX9_isSpared_47 (by decide) ?_
    obtain rfl := Option.some.inj hL
    exact g_zret rfl (by decide) dX9_isSpared_48
def B_X9_toMend_14 (o : wO) (kh14 : Int32 → Int32 → Int32 → wS → Option ((Int32 ⊕ String) × wS)) (ke30 : Int32 → wS → Option ((Int32 ⊕ String) × wS)) (ke38 : wS → Option ((Int32 ⊕ String) × wS)) (x1 : Int32) (x2 : Int32) (x3 : Int32) (w : wS) : Option ((Int32 ⊕ String) × wS) :=
  if 60 < x3 then ke38  w else xB2 (L_X9_isSpared o (x1) (x3) (x2) w) fun v1 w2 => if v1 = 0 then kh14 (x1) (x2) ((x3 + 1)) w2 else ke30 (x3) w2
set_option maxRecDepth 20000 in
theorem B_X9_toMend_14_ok {G : aG} {Hf : wS → aH} {bx : Nat} {o : wO} {kh14 : Int32 → Int32 → Int32 → wS → Option ((Int32 ⊕ String) × wS)} {ke30 : Int32 → wS → Option ((Int32 ⊕ String) × wS)} {ke38 : wS → Option ((Int32 ⊕ String) × wS)} {x1 : Int32} {x2 : Int32} {x3 : Int32} {w : wS} {r : (Int32 ⊕ String) × wS} (hG : aGood G) (E : EX Hf bx o) (hL : B_X9_toMend_14 o kh14 ke30 ke38 x1 x2 x3 w = some r) (Hkh14 : ∀ (z0 : Int32) (z1 : Int32) (z2 : Int32) (w : wS), kh14 z0 z1 z2 w = some r → AG G M_X9_toMend 14 [some (.ref (bx + 0)), some (.int (z0)), some (.int (z1)), some (.int (z2))] [] (Hf w) (xRv Hf r)) (Hke30 : ∀ (z0 : Int32) (w : wS), ke30 z0 w = some r → AG G M_X9_toMend 30 [none, none, none, some (.int (z0))] [] (Hf w) (xRv Hf r)) (Hke38 : ∀ (w : wS), ke38  w = some r → AG G M_X9_toMend 38 [none, none, none, none] [] (Hf w) (xRv Hf r)) : AG G M_X9_toMend 14 [some (.ref (bx + 0)), some (.int (x1)), some (.int (x2)), some (.int (x3))] [] (Hf w) (xRv Hf r) := by
  unfold B_X9_toMend_14 at hL
  refine g_iload_n dX9_toMend_14 rfl rfl ?_
  refine g_bipush (v := 60) dX9_toMend_15 (by decide) ?_
  refine g_icmp_gt (tgt := 38) dX9_toMend_17 (by decide) (fun q4 => ?_) (fun q4 => ?_)
  · rw [if_pos q4] at hL
    refine g_none 0 ?_
    refine g_none 1 ?_
    refine g_none 2 ?_
    refine g_none 3 ?_
    exact Hke38  _ hL
  · rw [if_neg q4] at hL
    refine g_aload_n dX9_toMend_20 rfl rfl ?_
    refine g_iload_n dX9_toMend_21 rfl rfl ?_
    refine g_iload_n dX9_toMend_22 rfl rfl ?_
    refine g_iload_n dX9_toMend_23 rfl rfl ?_
    obtain ⟨v1, w2, hc, hL⟩ := xB2_some hL
    refine g_callV (M' := M_X9_isSpared) (as := [.int (x1), .int (x3), .int (x2)]) (v := some (.int (v1))) l_X9_352 kV_X9_isSpared (by decide) (C_X9_isSpared hG E hc) rfl (by have := E.1.1; omega) (E.1.2.1 _ 0 _ rfl) ⟨_, _, rfl⟩ (Nat.le_of_ble_eq_true rfl) dX9_toMend_24 ?_
    refine g_if_eq (tgt := 32) dX9_toMend_27 (by decide) (fun q3 => ?_) (fun q3 => ?_)
    · rw [if_pos q3] at hL
      refine g_iincV (v := (x3 + 1)) dX9_toMend_32 rfl rfl (by decide) rfl ?_
      refine g_goto (tgt := 14) dX9_toMend_35 (by decide) ?_
      exact Hkh14 _ _ _ _ hL
    · rw [if_neg q3] at hL
      refine g_none 0 ?_
      refine g_none 1 ?_
      refine g_none 2 ?_
      exact Hke30 _ _ hL
def P_X9_toMend_14 (o : wO) (ke30 : Int32 → wS → Option ((Int32 ⊕ String) × wS)) (ke38 : wS → Option ((Int32 ⊕ String) × wS)) (n : Nat) (x1 : Int32) (x2 : Int32) (x3 : Int32) (w : wS) : Option ((Int32 ⊕ String) × wS) :=
  xLoop (fun (kk : Int32 × Int32 × Int32 × wS → Option ((Int32 ⊕ String) × wS)) σ => B_X9_toMend_14 o (fun x1 x2 x3 w => kk (x1, x2, x3, w)) ke30 ke38 (σ.1) (σ.2.1) (σ.2.2.1) (σ.2.2.2)) n (x1, x2, x3, w)
theorem P_X9_toMend_14_ok {G : aG} {Hf : wS → aH} {bx : Nat} {o : wO} {ke30 : Int32 → wS → Option ((Int32 ⊕ String) × wS)} {ke38 : wS → Option ((Int32 ⊕ String) × wS)} {n : Nat} {x1 : Int32} {x2 : Int32} {x3 : Int32} {w : wS} {r : (Int32 ⊕ String) × wS} (hG : aGood G) (E : EX Hf bx o) (hL : P_X9_toMend_14 o ke30 ke38 n x1 x2 x3 w = some r) (Hke30 : ∀ (z0 : Int32) (w : wS), ke30 z0 w = some r → AG G M_X9_toMend 30 [none, none, none, some (.int (z0))] [] (Hf w) (xRv Hf r)) (Hke38 : ∀ (w : wS), ke38  w = some r → AG G M_X9_toMend 38 [none, none, none, none] [] (Hf w) (xRv Hf r)) : AG G M_X9_toMend 14 [some (.ref (bx + 0)), some (.int (x1)), some (.int (x2)), some (.int (x3))] [] (Hf w) (xRv Hf r) :=
  xLoop_ok (Q := fun (σ : Int32 × Int32 × Int32 × wS) => AG G M_X9_toMend 14 [some (.ref (bx + 0)), some (.int (σ.1)), some (.int (σ.2.1)), some (.int (σ.2.2.1))] [] (Hf σ.2.2.2) (xRv Hf r)) (fun kk hk σ hσ => B_X9_toMend_14_ok hG E hσ (fun x1 x2 x3 w h9 => hk (x1, x2, x3, w) h9) Hke30 Hke38) n (x1, x2, x3, w) hL
def L_X9_toMend (o : wO) (a1 : Int32) (a2 : Int32) (w : wS) : Option ((Int32 ⊕ String) × wS) :=
  xBT (L_X9_needPerson o (a1) w) (fun E9 => some (.inr E9, w)) (xBT (L_X9_needRange (a2) (1) (40)) (fun E9 => some (.inr E9, w)) (P_X9_toMend_14 o (fun z5 w6 => some (.inl (z5), w6)) (fun w7 => some (.inl ((-1)), w7)) 5000 (a1) (a2) (0) w))
set_option maxRecDepth 20000 in
theorem C_X9_toMend {G : aG} {Hf : wS → aH} {bx : Nat} {o : wO} {a1 : Int32} {a2 : Int32} {w : wS} {r : (Int32 ⊕ String) × wS} (hG : aGood G) (E : EX Hf bx o) (hL : L_X9_toMend o a1 a2 w = some r) : AC G M_X9_toMend [.ref (bx + 0), .int a1, .int a2] (Hf w) (xRv Hf r) := by
  unfold L_X9_toMend at hL
  refine AC.of (by decide) rfl (Nat.le_of_ble_eq_true rfl) ?_
  show AG G M_X9_toMend 0 [some (.ref (bx + 0)), some (.int (a1)), some (.int (a2)), none] [] _ _
  refine g_aload_n dX9_toMend_0 rfl rfl ?_
  refine g_iload_n dX9_toMend_1 rfl rfl ?_
  rcases xBT_some hL with ⟨hc, hL⟩ | ⟨E9, hc, hL⟩
  · refine g_callV (M' := M_X9_needPerson) (as := [.int (a1)]) (v := none) l_X9_147 kV_X9_needPerson (by decide) (C_X9_needPerson hG E hc) rfl (by have := E.1.1; omega) (E.1.2.1 _ 0 _ rfl) ⟨_, _, rfl⟩ (Nat.le_of_ble_eq_true rfl) dX9_toMend_2 ?_
    refine g_iload_n dX9_toMend_5 rfl rfl ?_
    refine g_iconst (v := 1) dX9_toMend_6 (by decide) ?_
    refine g_bipush (v := 40) dX9_toMend_7 (by decide) ?_
    rcases xBT_some hL with ⟨hc, hL⟩ | ⟨E9, hc, hL⟩
    · refine g_callS (M' := M_X9_needRange) (as := [.int (a2), .int (1), .int (40)]) (v := none) l_X9_224 kS_X9_needRange (by decide) (C_X9_needRange hG hc) rfl (Nat.le_of_ble_eq_true rfl) dX9_toMend_9 ?_
      refine g_iconst (v := 0) dX9_toMend_12 (by decide) ?_
      refine g_istore_n (i := 3) dX9_toMend_13 rfl (by decide) rfl ?_
      refine P_X9_toMend_14_ok hG E hL ?_ ?_
      · intro z5 w6 hL
        refine g_iload_n dX9_toMend_30 rfl rfl ?_
        refine g_none 3 ?_
        obtain rfl := Option.some.inj hL
        exact g_iret rfl dX9_toMend_31
      · intro w7 hL
        refine g_iconst (v := (-1)) dX9_toMend_38 (by decide) ?_
        obtain rfl := Option.some.inj hL
        exact g_iret rfl dX9_toMend_39
    · obtain rfl := Option.some.inj hL
      exact g_callSX (M' := M_X9_needRange) (as := [.int (a2), .int (1), .int (40)]) (E := E9) (aIn1 1037 (by decide +kernel) rfl) kS_X9_needRange (by decide) rfl (C_X9_needRange hG hc) rfl (Nat.le_of_ble_eq_true rfl) dX9_toMend_9
  · obtain rfl := Option.some.inj hL
    exact g_callVX (M' := M_X9_needPerson) (as := [.int (a1)]) (E := E9) (aIn1 956 (by decide +kernel) rfl) kV_X9_needPerson (by decide) rfl (C_X9_needPerson hG E hc) rfl (by have := E.1.1; omega) (E.1.2.1 _ 0 _ rfl) ⟨_, _, rfl⟩ (Nat.le_of_ble_eq_true rfl) dX9_toMend_2
def J_X9_silent_71 (o : wO) (kh40 : Int32 → Int32 → Int32 → Int32 → wS → Option ((Int32 ⊕ String) × wS)) (ke77 : Int32 → Int32 → Int32 → wS → Option ((Int32 ⊕ String) × wS)) (x1 : Int32) (x3 : Int32) (x4 : Int32) (x5 : Int32) (w : wS) : Option ((Int32 ⊕ String) × wS) :=
  kh40 (x1) (x3) (x4) ((x5 + 1)) w
set_option maxRecDepth 20000 in
theorem J_X9_silent_71_ok {G : aG} {Hf : wS → aH} {bx : Nat} {o : wO} {kh40 : Int32 → Int32 → Int32 → Int32 → wS → Option ((Int32 ⊕ String) × wS)} {ke77 : Int32 → Int32 → Int32 → wS → Option ((Int32 ⊕ String) × wS)} {x1 : Int32} {x3 : Int32} {x4 : Int32} {x5 : Int32} {w : wS} {r : (Int32 ⊕ String) × wS} (hG : aGood G) (E : EX Hf bx o) (hL : J_X9_silent_71 o kh40 ke77 x1 x3 x4 x5 w = some r) (Hkh40 : ∀ (z0 : Int32) (z1 : Int32) (z2 : Int32) (z3 : Int32) (w : wS), kh40 z0 z1 z2 z3 w = some r → AG G M_X9_silent 40 [some (.ref (bx + 0)), some (.int (z0)), some (.ref (bx + 30)), some (.int (z1)), some (.int (z2)), some (.int (z3))] [] (Hf w) (xRv Hf r)) (Hke77 : ∀ (z0 : Int32) (z1 : Int32) (z2 : Int32) (w : wS), ke77 z0 z1 z2 w = some r → AG G M_X9_silent 77 [some (.ref (bx + 0)), some (.int (z0)), some (.ref (bx + 30)), some (.int (z1)), some (.int (z2)), none] [] (Hf w) (xRv Hf r)) : AG G M_X9_silent 71 [some (.ref (bx + 0)), some (.int (x1)), some (.ref (bx + 30)), some (.int (x3)), some (.int (x4)), some (.int (x5))] [] (Hf w) (xRv Hf r) := by
  unfold J_X9_silent_71 at hL
  refine g_iincV (v := (x5 + 1)) dX9_silent_71 rfl rfl (by decide) rfl ?_
  refine g_goto (tgt := 40) dX9_silent_74 (by decide) ?_
  exact Hkh40 _ _ _ _ _ hL
def B_X9_silent_40 (o : wO) (kh40 : Int32 → Int32 → Int32 → Int32 → wS → Option ((Int32 ⊕ String) × wS)) (ke77 : Int32 → Int32 → Int32 → wS → Option ((Int32 ⊕ String) × wS)) (x1 : Int32) (x3 : Int32) (x4 : Int32) (x5 : Int32) (w : wS) : Option ((Int32 ⊕ String) × wS) :=
  xIf (xRef w 9 (oT o + 0)) (xB (xGet w 100007) fun v1 => if v1 ≤ x5 then ke77 (x1) (x3) (x4) w else xB (xAld w 38 6 (x5)) fun v2 => if v2 = 0 then J_X9_silent_71 o kh40 ke77 (x1) (x3) (x4) (x5) w else J_X9_silent_71 o kh40 ke77 (x1) ((x3 &&& (((1 : Int32) <<< (x5 &&& 31)) ^^^ ((-1) : Int32)))) (x4) (x5) w)
set_option maxRecDepth 20000 in
theorem B_X9_silent_40_ok {G : aG} {Hf : wS → aH} {bx : Nat} {o : wO} {kh40 : Int32 → Int32 → Int32 → Int32 → wS → Option ((Int32 ⊕ String) × wS)} {ke77 : Int32 → Int32 → Int32 → wS → Option ((Int32 ⊕ String) × wS)} {x1 : Int32} {x3 : Int32} {x4 : Int32} {x5 : Int32} {w : wS} {r : (Int32 ⊕ String) × wS} (hG : aGood G) (E : EX Hf bx o) (hL : B_X9_silent_40 o kh40 ke77 x1 x3 x4 x5 w = some r) (Hkh40 : ∀ (z0 : Int32) (z1 : Int32) (z2 : Int32) (z3 : Int32) (w : wS), kh40 z0 z1 z2 z3 w = some r → AG G M_X9_silent 40 [some (.ref (bx + 0)), some (.int (z0)), some (.ref (bx + 30)), some (.int (z1)), some (.int (z2)), some (.int (z3))] [] (Hf w) (xRv Hf r)) (Hke77 : ∀ (z0 : Int32) (z1 : Int32) (z2 : Int32) (w : wS), ke77 z0 z1 z2 w = some r → AG G M_X9_silent 77 [some (.ref (bx + 0)), some (.int (z0)), some (.ref (bx + 30)), some (.int (z1)), some (.int (z2)), none] [] (Hf w) (xRv Hf r)) : AG G M_X9_silent 40 [some (.ref (bx + 0)), some (.int (x1)), some (.ref (bx + 30)), some (.int (x3)), some (.int (x4)), some (.int (x5))] [] (Hf w) (xRv Hf r) := by
  unfold B_X9_silent_40 at hL
  refine g_iload dX9_silent_40 rfl ?_
  refine g_aload_n dX9_silent_42 rfl rfl ?_
  refine s_getT (k := 0) (j := 9) E.1 hL rfl rfl f_X9_55 dX9_silent_43 ?_
  intro hL
  refine s_getI (k := 0) (j := 7) E.2.1 hL rfl rfl f_X9_102 dX9_silent_46 ?_
  intro v1 hL
  refine g_icmp_ge (tgt := 77) dX9_silent_49 (by decide) (fun q4 => ?_) (fun q4 => ?_)
  · rw [if_pos q4] at hL
    refine g_none 5 ?_
    exact Hke77 _ _ _ _ hL
  · rw [if_neg q4] at hL
    refine g_aload_n dX9_silent_52 rfl rfl ?_
    refine s_getR (k := 30) (j := 6) E.1 rfl rfl f_X9_228 dX9_silent_53 ?_
    refine g_iload dX9_silent_56 rfl ?_
    refine s_iald (k := 38) E.1 hL rfl dX9_silent_58 ?_
    intro v2 hL
    refine g_if_eq (tgt := 71) dX9_silent_59 (by decide) (fun q3 => ?_) (fun q3 => ?_)
    · rw [if_pos q3] at hL
      exact J_X9_silent_71_ok hG E hL Hkh40 Hke77
    · rw [if_neg q3] at hL
      refine g_iload_n dX9_silent_62 rfl rfl ?_
      refine g_none 3 ?_
      refine g_iconst (v := 1) dX9_silent_63 (by decide) ?_
      refine g_iload dX9_silent_64 rfl ?_
      refine g_ishl dX9_silent_66 ?_
      refine g_iconst (v := (-1)) dX9_silent_67 (by decide) ?_
      refine g_ixor dX9_silent_68 ?_
      refine g_iand dX9_silent_69 ?_
      refine g_istore_n (i := 3) dX9_silent_70 rfl (by decide) rfl ?_
      exact J_X9_silent_71_ok hG E hL Hkh40 Hke77
def P_X9_silent_40 (o : wO) (ke77 : Int32 → Int32 → Int32 → wS → Option ((Int32 ⊕ String) × wS)) (n : Nat) (x1 : Int32) (x3 : Int32) (x4 : Int32) (x5 : Int32) (w : wS) : Option ((Int32 ⊕ String) × wS) :=
  xLoop (fun (kk : Int32 × Int32 × Int32 × Int32 × wS → Option ((Int32 ⊕ String) × wS)) σ => B_X9_silent_40 o (fun x1 x3 x4 x5 w => kk (x1, x3, x4, x5, w)) ke77 (σ.1) (σ.2.1) (σ.2.2.1) (σ.2.2.2.1) (σ.2.2.2.2)) n (x1, x3, x4, x5, w)
theorem P_X9_silent_40_ok {G : aG} {Hf : wS → aH} {bx : Nat} {o : wO} {ke77 : Int32 → Int32 → Int32 → wS → Option ((Int32 ⊕ String) × wS)} {n : Nat} {x1 : Int32} {x3 : Int32} {x4 : Int32} {x5 : Int32} {w : wS} {r : (Int32 ⊕ String) × wS} (hG : aGood G) (E : EX Hf bx o) (hL : P_X9_silent_40 o ke77 n x1 x3 x4 x5 w = some r) (Hke77 : ∀ (z0 : Int32) (z1 : Int32) (z2 : Int32) (w : wS), ke77 z0 z1 z2 w = some r → AG G M_X9_silent 77 [some (.ref (bx + 0)), some (.int (z0)), some (.ref (bx + 30)), some (.int (z1)), some (.int (z2)), none] [] (Hf w) (xRv Hf r)) : AG G M_X9_silent 40 [some (.ref (bx + 0)), some (.int (x1)), some (.ref (bx + 30)), some (.int (x3)), some (.int (x4)), some (.int (x5))] [] (Hf w) (xRv Hf r) :=
  xLoop_ok (Q := fun (σ : Int32 × Int32 × Int32 × Int32 × wS) => AG G M_X9_silent 40 [some (.ref (bx + 0)), some (.int (σ.1)), some (.ref (bx + 30)), some (.int (σ.2.1)), some (.int (σ.2.2.1)), some (.int (σ.2.2.2.1))] [] (Hf σ.2.2.2.2) (xRv Hf r)) (fun kk hk σ hσ => B_X9_silent_40_ok hG E hσ (fun x1 x3 x4 x5 w h9 => hk (x1, x3, x4, x5, w) h9) Hke77) n (x1, x3, x4, x5, w) hL
def B_X9_silent_27 (o : wO) (kh27 : Int32 → Int32 → Int32 → wS → Option ((Int32 ⊕ String) × wS)) (ke83 : Int32 → wS → Option ((Int32 ⊕ String) × wS)) (x1 : Int32) (x3 : Int32) (x4 : Int32) (w : wS) : Option ((Int32 ⊕ String) × wS) :=
  if x1 ≤ x4 then ke83 (x3) w else xB (L_X1_oneDay o  w) fun w5 => P_X9_silent_40 o (fun z6 z7 z8 w9 => kh27 (z6) (z7) ((z8 + 1)) w9) 5000 (x1) (x3) (x4) (0) w5
set_option maxRecDepth 20000 in
theorem B_X9_silent_27_ok {G : aG} {Hf : wS → aH} {bx : Nat} {o : wO} {kh27 : Int32 → Int32 → Int32 → wS → Option ((Int32 ⊕ String) × wS)} {ke83 : Int32 → wS → Option ((Int32 ⊕ String) × wS)} {x1 : Int32} {x3 : Int32} {x4 : Int32} {w : wS} {r : (Int32 ⊕ String) × wS} (hG : aGood G) (E : EX Hf bx o) (hL : B_X9_silent_27 o kh27 ke83 x1 x3 x4 w = some r) (Hkh27 : ∀ (z0 : Int32) (z1 : Int32) (z2 : Int32) (w : wS), kh27 z0 z1 z2 w = some r → AG G M_X9_silent 27 [some (.ref (bx + 0)), some (.int (z0)), some (.ref (bx + 30)), some (.int (z1)), some (.int (z2)), none] [] (Hf w) (xRv Hf r)) (Hke83 : ∀ (z0 : Int32) (w : wS), ke83 z0 w = some r → AG G M_X9_silent 83 [none, none, none, some (.int (z0)), none, none] [] (Hf w) (xRv Hf r)) : AG G M_X9_silent 27 [some (.ref (bx + 0)), some (.int (x1)), some (.ref (bx + 30)), some (.int (x3)), some (.int (x4)), none] [] (Hf w) (xRv Hf r) := by
  unfold B_X9_silent_27 at hL
  refine g_iload dX9_silent_27 rfl ?_
  refine g_iload_n dX9_silent_29 rfl rfl ?_
  refine g_icmp_ge (tgt := 83) dX9_silent_30 (by decide) (fun q10 => ?_) (fun q10 => ?_)
  · rw [if_pos q10] at hL
    refine g_none 0 ?_
    refine g_none 1 ?_
    refine g_none 2 ?_
    refine g_none 4 ?_
    exact Hke83 _ _ hL
  · rw [if_neg q10] at hL
    refine g_aload_n dX9_silent_33 rfl rfl ?_
    obtain ⟨w5, hc, hL⟩ := xB_some hL
    refine g_callV (M' := M_X1_oneDay) (as := []) (v := none) l_X9_234 kV_X1_oneDay (by decide) (C_X1_oneDay hG E hc) rfl (by have := E.1.1; omega) (E.1.2.1 _ 30 _ rfl) ⟨_, _, rfl⟩ (Nat.le_of_ble_eq_true rfl) dX9_silent_34 ?_
    refine g_iconst (v := 0) dX9_silent_37 (by decide) ?_
    refine g_istore (i := 5) dX9_silent_38 (by decide) rfl ?_
    refine P_X9_silent_40_ok hG E hL ?_
    · intro z6 z7 z8 w9 hL
      refine g_iincV (v := (z8 + 1)) dX9_silent_77 rfl rfl (by decide) rfl ?_
      refine g_goto (tgt := 27) dX9_silent_80 (by decide) ?_
      exact Hkh27 _ _ _ _ hL
def P_X9_silent_27 (o : wO) (ke83 : Int32 → wS → Option ((Int32 ⊕ String) × wS)) (n : Nat) (x1 : Int32) (x3 : Int32) (x4 : Int32) (w : wS) : Option ((Int32 ⊕ String) × wS) :=
  xLoop (fun (kk : Int32 × Int32 × Int32 × wS → Option ((Int32 ⊕ String) × wS)) σ => B_X9_silent_27 o (fun x1 x3 x4 w => kk (x1, x3, x4, w)) ke83 (σ.1) (σ.2.1) (σ.2.2.1) (σ.2.2.2)) n (x1, x3, x4, w)
theorem P_X9_silent_27_ok {G : aG} {Hf : wS → aH} {bx : Nat} {o : wO} {ke83 : Int32 → wS → Option ((Int32 ⊕ String) × wS)} {n : Nat} {x1 : Int32} {x3 : Int32} {x4 : Int32} {w : wS} {r : (Int32 ⊕ String) × wS} (hG : aGood G) (E : EX Hf bx o) (hL : P_X9_silent_27 o ke83 n x1 x3 x4 w = some r) (Hke83 : ∀ (z0 : Int32) (w : wS), ke83 z0 w = some r → AG G M_X9_silent 83 [none, none, none, some (.int (z0)), none, none] [] (Hf w) (xRv Hf r)) : AG G M_X9_silent 27 [some (.ref (bx + 0)), some (.int (x1)), some (.ref (bx + 30)), some (.int (x3)), some (.int (x4)), none] [] (Hf w) (xRv Hf r) :=
  xLoop_ok (Q := fun (σ : Int32 × Int32 × Int32 × wS) => AG G M_X9_silent 27 [some (.ref (bx + 0)), some (.int (σ.1)), some (.ref (bx + 30)), some (.int (σ.2.1)), some (.int (σ.2.2.1)), none] [] (Hf σ.2.2.2) (xRv Hf r)) (fun kk hk σ hσ => B_X9_silent_27_ok hG E hσ (fun x1 x3 x4 w h9 => hk (x1, x3, x4, w) h9) Hke83) n (x1, x3, x4, w) hL
def L_X9_silent (o : wO) (a1 : Int32) (w : wS) : Option ((Int32 ⊕ String) × wS) :=
  xBT (L_X9_needRange (a1) (0) (40)) (fun E9 => some (.inr E9, w)) (xB (L_X9_fromNow o  w) fun w11 => xIf (xRef w11 9 (oT o + 0)) (xB (xGet w11 100007) fun v12 => P_X9_silent_27 o (fun z13 w14 => some (.inl (z13), w14)) 5000 (a1) ((((1 : Int32) <<< (v12 &&& 31)) - (1 : Int32))) (0) w11))
set_option maxRecDepth 20000 in
theorem C_X9_silent {G : aG} {Hf : wS → aH} {bx : Nat} {o : wO} {a1 : Int32} {w : wS} {r : (Int32 ⊕ String) × wS} (hG : aGood G) (E : EX Hf bx o) (hL : L_X9_silent o a1 w = some r) : AC G M_X9_silent [.ref (bx + 0), .int a1] (Hf w) (xRv Hf r) := by
  unfold L_X9_silent at hL
  refine AC.of (by decide) rfl (Nat.le_of_ble_eq_true rfl) ?_
  show AG G M_X9_silent 0 [some (.ref (bx + 0)), some (.int (a1)), none, none, none, none] [] _ _
  refine g_iload_n dX9_silent_0 rfl rfl ?_
  refine g_iconst (v := 0) dX9_silent_1 (by decide) ?_
  refine g_bipush (v := 40) dX9_silent_2 (by decide) ?_
  rcases xBT_some hL with ⟨hc, hL⟩ | ⟨E9, hc, hL⟩
  · refine g_callS (M' := M_X9_needRange) (as := [.int (a1), .int (0), .int (40)]) (v := none) l_X9_224 kS_X9_needRange (by decide) (C_X9_needRange hG hc) rfl (Nat.le_of_ble_eq_true rfl) dX9_silent_4 ?_
    refine g_aload_n dX9_silent_7 rfl rfl ?_
    obtain ⟨w11, hc, hL⟩ := xB_some hL
    refine g_callV (M' := M_X9_fromNow) (as := []) (v := some (.ref (bx + 30))) l_X9_193 kV_X9_fromNow (by decide) (C_X9_fromNow hG E hc) rfl (by have := E.1.1; omega) (E.1.2.1 _ 0 _ rfl) ⟨_, _, rfl⟩ (Nat.le_of_ble_eq_true rfl) dX9_silent_8 ?_
    refine g_astore_n (i := 2) dX9_silent_11 rfl (by decide) rfl ?_
    refine g_iconst (v := 1) dX9_silent_12 (by decide) ?_
    refine g_aload_n dX9_silent_13 rfl rfl ?_
    refine s_getT (k := 0) (j := 9) E.1 hL rfl rfl f_X9_55 dX9_silent_14 ?_
    intro hL
    refine s_getI (k := 0) (j := 7) E.2.1 hL rfl rfl f_X9_102 dX9_silent_17 ?_
    intro v12 hL
    refine g_ishl dX9_silent_20 ?_
    refine g_iconst (v := 1) dX9_silent_21 (by decide) ?_
    refine g_isub dX9_silent_22 ?_
    refine g_istore_n (i := 3) dX9_silent_23 rfl (by decide) rfl ?_
    refine g_iconst (v := 0) dX9_silent_24 (by decide) ?_
    refine g_istore (i := 4) dX9_silent_25 (by decide) rfl ?_
    refine P_X9_silent_27_ok hG E hL ?_
    · intro z13 w14 hL
      refine g_iload_n dX9_silent_83 rfl rfl ?_
      refine g_none 3 ?_
      obtain rfl := Option.some.inj hL
      exact g_iret rfl dX9_silent_84
  · obtain rfl := Option.some.inj hL
    exact g_callSX (M' := M_X9_needRange) (as := [.int (a1), .int (0), .int (40)]) (E := E9) (aIn1 1037 (by decide +kernel) rfl) kS_X9_needRange (by decide) rfl (C_X9_needRange hG hc) rfl (Nat.le_of_ble_eq_true rfl) dX9_silent_4
def B_X9_behind_17 (o : wO) (kh17 : Int32 → Int32 → Int32 → wS → Option ((Int32 ⊕ String) × wS)) (ke40 : Int32 → wS → Option ((Int32 ⊕ String) × wS)) (x1 : Int32) (x3 : Int32) (x4 : Int32) (w : wS) : Option ((Int32 ⊕ String) × wS) :=
  if x1 ≤ x4 then ke40 (x3) w else xB (L_X1_oneDay o  w) fun w1 => xB2 (L_X1_behindToday o  w1) fun v2 w3 => kh17 (x1) ((x3 + v2)) ((x4 + 1)) w3
set_option maxRecDepth 20000 in
theorem B_X9_behind_17_ok {G : aG} {Hf : wS → aH} {bx : Nat} {o : wO} {kh17 : Int32 → Int32 → Int32 → wS → Option ((Int32 ⊕ String) × wS)} {ke40 : Int32 → wS → Option ((Int32 ⊕ String) × wS)} {x1 : Int32} {x3 : Int32} {x4 : Int32} {w : wS} {r : (Int32 ⊕ String) × wS} (hG : aGood G) (E : EX Hf bx o) (hL : B_X9_behind_17 o kh17 ke40 x1 x3 x4 w = some r) (Hkh17 : ∀ (z0 : Int32) (z1 : Int32) (z2 : Int32) (w : wS), kh17 z0 z1 z2 w = some r → AG G M_X9_behind 17 [none, some (.int (z0)), some (.ref (bx + 30)), some (.int (z1)), some (.int (z2))] [] (Hf w) (xRv Hf r)) (Hke40 : ∀ (z0 : Int32) (w : wS), ke40 z0 w = some r → AG G M_X9_behind 40 [none, none, none, some (.int (z0)), none] [] (Hf w) (xRv Hf r)) : AG G M_X9_behind 17 [none, some (.int (x1)), some (.ref (bx + 30)), some (.int (x3)), some (.int (x4))] [] (Hf w) (xRv Hf r) := by
  unfold B_X9_behind_17 at hL
  refine g_iload dX9_behind_17 rfl ?_
  refine g_iload_n dX9_behind_19 rfl rfl ?_
  refine g_icmp_ge (tgt := 40) dX9_behind_20 (by decide) (fun q4 => ?_) (fun q4 => ?_)
  · rw [if_pos q4] at hL
    refine g_none 1 ?_
    refine g_none 2 ?_
    refine g_none 4 ?_
    exact Hke40 _ _ hL
  · rw [if_neg q4] at hL
    refine g_aload_n dX9_behind_23 rfl rfl ?_
    obtain ⟨w1, hc, hL⟩ := xB_some hL
    refine g_callV (M' := M_X1_oneDay) (as := []) (v := none) l_X9_234 kV_X1_oneDay (by decide) (C_X1_oneDay hG E hc) rfl (by have := E.1.1; omega) (E.1.2.1 _ 30 _ rfl) ⟨_, _, rfl⟩ (Nat.le_of_ble_eq_true rfl) dX9_behind_24 ?_
    refine g_iload_n dX9_behind_27 rfl rfl ?_
    refine g_none 3 ?_
    refine g_aload_n dX9_behind_28 rfl rfl ?_
    obtain ⟨v2, w3, hc, hL⟩ := xB2_some hL
    refine g_callV (M' := M_X1_behindToday) (as := []) (v := some (.int (v2))) l_X9_326 kV_X1_behindToday (by decide) (C_X1_behindToday hG E hc) rfl (by have := E.1.1; omega) (E.1.2.1 _ 30 _ rfl) ⟨_, _, rfl⟩ (Nat.le_of_ble_eq_true rfl) dX9_behind_29 ?_
    refine g_iadd dX9_behind_32 ?_
    refine g_istore_n (i := 3) dX9_behind_33 rfl (by decide) rfl ?_
    refine g_iincV (v := (x4 + 1)) dX9_behind_34 rfl rfl (by decide) rfl ?_
    refine g_goto (tgt := 17) dX9_behind_37 (by decide) ?_
    exact Hkh17 _ _ _ _ hL
def P_X9_behind_17 (o : wO) (ke40 : Int32 → wS → Option ((Int32 ⊕ String) × wS)) (n : Nat) (x1 : Int32) (x3 : Int32) (x4 : Int32) (w : wS) : Option ((Int32 ⊕ String) × wS) :=
  xLoop (fun (kk : Int32 × Int32 × Int32 × wS → Option ((Int32 ⊕ String) × wS)) σ => B_X9_behind_17 o (fun x1 x3 x4 w => kk (x1, x3, x4, w)) ke40 (σ.1) (σ.2.1) (σ.2.2.1) (σ.2.2.2)) n (x1, x3, x4, w)
theorem P_X9_behind_17_ok {G : aG} {Hf : wS → aH} {bx : Nat} {o : wO} {ke40 : Int32 → wS → Option ((Int32 ⊕ String) × wS)} {n : Nat} {x1 : Int32} {x3 : Int32} {x4 : Int32} {w : wS} {r : (Int32 ⊕ String) × wS} (hG : aGood G) (E : EX Hf bx o) (hL : P_X9_behind_17 o ke40 n x1 x3 x4 w = some r) (Hke40 : ∀ (z0 : Int32) (w : wS), ke40 z0 w = some r → AG G M_X9_behind 40 [none, none, none, some (.int (z0)), none] [] (Hf w) (xRv Hf r)) : AG G M_X9_behind 17 [none, some (.int (x1)), some (.ref (bx + 30)), some (.int (x3)), some (.int (x4))] [] (Hf w) (xRv Hf r) :=
  xLoop_ok (Q := fun (σ : Int32 × Int32 × Int32 × wS) => AG G M_X9_behind 17 [none, some (.int (σ.1)), some (.ref (bx + 30)), some (.int (σ.2.1)), some (.int (σ.2.2.1))] [] (Hf σ.2.2.2) (xRv Hf r)) (fun kk hk σ hσ => B_X9_behind_17_ok hG E hσ (fun x1 x3 x4 w h9 => hk (x1, x3, x4, w) h9) Hke40) n (x1, x3, x4, w) hL
def L_X9_behind (o : wO) (a1 : Int32) (w : wS) : Option ((Int32 ⊕ String) × wS) :=
  xBT (L_X9_needRange (a1) (0) (40)) (fun E9 => some (.inr E9, w)) (xB (L_X9_fromNow o  w) fun w5 => P_X9_behind_17 o (fun z6 w7 => some (.inl (z6), w7)) 5000 (a1) (0) (0) w5)
set_option maxRecDepth 20000 in
theorem C_X9_behind {G : aG} {Hf : wS → aH} {bx : Nat} {o : wO} {a1 : Int32} {w : wS} {r : (Int32 ⊕ String) × wS} (hG : aGood G) (E : EX Hf bx o) (hL : L_X9_behind o a1 w = some r) : AC G M_X9_behind [.ref (bx + 0), .int a1] (Hf w) (xRv Hf r) := by
  unfold L_X9_behind at hL
  refine AC.of (by decide) rfl (Nat.le_of_ble_eq_true rfl) ?_
  show AG G M_X9_behind 0 [some (.ref (bx + 0)), some (.int (a1)), none, none, none] [] _ _
  refine g_iload_n dX9_behind_0 rfl rfl ?_
  refine g_iconst (v := 0) dX9_behind_1 (by decide) ?_
  refine g_bipush (v := 40) dX9_behind_2 (by decide) ?_
  rcases xBT_some hL with ⟨hc, hL⟩ | ⟨E9, hc, hL⟩
  · refine g_callS (M' := M_X9_needRange) (as := [.int (a1), .int (0), .int (40)]) (v := none) l_X9_224 kS_X9_needRange (by decide) (C_X9_needRange hG hc) rfl (Nat.le_of_ble_eq_true rfl) dX9_behind_4 ?_
    refine g_aload_n dX9_behind_7 rfl rfl ?_
    refine g_none 0 ?_
    obtain ⟨w5, hc, hL⟩ := xB_some hL
    refine g_callV (M' := M_X9_fromNow) (as := []) (v := some (.ref (bx + 30))) l_X9_193 kV_X9_fromNow (by decide) (C_X9_fromNow hG E hc) rfl (by have := E.1.1; omega) (E.1.2.1 _ 0 _ rfl) ⟨_, _, rfl⟩ (Nat.le_of_ble_eq_true rfl) dX9_behind_8 ?_
    refine g_astore_n (i := 2) dX9_behind_11 rfl (by decide) rfl ?_
    refine g_iconst (v := 0) dX9_behind_12 (by decide) ?_
    refine g_istore_n (i := 3) dX9_behind_13 rfl (by decide) rfl ?_
    refine g_iconst (v := 0) dX9_behind_14 (by decide) ?_
    refine g_istore (i := 4) dX9_behind_15 (by decide) rfl ?_
    refine P_X9_behind_17_ok hG E hL ?_
    · intro z6 w7 hL
      refine g_iload_n dX9_behind_40 rfl rfl ?_
      refine g_none 3 ?_
      obtain rfl := Option.some.inj hL
      exact g_iret rfl dX9_behind_41
  · obtain rfl := Option.some.inj hL
    exact g_callSX (M' := M_X9_needRange) (as := [.int (a1), .int (0), .int (40)]) (E := E9) (aIn1 1037 (by decide +kernel) rfl) kS_X9_needRange (by decide) rfl (C_X9_needRange hG hc) rfl (Nat.le_of_ble_eq_true rfl) dX9_behind_4
def J_X9_most_62 (o : wO) (kh22 : Int32 → Int32 → wS → Option ((Int32 ⊕ String) × wS)) (ke68 : Int32 → wS → Option ((Int32 ⊕ String) × wS)) (x3 : Int32) (x4 : Int32) (w : wS) : Option ((Int32 ⊕ String) × wS) :=
  kh22 (x3) ((x4 + 1)) w
set_option maxRecDepth 20000 in
theorem J_X9_most_62_ok {G : aG} {Hf : wS → aH} {bx : Nat} {o : wO} {kh22 : Int32 → Int32 → wS → Option ((Int32 ⊕ String) × wS)} {ke68 : Int32 → wS → Option ((Int32 ⊕ String) × wS)} {x3 : Int32} {x4 : Int32} {w : wS} {r : (Int32 ⊕ String) × wS} (hG : aGood G) (E : EX Hf bx o) (hL : J_X9_most_62 o kh22 ke68 x3 x4 w = some r) (Hkh22 : ∀ (z0 : Int32) (z1 : Int32) (w : wS), kh22 z0 z1 w = some r → AG G M_X9_most 22 [some (.ref (bx + 0)), none, some (.ref (bx + 30)), some (.int (z0)), some (.int (z1))] [] (Hf w) (xRv Hf r)) (Hke68 : ∀ (z0 : Int32) (w : wS), ke68 z0 w = some r → AG G M_X9_most 68 [none, none, none, some (.int (z0)), none] [] (Hf w) (xRv Hf r)) : AG G M_X9_most 62 [some (.ref (bx + 0)), none, some (.ref (bx + 30)), some (.int (x3)), some (.int (x4))] [] (Hf w) (xRv Hf r) := by
  unfold J_X9_most_62 at hL
  refine g_iincV (v := (x4 + 1)) dX9_most_62 rfl rfl (by decide) rfl ?_
  refine g_goto (tgt := 22) dX9_most_65 (by decide) ?_
  exact Hkh22 _ _ _ hL
def J_X9_most_56 (o : wO) (kh22 : Int32 → Int32 → wS → Option ((Int32 ⊕ String) × wS)) (ke68 : Int32 → wS → Option ((Int32 ⊕ String) × wS)) (x3 : Int32) (x4 : Int32) (y0 : Int32) (y1 : Int32) (w : wS) : Option ((Int32 ⊕ String) × wS) :=
  if y0 ≤ y1 then J_X9_most_62 o kh22 ke68 (x3) (x4) w else J_X9_most_62 o kh22 ke68 (x4) (x4) w
set_option maxRecDepth 20000 in
theorem J_X9_most_56_ok {G : aG} {Hf : wS → aH} {bx : Nat} {o : wO} {kh22 : Int32 → Int32 → wS → Option ((Int32 ⊕ String) × wS)} {ke68 : Int32 → wS → Option ((Int32 ⊕ String) × wS)} {x3 : Int32} {x4 : Int32} {y0 : Int32} {y1 : Int32} {w : wS} {r : (Int32 ⊕ String) × wS} (hG : aGood G) (E : EX Hf bx o) (hL : J_X9_most_56 o kh22 ke68 x3 x4 y0 y1 w = some r) (Hkh22 : ∀ (z0 : Int32) (z1 : Int32) (w : wS), kh22 z0 z1 w = some r → AG G M_X9_most 22 [some (.ref (bx + 0)), none, some (.ref (bx + 30)), some (.int (z0)), some (.int (z1))] [] (Hf w) (xRv Hf r)) (Hke68 : ∀ (z0 : Int32) (w : wS), ke68 z0 w = some r → AG G M_X9_most 68 [none, none, none, some (.int (z0)), none] [] (Hf w) (xRv Hf r)) : AG G M_X9_most 56 [some (.ref (bx + 0)), none, some (.ref (bx + 30)), some (.int (x3)), some (.int (x4))] [.int (y1), .int (y0)] (Hf w) (xRv Hf r) := by
  unfold J_X9_most_56 at hL
  refine g_icmp_le (tgt := 62) dX9_most_56 (by decide) (fun q1 => ?_) (fun q1 => ?_)
  · rw [if_pos q1] at hL
    exact J_X9_most_62_ok hG E hL Hkh22 Hke68
  · rw [if_neg q1] at hL
    refine g_none 3 ?_
    refine g_iload dX9_most_59 rfl ?_
    refine g_istore_n (i := 3) dX9_most_61 rfl (by decide) rfl ?_
    exact J_X9_most_62_ok hG E hL Hkh22 Hke68
def B_X9_most_22 (o : wO) (kh22 : Int32 → Int32 → wS → Option ((Int32 ⊕ String) × wS)) (ke68 : Int32 → wS → Option ((Int32 ⊕ String) × wS)) (x3 : Int32) (x4 : Int32) (w : wS) : Option ((Int32 ⊕ String) × wS) :=
  xIf (xRef w 9 (oT o + 0)) (xB (xGet w 100006) fun v2 => if v2 ≤ x4 then ke68 (x3) w else xB (xAld w 34 8 (x4)) fun v3 => if x3 = (-1) then J_X9_most_56 o kh22 ke68 (x3) (x4) (v3) (0) w else xB (xAld w 34 8 (x3)) fun v4 => J_X9_most_56 o kh22 ke68 (x3) (x4) (v3) (v4) w)
set_option maxRecDepth 20000 in
theorem B_X9_most_22_ok {G : aG} {Hf : wS → aH} {bx : Nat} {o : wO} {kh22 : Int32 → Int32 → wS → Option ((Int32 ⊕ String) × wS)} {ke68 : Int32 → wS → Option ((Int32 ⊕ String) × wS)} {x3 : Int32} {x4 : Int32} {w : wS} {r : (Int32 ⊕ String) × wS} (hG : aGood G) (E : EX Hf bx o) (hL : B_X9_most_22 o kh22 ke68 x3 x4 w = some r) (Hkh22 : ∀ (z0 : Int32) (z1 : Int32) (w : wS), kh22 z0 z1 w = some r → AG G M_X9_most 22 [some (.ref (bx + 0)), none, some (.ref (bx + 30)), some (.int (z0)), some (.int (z1))] [] (Hf w) (xRv Hf r)) (Hke68 : ∀ (z0 : Int32) (w : wS), ke68 z0 w = some r → AG G M_X9_most 68 [none, none, none, some (.int (z0)), none] [] (Hf w) (xRv Hf r)) : AG G M_X9_most 22 [some (.ref (bx + 0)), none, some (.ref (bx + 30)), some (.int (x3)), some (.int (x4))] [] (Hf w) (xRv Hf r) := by
  unfold B_X9_most_22 at hL
  refine g_iload dX9_most_22 rfl ?_
  refine g_aload_n dX9_most_24 rfl rfl ?_
  refine s_getT (k := 0) (j := 9) E.1 hL rfl rfl f_X9_55 dX9_most_25 ?_
  intro hL
  refine s_getI (k := 0) (j := 6) E.2.1 hL rfl rfl f_X9_99 dX9_most_28 ?_
  intro v2 hL
  refine g_icmp_ge (tgt := 68) dX9_most_31 (by decide) (fun q6 => ?_) (fun q6 => ?_)
  · rw [if_pos q6] at hL
    refine g_none 0 ?_
    refine g_none 2 ?_
    refine g_none 4 ?_
    exact Hke68 _ _ hL
  · rw [if_neg q6] at hL
    refine g_aload_n dX9_most_34 rfl rfl ?_
    refine s_getR (k := 30) (j := 2) E.1 rfl rfl f_X9_240 dX9_most_35 ?_
    refine g_iload dX9_most_38 rfl ?_
    refine s_iald (k := 34) E.1 hL rfl dX9_most_40 ?_
    intro v3 hL
    refine g_iload_n dX9_most_41 rfl rfl ?_
    refine g_iconst (v := (-1)) dX9_most_42 (by decide) ?_
    refine g_icmp_ne (tgt := 50) dX9_most_43 (by decide) (fun q5 => ?_) (fun q5 => ?_)
    · rw [if_neg q5] at hL
      refine g_aload_n dX9_most_50 rfl rfl ?_
      refine s_getR (k := 30) (j := 2) E.1 rfl rfl f_X9_240 dX9_most_51 ?_
      refine g_iload_n dX9_most_54 rfl rfl ?_
      refine s_iald (k := 34) E.1 hL rfl dX9_most_55 ?_
      intro v4 hL
      exact J_X9_most_56_ok hG E hL Hkh22 Hke68
    · rw [if_pos q5] at hL
      refine g_iconst (v := 0) dX9_most_46 (by decide) ?_
      refine g_goto (tgt := 56) dX9_most_47 (by decide) ?_
      exact J_X9_most_56_ok hG E hL Hkh22 Hke68
def P_X9_most_22 (o : wO) (ke68 : Int32 → wS → Option ((Int32 ⊕ String) × wS)) (n : Nat) (x3 : Int32) (x4 : Int32) (w : wS) : Option ((Int32 ⊕ String) × wS) :=
  xLoop (fun (kk : Int32 × Int32 × wS → Option ((Int32 ⊕ String) × wS)) σ => B_X9_most_22 o (fun x3 x4 w => kk (x3, x4, w)) ke68 (σ.1) (σ.2.1) (σ.2.2)) n (x3, x4, w)
theorem P_X9_most_22_ok {G : aG} {Hf : wS → aH} {bx : Nat} {o : wO} {ke68 : Int32 → wS → Option ((Int32 ⊕ String) × wS)} {n : Nat} {x3 : Int32} {x4 : Int32} {w : wS} {r : (Int32 ⊕ String) × wS} (hG : aGood G) (E : EX Hf bx o) (hL : P_X9_most_22 o ke68 n x3 x4 w = some r) (Hke68 : ∀ (z0 : Int32) (w : wS), ke68 z0 w = some r → AG G M_X9_most 68 [none, none, none, some (.int (z0)), none] [] (Hf w) (xRv Hf r)) : AG G M_X9_most 22 [some (.ref (bx + 0)), none, some (.ref (bx + 30)), some (.int (x3)), some (.int (x4))] [] (Hf w) (xRv Hf r) :=
  xLoop_ok (Q := fun (σ : Int32 × Int32 × wS) => AG G M_X9_most 22 [some (.ref (bx + 0)), none, some (.ref (bx + 30)), some (.int (σ.1)), some (.int (σ.2.1))] [] (Hf σ.2.2) (xRv Hf r)) (fun kk hk σ hσ => B_X9_most_22_ok hG E hσ (fun x3 x4 w h9 => hk (x3, x4, w) h9) Hke68) n (x3, x4, w) hL
def L_X9_most (o : wO) (a1 : Int32) (w : wS) : Option ((Int32 ⊕ String) × wS) :=
  xBT (L_X9_needRange (a1) (1) (40)) (fun E9 => some (.inr E9, w)) (xB (L_X9_fromNow o  w) fun w7 => xB (L_X1_manyDays o (a1) w7) fun w8 => P_X9_most_22 o (fun z9 w10 => some (.inl (z9), w10)) 5000 ((-1)) (0) w8)
set_option maxRecDepth 20000 in
theorem C_X9_most {G : aG} {Hf : wS → aH} {bx : Nat} {o : wO} {a1 : Int32} {w : wS} {r : (Int32 ⊕ String) × wS} (hG : aGood G) (E : EX Hf bx o) (hL : L_X9_most o a1 w = some r) : AC G M_X9_most [.ref (bx + 0), .int a1] (Hf w) (xRv Hf r) := by
  unfold L_X9_most at hL
  refine AC.of (by decide) rfl (Nat.le_of_ble_eq_true rfl) ?_
  show AG G M_X9_most 0 [some (.ref (bx + 0)), some (.int (a1)), none, none, none] [] _ _
  refine g_iload_n dX9_most_0 rfl rfl ?_
  refine g_iconst (v := 1) dX9_most_1 (by decide) ?_
  refine g_bipush (v := 40) dX9_most_2 (by decide) ?_
  rcases xBT_some hL with ⟨hc, hL⟩ | ⟨E9, hc, hL⟩
  · refine g_callS (M' := M_X9_needRange) (as := [.int (a1), .int (1), .int (40)]) (v := none) l_X9_224 kS_X9_needRange (by decide) (C_X9_needRange hG hc) rfl (Nat.le_of_ble_eq_true rfl) dX9_most_4 ?_
    refine g_aload_n dX9_most_7 rfl rfl ?_
    obtain ⟨w7, hc, hL⟩ := xB_some hL
    refine g_callV (M' := M_X9_fromNow) (as := []) (v := some (.ref (bx + 30))) l_X9_193 kV_X9_fromNow (by decide) (C_X9_fromNow hG E hc) rfl (by have := E.1.1; omega) (E.1.2.1 _ 0 _ rfl) ⟨_, _, rfl⟩ (Nat.le_of_ble_eq_true rfl) dX9_most_8 ?_
    refine g_astore_n (i := 2) dX9_most_11 rfl (by decide) rfl ?_
    refine g_aload_n dX9_most_12 rfl rfl ?_
    refine g_iload_n dX9_most_13 rfl rfl ?_
    refine g_none 1 ?_
    obtain ⟨w8, hc, hL⟩ := xB_some hL
    refine g_callV (M' := M_X1_manyDays) (as := [.int (a1)]) (v := none) l_X9_197 kV_X1_manyDays (by decide) (C_X1_manyDays hG E hc) rfl (by have := E.1.1; omega) (E.1.2.1 _ 30 _ rfl) ⟨_, _, rfl⟩ (Nat.le_of_ble_eq_true rfl) dX9_most_14 ?_
    refine g_iconst (v := (-1)) dX9_most_17 (by decide) ?_
    refine g_istore_n (i := 3) dX9_most_18 rfl (by decide) rfl ?_
    refine g_iconst (v := 0) dX9_most_19 (by decide) ?_
    refine g_istore (i := 4) dX9_most_20 (by decide) rfl ?_
    refine P_X9_most_22_ok hG E hL ?_
    · intro z9 w10 hL
      refine g_iload_n dX9_most_68 rfl rfl ?_
      refine g_none 3 ?_
      obtain rfl := Option.some.inj hL
      exact g_iret rfl dX9_most_69
  · obtain rfl := Option.some.inj hL
    exact g_callSX (M' := M_X9_needRange) (as := [.int (a1), .int (1), .int (40)]) (E := E9) (aIn1 1037 (by decide +kernel) rfl) kS_X9_needRange (by decide) rfl (C_X9_needRange hG hc) rfl (Nat.le_of_ble_eq_true rfl) dX9_most_4
def B_X9_soonest_20 (o : wO) (kh20 : Int32 → Int32 → Int32 → wS → Option ((Int32 ⊕ String) × wS)) (ke41 : Int32 → wS → Option ((Int32 ⊕ String) × wS)) (ke50 : wS → Option ((Int32 ⊕ String) × wS)) (x1 : Int32) (x2 : Int32) (x4 : Int32) (w : wS) : Option ((Int32 ⊕ String) × wS) :=
  if 40 < x4 then ke50  w else xB (L_X1_oneDay o  w) fun w1 => xB (xAld w1 38 6 (x1)) fun v2 => if v2 < x2 then kh20 (x1) (x2) ((x4 + 1)) w1 else ke41 (x4) w1
set_option maxRecDepth 20000 in
theorem B_X9_soonest_20_ok {G : aG} {Hf : wS → aH} {bx : Nat} {o : wO} {kh20 : Int32 → Int32 → Int32 → wS → Option ((Int32 ⊕ String) × wS)} {ke41 : Int32 → wS → Option ((Int32 ⊕ String) × wS)} {ke50 : wS → Option ((Int32 ⊕ String) × wS)} {x1 : Int32} {x2 : Int32} {x4 : Int32} {w : wS} {r : (Int32 ⊕ String) × wS} (hG : aGood G) (E : EX Hf bx o) (hL : B_X9_soonest_20 o kh20 ke41 ke50 x1 x2 x4 w = some r) (Hkh20 : ∀ (z0 : Int32) (z1 : Int32) (z2 : Int32) (w : wS), kh20 z0 z1 z2 w = some r → AG G M_X9_soonest 20 [none, some (.int (z0)), some (.int (z1)), some (.ref (bx + 30)), some (.int (z2))] [] (Hf w) (xRv Hf r)) (Hke41 : ∀ (z0 : Int32) (w : wS), ke41 z0 w = some r → AG G M_X9_soonest 41 [none, none, none, none, some (.int (z0))] [] (Hf w) (xRv Hf r)) (Hke50 : ∀ (w : wS), ke50  w = some r → AG G M_X9_soonest 50 [none, none, none, none, none] [] (Hf w) (xRv Hf r)) : AG G M_X9_soonest 20 [none, some (.int (x1)), some (.int (x2)), some (.ref (bx + 30)), some (.int (x4))] [] (Hf w) (xRv Hf r) := by
  unfold B_X9_soonest_20 at hL
  refine g_iload dX9_soonest_20 rfl ?_
  refine g_bipush (v := 40) dX9_soonest_22 (by decide) ?_
  refine g_icmp_gt (tgt := 50) dX9_soonest_24 (by decide) (fun q4 => ?_) (fun q4 => ?_)
  · rw [if_pos q4] at hL
    refine g_none 1 ?_
    refine g_none 2 ?_
    refine g_none 3 ?_
    refine g_none 4 ?_
    exact Hke50  _ hL
  · rw [if_neg q4] at hL
    refine g_aload_n dX9_soonest_27 rfl rfl ?_
    obtain ⟨w1, hc, hL⟩ := xB_some hL
    refine g_callV (M' := M_X1_oneDay) (as := []) (v := none) l_X9_234 kV_X1_oneDay (by decide) (C_X1_oneDay hG E hc) rfl (by have := E.1.1; omega) (E.1.2.1 _ 30 _ rfl) ⟨_, _, rfl⟩ (Nat.le_of_ble_eq_true rfl) dX9_soonest_28 ?_
    refine g_aload_n dX9_soonest_31 rfl rfl ?_
    refine s_getR (k := 30) (j := 6) E.1 rfl rfl f_X9_228 dX9_soonest_32 ?_
    refine g_iload_n dX9_soonest_35 rfl rfl ?_
    refine s_iald (k := 38) E.1 hL rfl dX9_soonest_36 ?_
    intro v2 hL
    refine g_iload_n dX9_soonest_37 rfl rfl ?_
    refine g_icmp_lt (tgt := 44) dX9_soonest_38 (by decide) (fun q3 => ?_) (fun q3 => ?_)
    · rw [if_pos q3] at hL
      refine g_iincV (v := (x4 + 1)) dX9_soonest_44 rfl rfl (by decide) rfl ?_
      refine g_goto (tgt := 20) dX9_soonest_47 (by decide) ?_
      exact Hkh20 _ _ _ _ hL
    · rw [if_neg q3] at hL
      refine g_none 1 ?_
      refine g_none 2 ?_
      refine g_none 3 ?_
      exact Hke41 _ _ hL
def P_X9_soonest_20 (o : wO) (ke41 : Int32 → wS → Option ((Int32 ⊕ String) × wS)) (ke50 : wS → Option ((Int32 ⊕ String) × wS)) (n : Nat) (x1 : Int32) (x2 : Int32) (x4 : Int32) (w : wS) : Option ((Int32 ⊕ String) × wS) :=
  xLoop (fun (kk : Int32 × Int32 × Int32 × wS → Option ((Int32 ⊕ String) × wS)) σ => B_X9_soonest_20 o (fun x1 x2 x4 w => kk (x1, x2, x4, w)) ke41 ke50 (σ.1) (σ.2.1) (σ.2.2.1) (σ.2.2.2)) n (x1, x2, x4, w)
theorem P_X9_soonest_20_ok {G : aG} {Hf : wS → aH} {bx : Nat} {o : wO} {ke41 : Int32 → wS → Option ((Int32 ⊕ String) × wS)} {ke50 : wS → Option ((Int32 ⊕ String) × wS)} {n : Nat} {x1 : Int32} {x2 : Int32} {x4 : Int32} {w : wS} {r : (Int32 ⊕ String) × wS} (hG : aGood G) (E : EX Hf bx o) (hL : P_X9_soonest_20 o ke41 ke50 n x1 x2 x4 w = some r) (Hke41 : ∀ (z0 : Int32) (w : wS), ke41 z0 w = some r → AG G M_X9_soonest 41 [none, none, none, none, some (.int (z0))] [] (Hf w) (xRv Hf r)) (Hke50 : ∀ (w : wS), ke50  w = some r → AG G M_X9_soonest 50 [none, none, none, none, none] [] (Hf w) (xRv Hf r)) : AG G M_X9_soonest 20 [none, some (.int (x1)), some (.int (x2)), some (.ref (bx + 30)), some (.int (x4))] [] (Hf w) (xRv Hf r) :=
  xLoop_ok (Q := fun (σ : Int32 × Int32 × Int32 × wS) => AG G M_X9_soonest 20 [none, some (.int (σ.1)), some (.int (σ.2.1)), some (.ref (bx + 30)), some (.int (σ.2.2.1))] [] (Hf σ.2.2.2) (xRv Hf r)) (fun kk hk σ hσ => B_X9_soonest_20_ok hG E hσ (fun x1 x2 x4 w h9 => hk (x1, x2, x4, w) h9) Hke41 Hke50) n (x1, x2, x4, w) hL
def L_X9_soonest (o : wO) (a1 : Int32) (a2 : Int32) (w : wS) : Option ((Int32 ⊕ String) × wS) :=
  xBT (L_X9_needDuty o (a1) w) (fun E9 => some (.inr E9, w)) (xBT (L_X9_needRange (a2) (0) (120)) (fun E9 => some (.inr E9, w)) (xB (L_X9_fromNow o  w) fun w5 => P_X9_soonest_20 o (fun z6 w7 => some (.inl (z6), w7)) (fun w8 => some (.inl ((-1)), w8)) 5000 (a1) (a2) (1) w5))
set_option maxRecDepth 20000 in
theorem C_X9_soonest {G : aG} {Hf : wS → aH} {bx : Nat} {o : wO} {a1 : Int32} {a2 : Int32} {w : wS} {r : (Int32 ⊕ String) × wS} (hG : aGood G) (E : EX Hf bx o) (hL : L_X9_soonest o a1 a2 w = some r) : AC G M_X9_soonest [.ref (bx + 0), .int a1, .int a2] (Hf w) (xRv Hf r) := by
  unfold L_X9_soonest at hL
  refine AC.of (by decide) rfl (Nat.le_of_ble_eq_true rfl) ?_
  show AG G M_X9_soonest 0 [some (.ref (bx + 0)), some (.int (a1)), some (.int (a2)), none, none] [] _ _
  refine g_aload_n dX9_soonest_0 rfl rfl ?_
  refine g_iload_n dX9_soonest_1 rfl rfl ?_
  rcases xBT_some hL with ⟨hc, hL⟩ | ⟨E9, hc, hL⟩
  · refine g_callV (M' := M_X9_needDuty) (as := [.int (a1)]) (v := none) l_X9_175 kV_X9_needDuty (by decide) (C_X9_needDuty hG E hc) rfl (by have := E.1.1; omega) (E.1.2.1 _ 0 _ rfl) ⟨_, _, rfl⟩ (Nat.le_of_ble_eq_true rfl) dX9_soonest_2 ?_
    refine g_iload_n dX9_soonest_5 rfl rfl ?_
    refine g_iconst (v := 0) dX9_soonest_6 (by decide) ?_
    refine g_bipush (v := 120) dX9_soonest_7 (by decide) ?_
    rcases xBT_some hL with ⟨hc, hL⟩ | ⟨E9, hc, hL⟩
    · refine g_callS (M' := M_X9_needRange) (as := [.int (a2), .int (0), .int (120)]) (v := none) l_X9_224 kS_X9_needRange (by decide) (C_X9_needRange hG hc) rfl (Nat.le_of_ble_eq_true rfl) dX9_soonest_9 ?_
      refine g_aload_n dX9_soonest_12 rfl rfl ?_
      refine g_none 0 ?_
      obtain ⟨w5, hc, hL⟩ := xB_some hL
      refine g_callV (M' := M_X9_fromNow) (as := []) (v := some (.ref (bx + 30))) l_X9_193 kV_X9_fromNow (by decide) (C_X9_fromNow hG E hc) rfl (by have := E.1.1; omega) (E.1.2.1 _ 0 _ rfl) ⟨_, _, rfl⟩ (Nat.le_of_ble_eq_true rfl) dX9_soonest_13 ?_
      refine g_astore_n (i := 3) dX9_soonest_16 rfl (by decide) rfl ?_
      refine g_iconst (v := 1) dX9_soonest_17 (by decide) ?_
      refine g_istore (i := 4) dX9_soonest_18 (by decide) rfl ?_
      refine P_X9_soonest_20_ok hG E hL ?_ ?_
      · intro z6 w7 hL
        refine g_iload dX9_soonest_41 rfl ?_
        refine g_none 4 ?_
        obtain rfl := Option.some.inj hL
        exact g_iret rfl dX9_soonest_43
      · intro w8 hL
        refine g_iconst (v := (-1)) dX9_soonest_50 (by decide) ?_
        obtain rfl := Option.some.inj hL
        exact g_iret rfl dX9_soonest_51
    · obtain rfl := Option.some.inj hL
      exact g_callSX (M' := M_X9_needRange) (as := [.int (a2), .int (0), .int (120)]) (E := E9) (aIn1 1037 (by decide +kernel) rfl) kS_X9_needRange (by decide) rfl (C_X9_needRange hG hc) rfl (Nat.le_of_ble_eq_true rfl) dX9_soonest_9
  · obtain rfl := Option.some.inj hL
    exact g_callVX (M' := M_X9_needDuty) (as := [.int (a1)]) (E := E9) (aIn1 972 (by decide +kernel) rfl) kV_X9_needDuty (by decide) rfl (C_X9_needDuty hG E hc) rfl (by have := E.1.1; omega) (E.1.2.1 _ 0 _ rfl) ⟨_, _, rfl⟩ (Nat.le_of_ble_eq_true rfl) dX9_soonest_2
def J_X9_handed_62 (o : wO) (kh30 : Int32 → Int32 → Int32 → Int32 → wS → Option ((Int32 ⊕ String) × wS)) (ke68 : Int32 → Int32 → Int32 → wS → Option ((Int32 ⊕ String) × wS)) (x1 : Int32) (x3 : Int32) (x4 : Int32) (x5 : Int32) (w : wS) : Option ((Int32 ⊕ String) × wS) :=
  kh30 (x1) (x3) (x4) ((x5 + 1)) w
set_option maxRecDepth 20000 in
theorem J_X9_handed_62_ok {G : aG} {Hf : wS → aH} {bx : Nat} {o : wO} {kh30 : Int32 → Int32 → Int32 → Int32 → wS → Option ((Int32 ⊕ String) × wS)} {ke68 : Int32 → Int32 → Int32 → wS → Option ((Int32 ⊕ String) × wS)} {x1 : Int32} {x3 : Int32} {x4 : Int32} {x5 : Int32} {w : wS} {r : (Int32 ⊕ String) × wS} (hG : aGood G) (E : EX Hf bx o) (hL : J_X9_handed_62 o kh30 ke68 x1 x3 x4 x5 w = some r) (Hkh30 : ∀ (z0 : Int32) (z1 : Int32) (z2 : Int32) (z3 : Int32) (w : wS), kh30 z0 z1 z2 z3 w = some r → AG G M_X9_handed 30 [some (.ref (bx + 0)), some (.int (z0)), some (.ref (bx + 30)), some (.int (z1)), some (.int (z2)), some (.int (z3))] [] (Hf w) (xRv Hf r)) (Hke68 : ∀ (z0 : Int32) (z1 : Int32) (z2 : Int32) (w : wS), ke68 z0 z1 z2 w = some r → AG G M_X9_handed 68 [some (.ref (bx + 0)), some (.int (z0)), some (.ref (bx + 30)), some (.int (z1)), some (.int (z2)), none] [] (Hf w) (xRv Hf r)) : AG G M_X9_handed 62 [some (.ref (bx + 0)), some (.int (x1)), some (.ref (bx + 30)), some (.int (x3)), some (.int (x4)), some (.int (x5))] [] (Hf w) (xRv Hf r) := by
  unfold J_X9_handed_62 at hL
  refine g_iincV (v := (x5 + 1)) dX9_handed_62 rfl rfl (by decide) rfl ?_
  refine g_goto (tgt := 30) dX9_handed_65 (by decide) ?_
  exact Hkh30 _ _ _ _ _ hL
def B_X9_handed_30 (o : wO) (kh30 : Int32 → Int32 → Int32 → Int32 → wS → Option ((Int32 ⊕ String) × wS)) (ke68 : Int32 → Int32 → Int32 → wS → Option ((Int32 ⊕ String) × wS)) (x1 : Int32) (x3 : Int32) (x4 : Int32) (x5 : Int32) (w : wS) : Option ((Int32 ⊕ String) × wS) :=
  xIf (xRef w 9 (oT o + 0)) (xB (xGet w 100007) fun v1 => if v1 ≤ x5 then ke68 (x1) (x3) (x4) w else xB (xAld w 37 6 (x5)) fun v2 => xB (xAld w 39 6 (x5)) fun v3 => if v2 = v3 then J_X9_handed_62 o kh30 ke68 (x1) (x3) (x4) (x5) w else J_X9_handed_62 o kh30 ke68 (x1) ((x3 + 1)) (x4) (x5) w)
set_option maxRecDepth 20000 in
theorem B_X9_handed_30_ok {G : aG} {Hf : wS → aH} {bx : Nat} {o : wO} {kh30 : Int32 → Int32 → Int32 → Int32 → wS → Option ((Int32 ⊕ String) × wS)} {ke68 : Int32 → Int32 → Int32 → wS → Option ((Int32 ⊕ String) × wS)} {x1 : Int32} {x3 : Int32} {x4 : Int32} {x5 : Int32} {w : wS} {r : (Int32 ⊕ String) × wS} (hG : aGood G) (E : EX Hf bx o) (hL : B_X9_handed_30 o kh30 ke68 x1 x3 x4 x5 w = some r) (Hkh30 : ∀ (z0 : Int32) (z1 : Int32) (z2 : Int32) (z3 : Int32) (w : wS), kh30 z0 z1 z2 z3 w = some r → AG G M_X9_handed 30 [some (.ref (bx + 0)), some (.int (z0)), some (.ref (bx + 30)), some (.int (z1)), some (.int (z2)), some (.int (z3))] [] (Hf w) (xRv Hf r)) (Hke68 : ∀ (z0 : Int32) (z1 : Int32) (z2 : Int32) (w : wS), ke68 z0 z1 z2 w = some r → AG G M_X9_handed 68 [some (.ref (bx + 0)), some (.int (z0)), some (.ref (bx + 30)), some (.int (z1)), some (.int (z2)), none] [] (Hf w) (xRv Hf r)) : AG G M_X9_handed 30 [some (.ref (bx + 0)), some (.int (x1)), some (.ref (bx + 30)), some (.int (x3)), some (.int (x4)), some (.int (x5))] [] (Hf w) (xRv Hf r) := by
  unfold B_X9_handed_30 at hL
  refine g_iload dX9_handed_30 rfl ?_
  refine g_aload_n dX9_handed_32 rfl rfl ?_
  refine s_getT (k := 0) (j := 9) E.1 hL rfl rfl f_X9_55 dX9_handed_33 ?_
  intro hL
  refine s_getI (k := 0) (j := 7) E.2.1 hL rfl rfl f_X9_102 dX9_handed_36 ?_
  intro v1 hL
  refine g_icmp_ge (tgt := 68) dX9_handed_39 (by decide) (fun q5 => ?_) (fun q5 => ?_)
  · rw [if_pos q5] at hL
    refine g_none 5 ?_
    exact Hke68 _ _ _ _ hL
  · rw [if_neg q5] at hL
    refine g_aload_n dX9_handed_42 rfl rfl ?_
    refine s_getR (k := 30) (j := 5) E.1 rfl rfl f_X9_355 dX9_handed_43 ?_
    refine g_iload dX9_handed_46 rfl ?_
    refine s_iald (k := 37) E.1 hL rfl dX9_handed_48 ?_
    intro v2 hL
    refine g_aload_n dX9_handed_49 rfl rfl ?_
    refine s_getR (k := 30) (j := 7) E.1 rfl rfl f_X9_231 dX9_handed_50 ?_
    refine g_iload dX9_handed_53 rfl ?_
    refine s_iald (k := 39) E.1 hL rfl dX9_handed_55 ?_
    intro v3 hL
    refine g_icmp_eq (tgt := 62) dX9_handed_56 (by decide) (fun q4 => ?_) (fun q4 => ?_)
    · rw [if_pos q4] at hL
      exact J_X9_handed_62_ok hG E hL Hkh30 Hke68
    · rw [if_neg q4] at hL
      refine g_iincV (v := (x3 + 1)) dX9_handed_59 rfl rfl (by decide) rfl ?_
      exact J_X9_handed_62_ok hG E hL Hkh30 Hke68
def P_X9_handed_30 (o : wO) (ke68 : Int32 → Int32 → Int32 → wS → Option ((Int32 ⊕ String) × wS)) (n : Nat) (x1 : Int32) (x3 : Int32) (x4 : Int32) (x5 : Int32) (w : wS) : Option ((Int32 ⊕ String) × wS) :=
  xLoop (fun (kk : Int32 × Int32 × Int32 × Int32 × wS → Option ((Int32 ⊕ String) × wS)) σ => B_X9_handed_30 o (fun x1 x3 x4 x5 w => kk (x1, x3, x4, x5, w)) ke68 (σ.1) (σ.2.1) (σ.2.2.1) (σ.2.2.2.1) (σ.2.2.2.2)) n (x1, x3, x4, x5, w)
theorem P_X9_handed_30_ok {G : aG} {Hf : wS → aH} {bx : Nat} {o : wO} {ke68 : Int32 → Int32 → Int32 → wS → Option ((Int32 ⊕ String) × wS)} {n : Nat} {x1 : Int32} {x3 : Int32} {x4 : Int32} {x5 : Int32} {w : wS} {r : (Int32 ⊕ String) × wS} (hG : aGood G) (E : EX Hf bx o) (hL : P_X9_handed_30 o ke68 n x1 x3 x4 x5 w = some r) (Hke68 : ∀ (z0 : Int32) (z1 : Int32) (z2 : Int32) (w : wS), ke68 z0 z1 z2 w = some r → AG G M_X9_handed 68 [some (.ref (bx + 0)), some (.int (z0)), some (.ref (bx + 30)), some (.int (z1)), some (.int (z2)), none] [] (Hf w) (xRv Hf r)) : AG G M_X9_handed 30 [some (.ref (bx + 0)), some (.int (x1)), some (.ref (bx + 30)), some (.int (x3)), some (.int (x4)), some (.int (x5))] [] (Hf w) (xRv Hf r) :=
  xLoop_ok (Q := fun (σ : Int32 × Int32 × Int32 × Int32 × wS) => AG G M_X9_handed 30 [some (.ref (bx + 0)), some (.int (σ.1)), some (.ref (bx + 30)), some (.int (σ.2.1)), some (.int (σ.2.2.1)), some (.int (σ.2.2.2.1))] [] (Hf σ.2.2.2.2) (xRv Hf r)) (fun kk hk σ hσ => B_X9_handed_30_ok hG E hσ (fun x1 x3 x4 x5 w h9 => hk (x1, x3, x4, x5, w) h9) Hke68) n (x1, x3, x4, x5, w) hL
def B_X9_handed_17 (o : wO) (kh17 : Int32 → Int32 → Int32 → wS → Option ((Int32 ⊕ String) × wS)) (ke74 : Int32 → wS → Option ((Int32 ⊕ String) × wS)) (x1 : Int32) (x3 : Int32) (x4 : Int32) (w : wS) : Option ((Int32 ⊕ String) × wS) :=
  if x1 ≤ x4 then ke74 (x3) w else xB (L_X1_oneDay o  w) fun w6 => P_X9_handed_30 o (fun z7 z8 z9 w10 => kh17 (z7) (z8) ((z9 + 1)) w10) 5000 (x1) (x3) (x4) (0) w6
set_option maxRecDepth 20000 in
theorem B_X9_handed_17_ok {G : aG} {Hf : wS → aH} {bx : Nat} {o : wO} {kh17 : Int32 → Int32 → Int32 → wS → Option ((Int32 ⊕ String) × wS)} {ke74 : Int32 → wS → Option ((Int32 ⊕ String) × wS)} {x1 : Int32} {x3 : Int32} {x4 : Int32} {w : wS} {r : (Int32 ⊕ String) × wS} (hG : aGood G) (E : EX Hf bx o) (hL : B_X9_handed_17 o kh17 ke74 x1 x3 x4 w = some r) (Hkh17 : ∀ (z0 : Int32) (z1 : Int32) (z2 : Int32) (w : wS), kh17 z0 z1 z2 w = some r → AG G M_X9_handed 17 [some (.ref (bx + 0)), some (.int (z0)), some (.ref (bx + 30)), some (.int (z1)), some (.int (z2)), none] [] (Hf w) (xRv Hf r)) (Hke74 : ∀ (z0 : Int32) (w : wS), ke74 z0 w = some r → AG G M_X9_handed 74 [none, none, none, some (.int (z0)), none, none] [] (Hf w) (xRv Hf r)) : AG G M_X9_handed 17 [some (.ref (bx + 0)), some (.int (x1)), some (.ref (bx + 30)), some (.int (x3)), some (.int (x4)), none] [] (Hf w) (xRv Hf r) := by
  unfold B_X9_handed_17 at hL
  refine g_iload dX9_handed_17 rfl ?_
  refine g_iload_n dX9_handed_19 rfl rfl ?_
  refine g_icmp_ge (tgt := 74) dX9_handed_20 (by decide) (fun q11 => ?_) (fun q11 => ?_)
  · rw [if_pos q11] at hL
    refine g_none 0 ?_
    refine g_none 1 ?_
    refine g_none 2 ?_
    refine g_none 4 ?_
    exact Hke74 _ _ hL
  · rw [if_neg q11] at hL
    refine g_aload_n dX9_handed_23 rfl rfl ?_
    obtain ⟨w6, hc, hL⟩ := xB_some hL
    refine g_callV (M' := M_X1_oneDay) (as := []) (v := none) l_X9_234 kV_X1_oneDay (by decide) (C_X1_oneDay hG E hc) rfl (by have := E.1.1; omega) (E.1.2.1 _ 30 _ rfl) ⟨_, _, rfl⟩ (Nat.le_of_ble_eq_true rfl) dX9_handed_24 ?_
    refine g_iconst (v := 0) dX9_handed_27 (by decide) ?_
    refine g_istore (i := 5) dX9_handed_28 (by decide) rfl ?_
    refine P_X9_handed_30_ok hG E hL ?_
    · intro z7 z8 z9 w10 hL
      refine g_iincV (v := (z9 + 1)) dX9_handed_68 rfl rfl (by decide) rfl ?_
      refine g_goto (tgt := 17) dX9_handed_71 (by decide) ?_
      exact Hkh17 _ _ _ _ hL
def P_X9_handed_17 (o : wO) (ke74 : Int32 → wS → Option ((Int32 ⊕ String) × wS)) (n : Nat) (x1 : Int32) (x3 : Int32) (x4 : Int32) (w : wS) : Option ((Int32 ⊕ String) × wS) :=
  xLoop (fun (kk : Int32 × Int32 × Int32 × wS → Option ((Int32 ⊕ String) × wS)) σ => B_X9_handed_17 o (fun x1 x3 x4 w => kk (x1, x3, x4, w)) ke74 (σ.1) (σ.2.1) (σ.2.2.1) (σ.2.2.2)) n (x1, x3, x4, w)
theorem P_X9_handed_17_ok {G : aG} {Hf : wS → aH} {bx : Nat} {o : wO} {ke74 : Int32 → wS → Option ((Int32 ⊕ String) × wS)} {n : Nat} {x1 : Int32} {x3 : Int32} {x4 : Int32} {w : wS} {r : (Int32 ⊕ String) × wS} (hG : aGood G) (E : EX Hf bx o) (hL : P_X9_handed_17 o ke74 n x1 x3 x4 w = some r) (Hke74 : ∀ (z0 : Int32) (w : wS), ke74 z0 w = some r → AG G M_X9_handed 74 [none, none, none, some (.int (z0)), none, none] [] (Hf w) (xRv Hf r)) : AG G M_X9_handed 17 [some (.ref (bx + 0)), some (.int (x1)), some (.ref (bx + 30)), some (.int (x3)), some (.int (x4)), none] [] (Hf w) (xRv Hf r) :=
  xLoop_ok (Q := fun (σ : Int32 × Int32 × Int32 × wS) => AG G M_X9_handed 17 [some (.ref (bx + 0)), some (.int (σ.1)), some (.ref (bx + 30)), some (.int (σ.2.1)), some (.int (σ.2.2.1)), none] [] (Hf σ.2.2.2) (xRv Hf r)) (fun kk hk σ hσ => B_X9_handed_17_ok hG E hσ (fun x1 x3 x4 w h9 => hk (x1, x3, x4, w) h9) Hke74) n (x1, x3, x4, w) hL
def L_X9_handed (o : wO) (a1 : Int32) (w : wS) : Option ((Int32 ⊕ String) × wS) :=
  xBT (L_X9_needRange (a1) (0) (40)) (fun E9 => some (.inr E9, w)) (xB (L_X9_fromNow o  w) fun w12 => P_X9_handed_17 o (fun z13 w14 => some (.inl (z13), w14)) 5000 (a1) (0) (0) w12)
set_option maxRecDepth 20000 in
theorem C_X9_handed {G : aG} {Hf : wS → aH} {bx : Nat} {o : wO} {a1 : Int32} {w : wS} {r : (Int32 ⊕ String) × wS} (hG : aGood G) (E : EX Hf bx o) (hL : L_X9_handed o a1 w = some r) : AC G M_X9_handed [.ref (bx + 0), .int a1] (Hf w) (xRv Hf r) := by
  unfold L_X9_handed at hL
  refine AC.of (by decide) rfl (Nat.le_of_ble_eq_true rfl) ?_
  show AG G M_X9_handed 0 [some (.ref (bx + 0)), some (.int (a1)), none, none, none, none] [] _ _
  refine g_iload_n dX9_handed_0 rfl rfl ?_
  refine g_iconst (v := 0) dX9_handed_1 (by decide) ?_
  refine g_bipush (v := 40) dX9_handed_2 (by decide) ?_
  rcases xBT_some hL with ⟨hc, hL⟩ | ⟨E9, hc, hL⟩
  · refine g_callS (M' := M_X9_needRange) (as := [.int (a1), .int (0), .int (40)]) (v := none) l_X9_224 kS_X9_needRange (by decide) (C_X9_needRange hG hc) rfl (Nat.le_of_ble_eq_true rfl) dX9_handed_4 ?_
    refine g_aload_n dX9_handed_7 rfl rfl ?_
    obtain ⟨w12, hc, hL⟩ := xB_some hL
    refine g_callV (M' := M_X9_fromNow) (as := []) (v := some (.ref (bx + 30))) l_X9_193 kV_X9_fromNow (by decide) (C_X9_fromNow hG E hc) rfl (by have := E.1.1; omega) (E.1.2.1 _ 0 _ rfl) ⟨_, _, rfl⟩ (Nat.le_of_ble_eq_true rfl) dX9_handed_8 ?_
    refine g_astore_n (i := 2) dX9_handed_11 rfl (by decide) rfl ?_
    refine g_iconst (v := 0) dX9_handed_12 (by decide) ?_
    refine g_istore_n (i := 3) dX9_handed_13 rfl (by decide) rfl ?_
    refine g_iconst (v := 0) dX9_handed_14 (by decide) ?_
    refine g_istore (i := 4) dX9_handed_15 (by decide) rfl ?_
    refine P_X9_handed_17_ok hG E hL ?_
    · intro z13 w14 hL
      refine g_iload_n dX9_handed_74 rfl rfl ?_
      refine g_none 3 ?_
      obtain rfl := Option.some.inj hL
      exact g_iret rfl dX9_handed_75
  · obtain rfl := Option.some.inj hL
    exact g_callSX (M' := M_X9_needRange) (as := [.int (a1), .int (0), .int (40)]) (E := E9) (aIn1 1037 (by decide +kernel) rfl) kS_X9_needRange (by decide) rfl (C_X9_needRange hG hc) rfl (Nat.le_of_ble_eq_true rfl) dX9_handed_4
def L_X5_copyFrom_x22_x13 (o : wO) (w : wS) : Option (wS) :=
  xB (xCpy w 14 23 33 33 (0) (0) (33)) fun w1 => some w1
set_option maxRecDepth 20000 in
theorem C_X5_copyFrom_x22_x13 {G : aG} {Hf : wS → aH} {bx : Nat} {o : wO} {w : wS} {r : wS} (hG : aGood G) (E : EX Hf bx o) (hL : L_X5_copyFrom_x22_x13 o  w = some r) : AC G M_X5_copyFrom [.ref (bx + 22), .ref (bx + 13)] (Hf w) (.inl none, Hf r) := by
  unfold L_X5_copyFrom_x22_x13 at hL
  refine AC.of (by decide) rfl (Nat.le_of_ble_eq_true rfl) ?_
  show AG G M_X5_copyFrom 0 [some (.ref (bx + 22)), some (.ref (bx + 13))] [] _ _
  refine g_aload_n dX5_copyFrom_0 rfl rfl ?_
  refine g_none 1 ?_
  refine s_getR (k := 13) (j := 0) E.1 rfl rfl f_X5_11 dX5_copyFrom_1 ?_
  refine g_iconst (v := 0) dX5_copyFrom_4 (by decide) ?_
  refine g_aload_n dX5_copyFrom_5 rfl rfl ?_
  refine g_none 0 ?_
  refine s_getR (k := 22) (j := 0) E.1 rfl rfl f_X5_11 dX5_copyFrom_6 ?_
  refine g_iconst (v := 0) dX5_copyFrom_9 (by decide) ?_
  refine g_bipush (v := 33) dX5_copyFrom_10 (by decide) ?_
  refine s_copy (k0 := 14) (k1 := 23) E.1 E.1 hL rfl rfl (aIn1 450 (by decide +kernel) rfl) ac_nat ac_sta ac_ini (by decide) (Nat.le_of_ble_eq_true rfl) dX5_copyFrom_12 ?_
  intro w1 hL
  obtain rfl := Option.some.inj hL
  exact g_vret rfl dX5_copyFrom_15
def L_X0_copyFrom_x24_x15 (o : wO) (w : wS) : Option (wS) :=
  xB (xCpy w 16 25 1320 1320 (0) (0) (1320)) fun w1 => xB (xGet w1 1501) fun v2 => xB (xPut w1 2401 (v2)) fun w3 => xB (xGet w3 1502) fun v4 => xB (xPut w3 2402 (v4)) fun w5 => some w5
set_option maxRecDepth 20000 in
theorem C_X0_copyFrom_x24_x15 {G : aG} {Hf : wS → aH} {bx : Nat} {o : wO} {w : wS} {r : wS} (hG : aGood G) (E : EX Hf bx o) (hL : L_X0_copyFrom_x24_x15 o  w = some r) : AC G M_X0_copyFrom [.ref (bx + 24), .ref (bx + 15)] (Hf w) (.inl none, Hf r) := by
  unfold L_X0_copyFrom_x24_x15 at hL
  refine AC.of (by decide) rfl (Nat.le_of_ble_eq_true rfl) ?_
  show AG G M_X0_copyFrom 0 [some (.ref (bx + 24)), some (.ref (bx + 15))] [] _ _
  refine g_aload_n dX0_copyFrom_0 rfl rfl ?_
  refine s_getR (k := 15) (j := 0) E.1 rfl rfl f_X0_11 dX0_copyFrom_1 ?_
  refine g_iconst (v := 0) dX0_copyFrom_4 (by decide) ?_
  refine g_aload_n dX0_copyFrom_5 rfl rfl ?_
  refine s_getR (k := 24) (j := 0) E.1 rfl rfl f_X0_11 dX0_copyFrom_6 ?_
  refine g_iconst (v := 0) dX0_copyFrom_9 (by decide) ?_
  refine g_aload_n dX0_copyFrom_10 rfl rfl ?_
  refine s_getR (k := 24) (j := 0) E.1 rfl rfl f_X0_11 dX0_copyFrom_11 ?_
  refine g_alen (v := 1320) dX0_copyFrom_14 (by have := E.1.1; omega) (show 0 < 4 by decide) (E.1.2.1 _ 25 _ rfl) rfl ?_
  refine s_copy (k0 := 16) (k1 := 25) E.1 E.1 hL rfl rfl (aIn1 633 (by decide +kernel) rfl) ac_nat ac_sta ac_ini (by decide) (Nat.le_of_ble_eq_true rfl) dX0_copyFrom_15 ?_
  intro w1 hL
  refine g_aload_n dX0_copyFrom_18 rfl rfl ?_
  refine g_aload_n dX0_copyFrom_19 rfl rfl ?_
  refine s_getI (k := 15) (j := 1) E.1 hL rfl rfl f_X0_17 dX0_copyFrom_20 ?_
  intro v2 hL
  refine s_putI (k := 24) (j := 1) E.1 hL rfl rfl (by decide) fw_X0_17 rfl rfl dX0_copyFrom_23 ?_
  intro w3 hL
  refine g_aload_n dX0_copyFrom_26 rfl rfl ?_
  refine g_none 0 ?_
  refine g_aload_n dX0_copyFrom_27 rfl rfl ?_
  refine g_none 1 ?_
  refine s_getI (k := 15) (j := 2) E.1 hL rfl rfl f_X0_21 dX0_copyFrom_28 ?_
  intro v4 hL
  refine s_putI (k := 24) (j := 2) E.1 hL rfl rfl (by decide) fw_X0_21 rfl rfl dX0_copyFrom_31 ?_
  intro w5 hL
  obtain rfl := Option.some.inj hL
  exact g_vret rfl dX0_copyFrom_34
def L_X4_copyFrom_x26_x17 (o : wO) (w : wS) : Option (wS) :=
  xB (xCpy w 18 27 8 8 (0) (0) (8)) fun w1 => xB (xCpy w1 19 28 8 8 (0) (0) (8)) fun w2 => xB (xCpy w2 20 29 8 8 (0) (0) (8)) fun w3 => xB (xGet w3 1703) fun v4 => xB (xPut w3 2603 (v4)) fun w5 => some w5
set_option maxRecDepth 20000 in
theorem C_X4_copyFrom_x26_x17 {G : aG} {Hf : wS → aH} {bx : Nat} {o : wO} {w : wS} {r : wS} (hG : aGood G) (E : EX Hf bx o) (hL : L_X4_copyFrom_x26_x17 o  w = some r) : AC G M_X4_copyFrom [.ref (bx + 26), .ref (bx + 17)] (Hf w) (.inl none, Hf r) := by
  unfold L_X4_copyFrom_x26_x17 at hL
  refine AC.of (by decide) rfl (Nat.le_of_ble_eq_true rfl) ?_
  show AG G M_X4_copyFrom 0 [some (.ref (bx + 26)), some (.ref (bx + 17))] [] _ _
  refine g_aload_n dX4_copyFrom_0 rfl rfl ?_
  refine s_getR (k := 17) (j := 0) E.1 rfl rfl f_X4_9 dX4_copyFrom_1 ?_
  refine g_iconst (v := 0) dX4_copyFrom_4 (by decide) ?_
  refine g_aload_n dX4_copyFrom_5 rfl rfl ?_
  refine s_getR (k := 26) (j := 0) E.1 rfl rfl f_X4_9 dX4_copyFrom_6 ?_
  refine g_iconst (v := 0) dX4_copyFrom_9 (by decide) ?_
  refine g_bipush (v := 8) dX4_copyFrom_10 (by decide) ?_
  refine s_copy (k0 := 18) (k1 := 27) E.1 E.1 hL rfl rfl (aIn1 638 (by decide +kernel) rfl) ac_nat ac_sta ac_ini (by decide) (Nat.le_of_ble_eq_true rfl) dX4_copyFrom_12 ?_
  intro w1 hL
  refine g_aload_n dX4_copyFrom_15 rfl rfl ?_
  refine s_getR (k := 17) (j := 1) E.1 rfl rfl f_X4_15 dX4_copyFrom_16 ?_
  refine g_iconst (v := 0) dX4_copyFrom_19 (by decide) ?_
  refine g_aload_n dX4_copyFrom_20 rfl rfl ?_
  refine s_getR (k := 26) (j := 1) E.1 rfl rfl f_X4_15 dX4_copyFrom_21 ?_
  refine g_iconst (v := 0) dX4_copyFrom_24 (by decide) ?_
  refine g_bipush (v := 8) dX4_copyFrom_25 (by decide) ?_
  refine s_copy (k0 := 19) (k1 := 28) E.1 E.1 hL rfl rfl (aIn1 638 (by decide +kernel) rfl) ac_nat ac_sta ac_ini (by decide) (Nat.le_of_ble_eq_true rfl) dX4_copyFrom_27 ?_
  intro w2 hL
  refine g_aload_n dX4_copyFrom_30 rfl rfl ?_
  refine s_getR (k := 17) (j := 2) E.1 rfl rfl f_X4_18 dX4_copyFrom_31 ?_
  refine g_iconst (v := 0) dX4_copyFrom_34 (by decide) ?_
  refine g_aload_n dX4_copyFrom_35 rfl rfl ?_
  refine s_getR (k := 26) (j := 2) E.1 rfl rfl f_X4_18 dX4_copyFrom_36 ?_
  refine g_iconst (v := 0) dX4_copyFrom_39 (by decide) ?_
  refine g_bipush (v := 8) dX4_copyFrom_40 (by decide) ?_
  refine s_copy (k0 := 20) (k1 := 29) E.1 E.1 hL rfl rfl (aIn1 638 (by decide +kernel) rfl) ac_nat ac_sta ac_ini (by decide) (Nat.le_of_ble_eq_true rfl) dX4_copyFrom_42 ?_
  intro w3 hL
  refine g_aload_n dX4_copyFrom_45 rfl rfl ?_
  refine g_none 0 ?_
  refine g_aload_n dX4_copyFrom_46 rfl rfl ?_
  refine g_none 1 ?_
  refine s_getI (k := 17) (j := 3) E.1 hL rfl rfl f_X4_21 dX4_copyFrom_47 ?_
  intro v4 hL
  refine s_putI (k := 26) (j := 3) E.1 hL rfl rfl (by decide) fw_X4_21 rfl rfl dX4_copyFrom_50 ?_
  intro w5 hL
  obtain rfl := Option.some.inj hL
  exact g_vret rfl dX4_copyFrom_53
def L_X6_copyFrom_x21_x12 (o : wO) (w : wS) : Option (wS) :=
  xB (L_X5_copyFrom_x22_x13 o  w) fun w1 => xB (L_X0_copyFrom_x24_x15 o  w1) fun w2 => xB (L_X4_copyFrom_x26_x17 o  w2) fun w3 => some w3
set_option maxRecDepth 20000 in
theorem C_X6_copyFrom_x21_x12 {G : aG} {Hf : wS → aH} {bx : Nat} {o : wO} {w : wS} {r : wS} (hG : aGood G) (E : EX Hf bx o) (hL : L_X6_copyFrom_x21_x12 o  w = some r) : AC G M_X6_copyFrom [.ref (bx + 21), .ref (bx + 12)] (Hf w) (.inl none, Hf r) := by
  unfold L_X6_copyFrom_x21_x12 at hL
  refine AC.of (by decide) rfl (Nat.le_of_ble_eq_true rfl) ?_
  show AG G M_X6_copyFrom 0 [some (.ref (bx + 21)), some (.ref (bx + 12))] [] _ _
  refine g_aload_n dX6_copyFrom_0 rfl rfl ?_
  refine s_getR (k := 21) (j := 0) E.1 rfl rfl f_X6_10 dX6_copyFrom_1 ?_
  refine g_aload_n dX6_copyFrom_4 rfl rfl ?_
  refine s_getR (k := 12) (j := 0) E.1 rfl rfl f_X6_10 dX6_copyFrom_5 ?_
  obtain ⟨w1, hc, hL⟩ := xB_some hL
  refine g_callV (M' := M_X5_copyFrom) (as := [.ref (bx + 13)]) (v := none) l_X6_41 kV_X5_copyFrom (by decide) (C_X5_copyFrom_x22_x13 hG E hc) rfl (by have := E.1.1; omega) (E.1.2.1 _ 22 _ rfl) ⟨_, _, rfl⟩ (Nat.le_of_ble_eq_true rfl) dX6_copyFrom_8 ?_
  refine g_aload_n dX6_copyFrom_11 rfl rfl ?_
  refine s_getR (k := 21) (j := 1) E.1 rfl rfl f_X6_19 dX6_copyFrom_12 ?_
  refine g_aload_n dX6_copyFrom_15 rfl rfl ?_
  refine s_getR (k := 12) (j := 1) E.1 rfl rfl f_X6_19 dX6_copyFrom_16 ?_
  obtain ⟨w2, hc, hL⟩ := xB_some hL
  refine g_callV (M' := M_X0_copyFrom) (as := [.ref (bx + 15)]) (v := none) l_X6_45 kV_X0_copyFrom (by decide) (C_X0_copyFrom_x24_x15 hG E hc) rfl (by have := E.1.1; omega) (E.1.2.1 _ 24 _ rfl) ⟨_, _, rfl⟩ (Nat.le_of_ble_eq_true rfl) dX6_copyFrom_19 ?_
  refine g_aload_n dX6_copyFrom_22 rfl rfl ?_
  refine g_none 0 ?_
  refine s_getR (k := 21) (j := 2) E.1 rfl rfl f_X6_26 dX6_copyFrom_23 ?_
  refine g_aload_n dX6_copyFrom_26 rfl rfl ?_
  refine g_none 1 ?_
  refine s_getR (k := 12) (j := 2) E.1 rfl rfl f_X6_26 dX6_copyFrom_27 ?_
  obtain ⟨w3, hc, hL⟩ := xB_some hL
  refine g_callV (M' := M_X4_copyFrom) (as := [.ref (bx + 17)]) (v := none) l_X6_48 kV_X4_copyFrom (by decide) (C_X4_copyFrom_x26_x17 hG E hc) rfl (by have := E.1.1; omega) (E.1.2.1 _ 26 _ rfl) ⟨_, _, rfl⟩ (Nat.le_of_ble_eq_true rfl) dX6_copyFrom_30 ?_
  obtain rfl := Option.some.inj hL
  exact g_vret rfl dX6_copyFrom_33
def L_X9_image (o : wO) (w : wS) : Option (wS) :=
  xB (L_X6_copyFrom_x21_x12 o  w) fun w1 => xB (xPut w1 10 (1)) fun w2 => some w2
set_option maxRecDepth 20000 in
theorem C_X9_image {G : aG} {Hf : wS → aH} {bx : Nat} {o : wO} {w : wS} {r : wS} (hG : aGood G) (E : EX Hf bx o) (hL : L_X9_image o  w = some r) : AC G M_X9_image [.ref (bx + 0)] (Hf w) (.inl none, Hf r) := by
  unfold L_X9_image at hL
  refine AC.of (by decide) rfl (Nat.le_of_ble_eq_true rfl) ?_
  show AG G M_X9_image 0 [some (.ref (bx + 0))] [] _ _
  refine g_aload_n dX9_image_0 rfl rfl ?_
  refine s_getR (k := 0) (j := 2) E.1 rfl rfl f_X9_23 dX9_image_1 ?_
  refine g_aload_n dX9_image_4 rfl rfl ?_
  refine s_getR (k := 0) (j := 1) E.1 rfl rfl f_X9_19 dX9_image_5 ?_
  obtain ⟨w1, hc, hL⟩ := xB_some hL
  refine g_callV (M' := M_X6_copyFrom) (as := [.ref (bx + 12)]) (v := none) l_X9_358 kV_X6_copyFrom (by decide) (C_X6_copyFrom_x21_x12 hG E hc) rfl (by have := E.1.1; omega) (E.1.2.1 _ 21 _ rfl) ⟨_, _, rfl⟩ (Nat.le_of_ble_eq_true rfl) dX9_image_8 ?_
  refine g_aload_n dX9_image_11 rfl rfl ?_
  refine g_none 0 ?_
  refine g_iconst (v := 1) dX9_image_12 (by decide) ?_
  refine s_putI (k := 0) (j := 10) E.1 hL rfl rfl (by decide) fw_X9_59 rfl (by decide) dX9_image_13 ?_
  intro w2 hL
  obtain rfl := Option.some.inj hL
  exact g_vret rfl dX9_image_16
def L_X5_copyFrom_x13_x22 (o : wO) (w : wS) : Option (wS) :=
  xB (xCpy w 23 14 33 33 (0) (0) (33)) fun w1 => some w1
set_option maxRecDepth 20000 in
theorem C_X5_copyFrom_x13_x22 {G : aG} {Hf : wS → aH} {bx : Nat} {o : wO} {w : wS} {r : wS} (hG : aGood G) (E : EX Hf bx o) (hL : L_X5_copyFrom_x13_x22 o  w = some r) : AC G M_X5_copyFrom [.ref (bx + 13), .ref (bx + 22)] (Hf w) (.inl none, Hf r) := by
  unfold L_X5_copyFrom_x13_x22 at hL
  refine AC.of (by decide) rfl (Nat.le_of_ble_eq_true rfl) ?_
  show AG G M_X5_copyFrom 0 [some (.ref (bx + 13)), some (.ref (bx + 22))] [] _ _
  refine g_aload_n dX5_copyFrom_0 rfl rfl ?_
  refine g_none 1 ?_
  refine s_getR (k := 22) (j := 0) E.1 rfl rfl f_X5_11 dX5_copyFrom_1 ?_
  refine g_iconst (v := 0) dX5_copyFrom_4 (by decide) ?_
  refine g_aload_n dX5_copyFrom_5 rfl rfl ?_
  refine g_none 0 ?_
  refine s_getR (k := 13) (j := 0) E.1 rfl rfl f_X5_11 dX5_copyFrom_6 ?_
  refine g_iconst (v := 0) dX5_copyFrom_9 (by decide) ?_
  refine g_bipush (v := 33) dX5_copyFrom_10 (by decide) ?_
  refine s_copy (k0 := 23) (k1 := 14) E.1 E.1 hL rfl rfl (aIn1 450 (by decide +kernel) rfl) ac_nat ac_sta ac_ini (by decide) (Nat.le_of_ble_eq_true rfl) dX5_copyFrom_12 ?_
  intro w1 hL
  obtain rfl := Option.some.inj hL
  exact g_vret rfl dX5_copyFrom_15
def L_X0_copyFrom_x15_x24 (o : wO) (w : wS) : Option (wS) :=
  xB (xCpy w 25 16 1320 1320 (0) (0) (1320)) fun w1 => xB (xGet w1 2401) fun v2 => xB (xPut w1 1501 (v2)) fun w3 => xB (xGet w3 2402) fun v4 => xB (xPut w3 1502 (v4)) fun w5 => some w5
set_option maxRecDepth 20000 in
theorem C_X0_copyFrom_x15_x24 {G : aG} {Hf : wS → aH} {bx : Nat} {o : wO} {w : wS} {r : wS} (hG : aGood G) (E : EX Hf bx o) (hL : L_X0_copyFrom_x15_x24 o  w = some r) : AC G M_X0_copyFrom [.ref (bx + 15), .ref (bx + 24)] (Hf w) (.inl none, Hf r) := by
  unfold L_X0_copyFrom_x15_x24 at hL
  refine AC.of (by decide) rfl (Nat.le_of_ble_eq_true rfl) ?_
  show AG G M_X0_copyFrom 0 [some (.ref (bx + 15)), some (.ref (bx + 24))] [] _ _
  refine g_aload_n dX0_copyFrom_0 rfl rfl ?_
  refine s_getR (k := 24) (j := 0) E.1 rfl rfl f_X0_11 dX0_copyFrom_1 ?_
  refine g_iconst (v := 0) dX0_copyFrom_4 (by decide) ?_
  refine g_aload_n dX0_copyFrom_5 rfl rfl ?_
  refine s_getR (k := 15) (j := 0) E.1 rfl rfl f_X0_11 dX0_copyFrom_6 ?_
  refine g_iconst (v := 0) dX0_copyFrom_9 (by decide) ?_
  refine g_aload_n dX0_copyFrom_10 rfl rfl ?_
  refine s_getR (k := 15) (j := 0) E.1 rfl rfl f_X0_11 dX0_copyFrom_11 ?_
  refine g_alen (v := 1320) dX0_copyFrom_14 (by have := E.1.1; omega) (show 0 < 4 by decide) (E.1.2.1 _ 16 _ rfl) rfl ?_
  refine s_copy (k0 := 25) (k1 := 16) E.1 E.1 hL rfl rfl (aIn1 633 (by decide +kernel) rfl) ac_nat ac_sta ac_ini (by decide) (Nat.le_of_ble_eq_true rfl) dX0_copyFrom_15 ?_
  intro w1 hL
  refine g_aload_n dX0_copyFrom_18 rfl rfl ?_
  refine g_aload_n dX0_copyFrom_19 rfl rfl ?_
  refine s_getI (k := 24) (j := 1) E.1 hL rfl rfl f_X0_17 dX0_copyFrom_20 ?_
  intro v2 hL
  refine s_putI (k := 15) (j := 1) E.1 hL rfl rfl (by decide) fw_X0_17 rfl rfl dX0_copyFrom_23 ?_
  intro w3 hL
  refine g_aload_n dX0_copyFrom_26 rfl rfl ?_
  refine g_none 0 ?_
  refine g_aload_n dX0_copyFrom_27 rfl rfl ?_
  refine g_none 1 ?_
  refine s_getI (k := 24) (j := 2) E.1 hL rfl rfl f_X0_21 dX0_copyFrom_28 ?_
  intro v4 hL
  refine s_putI (k := 15) (j := 2) E.1 hL rfl rfl (by decide) fw_X0_21 rfl rfl dX0_copyFrom_31 ?_
  intro w5 hL
  obtain rfl := Option.some.inj hL
  exact g_vret rfl dX0_copyFrom_34
def L_X4_copyFrom_x17_x26 (o : wO) (w : wS) : Option (wS) :=
  xB (xCpy w 27 18 8 8 (0) (0) (8)) fun w1 => xB (xCpy w1 28 19 8 8 (0) (0) (8)) fun w2 => xB (xCpy w2 29 20 8 8 (0) (0) (8)) fun w3 => xB (xGet w3 2603) fun v4 => xB (xPut w3 1703 (v4)) fun w5 => some w5
set_option maxRecDepth 20000 in
theorem C_X4_copyFrom_x17_x26 {G : aG} {Hf : wS → aH} {bx : Nat} {o : wO} {w : wS} {r : wS} (hG : aGood G) (E : EX Hf bx o) (hL : L_X4_copyFrom_x17_x26 o  w = some r) : AC G M_X4_copyFrom [.ref (bx + 17), .ref (bx + 26)] (Hf w) (.inl none, Hf r) := by
  unfold L_X4_copyFrom_x17_x26 at hL
  refine AC.of (by decide) rfl (Nat.le_of_ble_eq_true rfl) ?_
  show AG G M_X4_copyFrom 0 [some (.ref (bx + 17)), some (.ref (bx + 26))] [] _ _
  refine g_aload_n dX4_copyFrom_0 rfl rfl ?_
  refine s_getR (k := 26) (j := 0) E.1 rfl rfl f_X4_9 dX4_copyFrom_1 ?_
  refine g_iconst (v := 0) dX4_copyFrom_4 (by decide) ?_
  refine g_aload_n dX4_copyFrom_5 rfl rfl ?_
  refine s_getR (k := 17) (j := 0) E.1 rfl rfl f_X4_9 dX4_copyFrom_6 ?_
  refine g_iconst (v := 0) dX4_copyFrom_9 (by decide) ?_
  refine g_bipush (v := 8) dX4_copyFrom_10 (by decide) ?_
  refine s_copy (k0 := 27) (k1 := 18) E.1 E.1 hL rfl rfl (aIn1 638 (by decide +kernel) rfl) ac_nat ac_sta ac_ini (by decide) (Nat.le_of_ble_eq_true rfl) dX4_copyFrom_12 ?_
  intro w1 hL
  refine g_aload_n dX4_copyFrom_15 rfl rfl ?_
  refine s_getR (k := 26) (j := 1) E.1 rfl rfl f_X4_15 dX4_copyFrom_16 ?_
  refine g_iconst (v := 0) dX4_copyFrom_19 (by decide) ?_
  refine g_aload_n dX4_copyFrom_20 rfl rfl ?_
  refine s_getR (k := 17) (j := 1) E.1 rfl rfl f_X4_15 dX4_copyFrom_21 ?_
  refine g_iconst (v := 0) dX4_copyFrom_24 (by decide) ?_
  refine g_bipush (v := 8) dX4_copyFrom_25 (by decide) ?_
  refine s_copy (k0 := 28) (k1 := 19) E.1 E.1 hL rfl rfl (aIn1 638 (by decide +kernel) rfl) ac_nat ac_sta ac_ini (by decide) (Nat.le_of_ble_eq_true rfl) dX4_copyFrom_27 ?_
  intro w2 hL
  refine g_aload_n dX4_copyFrom_30 rfl rfl ?_
  refine s_getR (k := 26) (j := 2) E.1 rfl rfl f_X4_18 dX4_copyFrom_31 ?_
  refine g_iconst (v := 0) dX4_copyFrom_34 (by decide) ?_
  refine g_aload_n dX4_copyFrom_35 rfl rfl ?_
  refine s_getR (k := 17) (j := 2) E.1 rfl rfl f_X4_18 dX4_copyFrom_36 ?_
  refine g_iconst (v := 0) dX4_copyFrom_39 (by decide) ?_
  refine g_bipush (v := 8) dX4_copyFrom_40 (by decide) ?_
  refine s_copy (k0 := 29) (k1 := 20) E.1 E.1 hL rfl rfl (aIn1 638 (by decide +kernel) rfl) ac_nat ac_sta ac_ini (by decide) (Nat.le_of_ble_eq_true rfl) dX4_copyFrom_42 ?_
  intro w3 hL
  refine g_aload_n dX4_copyFrom_45 rfl rfl ?_
  refine g_none 0 ?_
  refine g_aload_n dX4_copyFrom_46 rfl rfl ?_
  refine g_none 1 ?_
  refine s_getI (k := 26) (j := 3) E.1 hL rfl rfl f_X4_21 dX4_copyFrom_47 ?_
  intro v4 hL
  refine s_putI (k := 17) (j := 3) E.1 hL rfl rfl (by decide) fw_X4_21 rfl rfl dX4_copyFrom_50 ?_
  intro w5 hL
  obtain rfl := Option.some.inj hL
  exact g_vret rfl dX4_copyFrom_53
