def J_X1_placeOf_72 (o : wO) (kh4 : Int32 → Int32 → Int32 → wS → Option (Int32 × wS)) (ke78 : Int32 → wS → Option (Int32 × wS)) (x1 : Int32) (x2 : Int32) (x3 : Int32) (w : wS) : Option (Int32 × wS) :=
  kh4 (x1) (x2) ((x3 + 1)) w
set_option maxRecDepth 20000 in
theorem J_X1_placeOf_72_ok {G : aG} {Hf : wS → aH} {bx : Nat} {o : wO} {kh4 : Int32 → Int32 → Int32 → wS → Option (Int32 × wS)} {ke78 : Int32 → wS → Option (Int32 × wS)} {x1 : Int32} {x2 : Int32} {x3 : Int32} {w : wS} {r : Int32 × wS} (hG : aGood G) (E : EX Hf bx o) (hL : J_X1_placeOf_72 o kh4 ke78 x1 x2 x3 w = some r) (Hkh4 : ∀ (z0 : Int32) (z1 : Int32) (z2 : Int32) (w : wS), kh4 z0 z1 z2 w = some r → AG G M_X1_placeOf 4 [some (.ref (bx + 30)), some (.int (z0)), some (.int (z1)), some (.int (z2))] [] (Hf w) (.inl (some (.int r.1)), Hf r.2)) (Hke78 : ∀ (z0 : Int32) (w : wS), ke78 z0 w = some r → AG G M_X1_placeOf 78 [none, none, some (.int (z0)), none] [] (Hf w) (.inl (some (.int r.1)), Hf r.2)) : AG G M_X1_placeOf 72 [some (.ref (bx + 30)), some (.int (x1)), some (.int (x2)), some (.int (x3))] [] (Hf w) (.inl (some (.int r.1)), Hf r.2) := by
  unfold J_X1_placeOf_72 at hL
  refine g_iincV (v := (x3 + 1)) dX1_placeOf_72 rfl rfl (by decide) rfl ?_
  refine g_goto (tgt := 4) dX1_placeOf_75 (by decide) ?_
  exact Hkh4 _ _ _ _ hL
def J_X1_placeOf_69 (o : wO) (kh4 : Int32 → Int32 → Int32 → wS → Option (Int32 × wS)) (ke78 : Int32 → wS → Option (Int32 × wS)) (x1 : Int32) (x2 : Int32) (x3 : Int32) (w : wS) : Option (Int32 × wS) :=
  J_X1_placeOf_72 o kh4 ke78 (x1) ((x2 + 1)) (x3) w
set_option maxRecDepth 20000 in
theorem J_X1_placeOf_69_ok {G : aG} {Hf : wS → aH} {bx : Nat} {o : wO} {kh4 : Int32 → Int32 → Int32 → wS → Option (Int32 × wS)} {ke78 : Int32 → wS → Option (Int32 × wS)} {x1 : Int32} {x2 : Int32} {x3 : Int32} {w : wS} {r : Int32 × wS} (hG : aGood G) (E : EX Hf bx o) (hL : J_X1_placeOf_69 o kh4 ke78 x1 x2 x3 w = some r) (Hkh4 : ∀ (z0 : Int32) (z1 : Int32) (z2 : Int32) (w : wS), kh4 z0 z1 z2 w = some r → AG G M_X1_placeOf 4 [some (.ref (bx + 30)), some (.int (z0)), some (.int (z1)), some (.int (z2))] [] (Hf w) (.inl (some (.int r.1)), Hf r.2)) (Hke78 : ∀ (z0 : Int32) (w : wS), ke78 z0 w = some r → AG G M_X1_placeOf 78 [none, none, some (.int (z0)), none] [] (Hf w) (.inl (some (.int r.1)), Hf r.2)) : AG G M_X1_placeOf 69 [some (.ref (bx + 30)), some (.int (x1)), some (.int (x2)), some (.int (x3))] [] (Hf w) (.inl (some (.int r.1)), Hf r.2) := by
  unfold J_X1_placeOf_69 at hL
  refine g_iincV (v := (x2 + 1)) dX1_placeOf_69 rfl rfl (by decide) rfl ?_
  exact J_X1_placeOf_72_ok hG E hL Hkh4 Hke78
def B_X1_placeOf_4 (o : wO) (kh4 : Int32 → Int32 → Int32 → wS → Option (Int32 × wS)) (ke78 : Int32 → wS → Option (Int32 × wS)) (x1 : Int32) (x2 : Int32) (x3 : Int32) (w : wS) : Option (Int32 × wS) :=
  xIf (xRef w 3010 (oT o + 0)) (xB (xGet w 100006) fun v1 => if v1 ≤ x3 then ke78 (x2) w else if x3 = x1 then J_X1_placeOf_72 o kh4 ke78 (x1) (x2) (x3) w else xB (xAld w 35 8 (x3)) fun v2 => if v2 = (-1) then J_X1_placeOf_72 o kh4 ke78 (x1) (x2) (x3) w else xB (xAld w 35 8 (x3)) fun v3 => xB (xAld w 35 8 (x1)) fun v4 => if v3 < v4 then J_X1_placeOf_69 o kh4 ke78 (x1) (x2) (x3) w else xB (xAld w 35 8 (x3)) fun v5 => xB (xAld w 35 8 (x1)) fun v6 => if v5 = v6 then xB2 (L_X1_leads o (x3) (x1) w) fun v7 w8 => if v7 = 0 then J_X1_placeOf_72 o kh4 ke78 (x1) (x2) (x3) w8 else J_X1_placeOf_69 o kh4 ke78 (x1) (x2) (x3) w8 else J_X1_placeOf_72 o kh4 ke78 (x1) (x2) (x3) w)
set_option maxRecDepth 20000 in
theorem B_X1_placeOf_4_ok {G : aG} {Hf : wS → aH} {bx : Nat} {o : wO} {kh4 : Int32 → Int32 → Int32 → wS → Option (Int32 × wS)} {ke78 : Int32 → wS → Option (Int32 × wS)} {x1 : Int32} {x2 : Int32} {x3 : Int32} {w : wS} {r : Int32 × wS} (hG : aGood G) (E : EX Hf bx o) (hL : B_X1_placeOf_4 o kh4 ke78 x1 x2 x3 w = some r) (Hkh4 : ∀ (z0 : Int32) (z1 : Int32) (z2 : Int32) (w : wS), kh4 z0 z1 z2 w = some r → AG G M_X1_placeOf 4 [some (.ref (bx + 30)), some (.int (z0)), some (.int (z1)), some (.int (z2))] [] (Hf w) (.inl (some (.int r.1)), Hf r.2)) (Hke78 : ∀ (z0 : Int32) (w : wS), ke78 z0 w = some r → AG G M_X1_placeOf 78 [none, none, some (.int (z0)), none] [] (Hf w) (.inl (some (.int r.1)), Hf r.2)) : AG G M_X1_placeOf 4 [some (.ref (bx + 30)), some (.int (x1)), some (.int (x2)), some (.int (x3))] [] (Hf w) (.inl (some (.int r.1)), Hf r.2) := by
  unfold B_X1_placeOf_4 at hL
  refine g_iload_n dX1_placeOf_4 rfl rfl ?_
  refine g_aload_n dX1_placeOf_5 rfl rfl ?_
  refine s_getT (k := 30) (j := 10) E.1 hL rfl rfl f_X1_52 dX1_placeOf_6 ?_
  intro hL
  refine s_getI (k := 0) (j := 6) E.2.1 hL rfl rfl f_X1_86 dX1_placeOf_9 ?_
  intro v1 hL
  refine g_icmp_ge (tgt := 78) dX1_placeOf_12 (by decide) (fun q14 => ?_) (fun q14 => ?_)
  · rw [if_pos q14] at hL
    refine g_none 0 ?_
    refine g_none 1 ?_
    refine g_none 3 ?_
    exact Hke78 _ _ hL
  · rw [if_neg q14] at hL
    refine g_iload_n dX1_placeOf_15 rfl rfl ?_
    refine g_iload_n dX1_placeOf_16 rfl rfl ?_
    refine g_icmp_eq (tgt := 72) dX1_placeOf_17 (by decide) (fun q13 => ?_) (fun q13 => ?_)
    · rw [if_pos q13] at hL
      exact J_X1_placeOf_72_ok hG E hL Hkh4 Hke78
    · rw [if_neg q13] at hL
      refine g_aload_n dX1_placeOf_20 rfl rfl ?_
      refine s_getR (k := 30) (j := 3) E.1 rfl rfl f_X1_25 dX1_placeOf_21 ?_
      refine g_iload_n dX1_placeOf_24 rfl rfl ?_
      refine s_iald (k := 35) E.1 hL rfl dX1_placeOf_25 ?_
      intro v2 hL
      refine g_iconst (v := (-1)) dX1_placeOf_26 (by decide) ?_
      refine g_icmp_eq (tgt := 72) dX1_placeOf_27 (by decide) (fun q12 => ?_) (fun q12 => ?_)
      · rw [if_pos q12] at hL
        exact J_X1_placeOf_72_ok hG E hL Hkh4 Hke78
      · rw [if_neg q12] at hL
        refine g_aload_n dX1_placeOf_30 rfl rfl ?_
        refine s_getR (k := 30) (j := 3) E.1 rfl rfl f_X1_25 dX1_placeOf_31 ?_
        refine g_iload_n dX1_placeOf_34 rfl rfl ?_
        refine s_iald (k := 35) E.1 hL rfl dX1_placeOf_35 ?_
        intro v3 hL
        refine g_aload_n dX1_placeOf_36 rfl rfl ?_
        refine s_getR (k := 30) (j := 3) E.1 rfl rfl f_X1_25 dX1_placeOf_37 ?_
        refine g_iload_n dX1_placeOf_40 rfl rfl ?_
        refine s_iald (k := 35) E.1 hL rfl dX1_placeOf_41 ?_
        intro v4 hL
        refine g_icmp_lt (tgt := 69) dX1_placeOf_42 (by decide) (fun q11 => ?_) (fun q11 => ?_)
        · rw [if_pos q11] at hL
          exact J_X1_placeOf_69_ok hG E hL Hkh4 Hke78
        · rw [if_neg q11] at hL
          refine g_aload_n dX1_placeOf_45 rfl rfl ?_
          refine s_getR (k := 30) (j := 3) E.1 rfl rfl f_X1_25 dX1_placeOf_46 ?_
          refine g_iload_n dX1_placeOf_49 rfl rfl ?_
          refine s_iald (k := 35) E.1 hL rfl dX1_placeOf_50 ?_
          intro v5 hL
          refine g_aload_n dX1_placeOf_51 rfl rfl ?_
          refine s_getR (k := 30) (j := 3) E.1 rfl rfl f_X1_25 dX1_placeOf_52 ?_
          refine g_iload_n dX1_placeOf_55 rfl rfl ?_
          refine s_iald (k := 35) E.1 hL rfl dX1_placeOf_56 ?_
          intro v6 hL
          refine g_icmp_ne (tgt := 72) dX1_placeOf_57 (by decide) (fun q10 => ?_) (fun q10 => ?_)
          · rw [if_neg q10] at hL
            exact J_X1_placeOf_72_ok hG E hL Hkh4 Hke78
          · rw [if_pos q10] at hL
            refine g_aload_n dX1_placeOf_60 rfl rfl ?_
            refine g_iload_n dX1_placeOf_61 rfl rfl ?_
            refine g_iload_n dX1_placeOf_62 rfl rfl ?_
            obtain ⟨v7, w8, hc, hL⟩ := xB2_some hL
            refine g_callV (M' := M_X1_leads) (as := [.int (x3), .int (x1)]) (v := some (.int (v7))) l_X1_190 kV_X1_leads (by decide) (C_X1_leads hG E hc) rfl (by have := E.1.1; omega) (E.1.2.1 _ 30 _ rfl) ⟨_, _, rfl⟩ (Nat.le_of_ble_eq_true rfl) dX1_placeOf_63 ?_
            refine g_if_eq (tgt := 72) dX1_placeOf_66 (by decide) (fun q9 => ?_) (fun q9 => ?_)
            · rw [if_pos q9] at hL
              exact J_X1_placeOf_72_ok hG E hL Hkh4 Hke78
            · rw [if_neg q9] at hL
              exact J_X1_placeOf_69_ok hG E hL Hkh4 Hke78
def P_X1_placeOf_4 (o : wO) (ke78 : Int32 → wS → Option (Int32 × wS)) (n : Nat) (x1 : Int32) (x2 : Int32) (x3 : Int32) (w : wS) : Option (Int32 × wS) :=
  xLoop (fun (kk : Int32 × Int32 × Int32 × wS → Option (Int32 × wS)) σ => B_X1_placeOf_4 o (fun x1 x2 x3 w => kk (x1, x2, x3, w)) ke78 (σ.1) (σ.2.1) (σ.2.2.1) (σ.2.2.2)) n (x1, x2, x3, w)
theorem P_X1_placeOf_4_ok {G : aG} {Hf : wS → aH} {bx : Nat} {o : wO} {ke78 : Int32 → wS → Option (Int32 × wS)} {n : Nat} {x1 : Int32} {x2 : Int32} {x3 : Int32} {w : wS} {r : Int32 × wS} (hG : aGood G) (E : EX Hf bx o) (hL : P_X1_placeOf_4 o ke78 n x1 x2 x3 w = some r) (Hke78 : ∀ (z0 : Int32) (w : wS), ke78 z0 w = some r → AG G M_X1_placeOf 78 [none, none, some (.int (z0)), none] [] (Hf w) (.inl (some (.int r.1)), Hf r.2)) : AG G M_X1_placeOf 4 [some (.ref (bx + 30)), some (.int (x1)), some (.int (x2)), some (.int (x3))] [] (Hf w) (.inl (some (.int r.1)), Hf r.2) :=
  xLoop_ok (Q := fun (σ : Int32 × Int32 × Int32 × wS) => AG G M_X1_placeOf 4 [some (.ref (bx + 30)), some (.int (σ.1)), some (.int (σ.2.1)), some (.int (σ.2.2.1))] [] (Hf σ.2.2.2) (.inl (some (.int r.1)), Hf r.2)) (fun kk hk σ hσ => B_X1_placeOf_4_ok hG E hσ (fun x1 x2 x3 w h9 => hk (x1, x2, x3, w) h9) Hke78) n (x1, x2, x3, w) hL
def L_X1_placeOf (o : wO) (a1 : Int32) (w : wS) : Option (Int32 × wS) :=
  P_X1_placeOf_4 o (fun z15 w16 => some (z15, w16)) 5000 (a1) (0) (0) w
set_option maxRecDepth 20000 in
theorem C_X1_placeOf {G : aG} {Hf : wS → aH} {bx : Nat} {o : wO} {a1 : Int32} {w : wS} {r : Int32 × wS} (hG : aGood G) (E : EX Hf bx o) (hL : L_X1_placeOf o a1 w = some r) : AC G M_X1_placeOf [.ref (bx + 30), .int a1] (Hf w) (.inl (some (.int r.1)), Hf r.2) := by
  unfold L_X1_placeOf at hL
  refine AC.of (by decide) rfl (Nat.le_of_ble_eq_true rfl) ?_
  show AG G M_X1_placeOf 0 [some (.ref (bx + 30)), some (.int (a1)), none, none] [] _ _
  refine g_iconst (v := 0) dX1_placeOf_0 (by decide) ?_
  refine g_istore_n (i := 2) dX1_placeOf_1 rfl (by decide) rfl ?_
  refine g_iconst (v := 0) dX1_placeOf_2 (by decide) ?_
  refine g_istore_n (i := 3) dX1_placeOf_3 rfl (by decide) rfl ?_
  refine P_X1_placeOf_4_ok hG E hL ?_
  · intro z15 w16 hL
    refine g_iload_n dX1_placeOf_78 rfl rfl ?_
    refine g_none 2 ?_
    obtain rfl := Option.some.inj hL
    exact g_iret rfl dX1_placeOf_79
def J_X9_coming_88 (o : wO) (kh35 : Int32 → Int32 → Int32 → wS → Option ((Int32 ⊕ String) × wS)) (ke70 : Int32 → Int32 → wS → Option ((Int32 ⊕ String) × wS)) (ke94 : wS → Option ((Int32 ⊕ String) × wS)) (x2 : Int32) (x3 : Int32) (x5 : Int32) (w : wS) : Option ((Int32 ⊕ String) × wS) :=
  kh35 (x2) (x3) ((x5 + 1)) w
set_option maxRecDepth 20000 in
theorem J_X9_coming_88_ok {G : aG} {Hf : wS → aH} {bx : Nat} {o : wO} {kh35 : Int32 → Int32 → Int32 → wS → Option ((Int32 ⊕ String) × wS)} {ke70 : Int32 → Int32 → wS → Option ((Int32 ⊕ String) × wS)} {ke94 : wS → Option ((Int32 ⊕ String) × wS)} {x2 : Int32} {x3 : Int32} {x5 : Int32} {w : wS} {r : (Int32 ⊕ String) × wS} (hG : aGood G) (E : EX Hf bx o) (hL : J_X9_coming_88 o kh35 ke70 ke94 x2 x3 x5 w = some r) (Hkh35 : ∀ (z0 : Int32) (z1 : Int32) (z2 : Int32) (w : wS), kh35 z0 z1 z2 w = some r → AG G M_X9_coming 35 [some (.ref (bx + 0)), none, some (.int (z0)), some (.int (z1)), some (.ref (bx + 30)), some (.int (z2))] [] (Hf w) (xRv Hf r)) (Hke70 : ∀ (z0 : Int32) (z1 : Int32) (w : wS), ke70 z0 z1 w = some r → AG G M_X9_coming 70 [none, none, none, some (.int (z0)), some (.ref (bx + 30)), some (.int (z1))] [] (Hf w) (xRv Hf r)) (Hke94 : ∀ (w : wS), ke94  w = some r → AG G M_X9_coming 94 [none, none, none, none, none, none] [] (Hf w) (xRv Hf r)) : AG G M_X9_coming 88 [some (.ref (bx + 0)), none, some (.int (x2)), some (.int (x3)), some (.ref (bx + 30)), some (.int (x5))] [] (Hf w) (xRv Hf r) := by
  unfold J_X9_coming_88 at hL
  refine g_iincV (v := (x5 + 1)) dX9_coming_88 rfl rfl (by decide) rfl ?_
  refine g_goto (tgt := 35) dX9_coming_91 (by decide) ?_
  exact Hkh35 _ _ _ _ hL
def J_X9_coming_87 (o : wO) (y0 : Int32) (w : wS) : Option ((Int32 ⊕ String) × wS) :=
  some (.inl (y0), w)
set_option maxRecDepth 20000 in
theorem J_X9_coming_87_ok {G : aG} {Hf : wS → aH} {bx : Nat} {o : wO} {y0 : Int32} {w : wS} {r : (Int32 ⊕ String) × wS} (hG : aGood G) (E : EX Hf bx o) (hL : J_X9_coming_87 o  y0 w = some r) : AG G M_X9_coming 87 [none, none, none, none, none, none] [.int (y0)] (Hf w) (xRv Hf r) := by
  unfold J_X9_coming_87 at hL
  obtain rfl := Option.some.inj hL
  exact g_iret rfl dX9_coming_87
def B_X9_coming_35 (o : wO) (kh35 : Int32 → Int32 → Int32 → wS → Option ((Int32 ⊕ String) × wS)) (ke70 : Int32 → Int32 → wS → Option ((Int32 ⊕ String) × wS)) (ke94 : wS → Option ((Int32 ⊕ String) × wS)) (x2 : Int32) (x3 : Int32) (x5 : Int32) (w : wS) : Option ((Int32 ⊕ String) × wS) :=
  xIf (xRef w 9 (oT o + 0)) (xB (xGet w 100006) fun v1 => if v1 ≤ x5 then ke94  w else xB (xAld w 35 8 (x5)) fun v2 => if v2 = (-1) then J_X9_coming_88 o kh35 ke70 ke94 (x2) (x3) (x5) w else xB2 (L_X1_placeOf o (x5) w) fun v3 w4 => if v3 = x2 then ke70 (x3) (x5) w4 else J_X9_coming_88 o kh35 ke70 ke94 (x2) (x3) (x5) w4)
set_option maxRecDepth 20000 in
theorem B_X9_coming_35_ok {G : aG} {Hf : wS → aH} {bx : Nat} {o : wO} {kh35 : Int32 → Int32 → Int32 → wS → Option ((Int32 ⊕ String) × wS)} {ke70 : Int32 → Int32 → wS → Option ((Int32 ⊕ String) × wS)} {ke94 : wS → Option ((Int32 ⊕ String) × wS)} {x2 : Int32} {x3 : Int32} {x5 : Int32} {w : wS} {r : (Int32 ⊕ String) × wS} (hG : aGood G) (E : EX Hf bx o) (hL : B_X9_coming_35 o kh35 ke70 ke94 x2 x3 x5 w = some r) (Hkh35 : ∀ (z0 : Int32) (z1 : Int32) (z2 : Int32) (w : wS), kh35 z0 z1 z2 w = some r → AG G M_X9_coming 35 [some (.ref (bx + 0)), none, some (.int (z0)), some (.int (z1)), some (.ref (bx + 30)), some (.int (z2))] [] (Hf w) (xRv Hf r)) (Hke70 : ∀ (z0 : Int32) (z1 : Int32) (w : wS), ke70 z0 z1 w = some r → AG G M_X9_coming 70 [none, none, none, some (.int (z0)), some (.ref (bx + 30)), some (.int (z1))] [] (Hf w) (xRv Hf r)) (Hke94 : ∀ (w : wS), ke94  w = some r → AG G M_X9_coming 94 [none, none, none, none, none, none] [] (Hf w) (xRv Hf r)) : AG G M_X9_coming 35 [some (.ref (bx + 0)), none, some (.int (x2)), some (.int (x3)), some (.ref (bx + 30)), some (.int (x5))] [] (Hf w) (xRv Hf r) := by
  unfold B_X9_coming_35 at hL
  refine g_iload dX9_coming_35 rfl ?_
  refine g_aload_n dX9_coming_37 rfl rfl ?_
  refine s_getT (k := 0) (j := 9) E.1 hL rfl rfl f_X9_55 dX9_coming_38 ?_
  intro hL
  refine s_getI (k := 0) (j := 6) E.2.1 hL rfl rfl f_X9_99 dX9_coming_41 ?_
  intro v1 hL
  refine g_icmp_ge (tgt := 94) dX9_coming_44 (by decide) (fun q7 => ?_) (fun q7 => ?_)
  · rw [if_pos q7] at hL
    refine g_none 0 ?_
    refine g_none 2 ?_
    refine g_none 3 ?_
    refine g_none 4 ?_
    refine g_none 5 ?_
    exact Hke94  _ hL
  · rw [if_neg q7] at hL
    refine g_aload dX9_coming_47 rfl ?_
    refine s_getR (k := 30) (j := 3) E.1 rfl rfl f_X9_261 dX9_coming_49 ?_
    refine g_iload dX9_coming_52 rfl ?_
    refine s_iald (k := 35) E.1 hL rfl dX9_coming_54 ?_
    intro v2 hL
    refine g_iconst (v := (-1)) dX9_coming_55 (by decide) ?_
    refine g_icmp_eq (tgt := 88) dX9_coming_56 (by decide) (fun q6 => ?_) (fun q6 => ?_)
    · rw [if_pos q6] at hL
      exact J_X9_coming_88_ok hG E hL Hkh35 Hke70 Hke94
    · rw [if_neg q6] at hL
      refine g_aload dX9_coming_59 rfl ?_
      refine g_iload dX9_coming_61 rfl ?_
      obtain ⟨v3, w4, hc, hL⟩ := xB2_some hL
      refine g_callV (M' := M_X1_placeOf) (as := [.int (x5)]) (v := some (.int (v3))) l_X9_334 kV_X1_placeOf (by decide) (C_X1_placeOf hG E hc) rfl (by have := E.1.1; omega) (E.1.2.1 _ 30 _ rfl) ⟨_, _, rfl⟩ (Nat.le_of_ble_eq_true rfl) dX9_coming_63 ?_
      refine g_iload_n dX9_coming_66 rfl rfl ?_
      refine g_icmp_ne (tgt := 88) dX9_coming_67 (by decide) (fun q5 => ?_) (fun q5 => ?_)
      · rw [if_neg q5] at hL
        exact J_X9_coming_88_ok hG E hL Hkh35 Hke70 Hke94
      · rw [if_pos q5] at hL
        refine g_none 0 ?_
        refine g_none 2 ?_
        exact Hke70 _ _ _ hL
def P_X9_coming_35 (o : wO) (ke70 : Int32 → Int32 → wS → Option ((Int32 ⊕ String) × wS)) (ke94 : wS → Option ((Int32 ⊕ String) × wS)) (n : Nat) (x2 : Int32) (x3 : Int32) (x5 : Int32) (w : wS) : Option ((Int32 ⊕ String) × wS) :=
  xLoop (fun (kk : Int32 × Int32 × Int32 × wS → Option ((Int32 ⊕ String) × wS)) σ => B_X9_coming_35 o (fun x2 x3 x5 w => kk (x2, x3, x5, w)) ke70 ke94 (σ.1) (σ.2.1) (σ.2.2.1) (σ.2.2.2)) n (x2, x3, x5, w)
theorem P_X9_coming_35_ok {G : aG} {Hf : wS → aH} {bx : Nat} {o : wO} {ke70 : Int32 → Int32 → wS → Option ((Int32 ⊕ String) × wS)} {ke94 : wS → Option ((Int32 ⊕ String) × wS)} {n : Nat} {x2 : Int32} {x3 : Int32} {x5 : Int32} {w : wS} {r : (Int32 ⊕ String) × wS} (hG : aGood G) (E : EX Hf bx o) (hL : P_X9_coming_35 o ke70 ke94 n x2 x3 x5 w = some r) (Hke70 : ∀ (z0 : Int32) (z1 : Int32) (w : wS), ke70 z0 z1 w = some r → AG G M_X9_coming 70 [none, none, none, some (.int (z0)), some (.ref (bx + 30)), some (.int (z1))] [] (Hf w) (xRv Hf r)) (Hke94 : ∀ (w : wS), ke94  w = some r → AG G M_X9_coming 94 [none, none, none, none, none, none] [] (Hf w) (xRv Hf r)) : AG G M_X9_coming 35 [some (.ref (bx + 0)), none, some (.int (x2)), some (.int (x3)), some (.ref (bx + 30)), some (.int (x5))] [] (Hf w) (xRv Hf r) :=
  xLoop_ok (Q := fun (σ : Int32 × Int32 × Int32 × wS) => AG G M_X9_coming 35 [some (.ref (bx + 0)), none, some (.int (σ.1)), some (.int (σ.2.1)), some (.ref (bx + 30)), some (.int (σ.2.2.1))] [] (Hf σ.2.2.2) (xRv Hf r)) (fun kk hk σ hσ => B_X9_coming_35_ok hG E hσ (fun x2 x3 x5 w h9 => hk (x2, x3, x5, w) h9) Hke70 Hke94) n (x2, x3, x5, w) hL
def L_X9_coming (o : wO) (a1 : Int32) (a2 : Int32) (a3 : Int32) (w : wS) : Option ((Int32 ⊕ String) × wS) :=
  xBT (L_X9_needDuty o (a1) w) (fun E9 => some (.inr E9, w)) (xBT (L_X9_needWhat (a3) (1)) (fun E9 => some (.inr E9, w)) (if 0 ≤ a2 then xB (L_X9_nextDayTo o (a1) w) fun w8 => P_X9_coming_35 o (fun z9 z10 w11 => if z9 = 0 then J_X9_coming_87 o  (z10) w11 else xB (xAld w11 35 8 (z10)) fun v12 => J_X9_coming_87 o  (v12) w11) (fun w14 => some (.inl ((-1)), w14)) 5000 (a2) (a3) (0) w8 else some (.inr cNo, w)))
set_option maxRecDepth 20000 in
theorem C_X9_coming {G : aG} {Hf : wS → aH} {bx : Nat} {o : wO} {a1 : Int32} {a2 : Int32} {a3 : Int32} {w : wS} {r : (Int32 ⊕ String) × wS} (hG : aGood G) (E : EX Hf bx o) (hL : L_X9_coming o a1 a2 a3 w = some r) : AC G M_X9_coming [.ref (bx + 0), .int a1, .int a2, .int a3] (Hf w) (xRv Hf r) := by
  unfold L_X9_coming at hL
  refine AC.of (by decide) rfl (Nat.le_of_ble_eq_true rfl) ?_
  show AG G M_X9_coming 0 [some (.ref (bx + 0)), some (.int (a1)), some (.int (a2)), some (.int (a3)), none, none] [] _ _
  refine g_aload_n dX9_coming_0 rfl rfl ?_
  refine g_iload_n dX9_coming_1 rfl rfl ?_
  rcases xBT_some hL with ⟨hc, hL⟩ | ⟨E9, hc, hL⟩
  · refine g_callV (M' := M_X9_needDuty) (as := [.int (a1)]) (v := none) l_X9_175 kV_X9_needDuty (by decide) (C_X9_needDuty hG E hc) rfl (by have := E.1.1; omega) (E.1.2.1 _ 0 _ rfl) ⟨_, _, rfl⟩ (Nat.le_of_ble_eq_true rfl) dX9_coming_2 ?_
    refine g_iload_n dX9_coming_5 rfl rfl ?_
    refine g_iconst (v := 1) dX9_coming_6 (by decide) ?_
    rcases xBT_some hL with ⟨hc, hL⟩ | ⟨E9, hc, hL⟩
    · refine g_callS (M' := M_X9_needWhat) (as := [.int (a3), .int (1)]) (v := none) l_X9_221 kS_X9_needWhat (by decide) (C_X9_needWhat hG hc) rfl (Nat.le_of_ble_eq_true rfl) dX9_coming_7 ?_
      refine g_iload_n dX9_coming_10 rfl rfl ?_
      refine g_if_ge (tgt := 25) dX9_coming_11 (by decide) (fun q15 => ?_) (fun q15 => ?_)
      · rw [if_pos q15] at hL
        refine g_aload_n dX9_coming_25 rfl rfl ?_
        refine g_iload_n dX9_coming_26 rfl rfl ?_
        refine g_none 1 ?_
        obtain ⟨w8, hc, hL⟩ := xB_some hL
        refine g_callV (M' := M_X9_nextDayTo) (as := [.int (a1)]) (v := some (.ref (bx + 30))) l_X9_251 kV_X9_nextDayTo (by decide) (C_X9_nextDayTo hG E hc) rfl (by have := E.1.1; omega) (E.1.2.1 _ 0 _ rfl) ⟨_, _, rfl⟩ (Nat.le_of_ble_eq_true rfl) dX9_coming_27 ?_
        refine g_astore (i := 4) dX9_coming_30 (by decide) rfl ?_
        refine g_iconst (v := 0) dX9_coming_32 (by decide) ?_
        refine g_istore (i := 5) dX9_coming_33 (by decide) rfl ?_
        refine P_X9_coming_35_ok hG E hL ?_ ?_
        · intro z9 z10 w11 hL
          refine g_iload_n dX9_coming_70 rfl rfl ?_
          refine g_none 3 ?_
          refine g_if_ne (tgt := 79) dX9_coming_71 (by decide) (fun q13 => ?_) (fun q13 => ?_)
          · rw [if_neg q13] at hL
            refine g_aload dX9_coming_79 rfl ?_
            refine g_none 4 ?_
            refine s_getR (k := 30) (j := 3) E.1 rfl rfl f_X9_261 dX9_coming_81 ?_
            refine g_iload dX9_coming_84 rfl ?_
            refine g_none 5 ?_
            refine s_iald (k := 35) E.1 hL rfl dX9_coming_86 ?_
            intro v12 hL
            exact J_X9_coming_87_ok hG E hL 
          · rw [if_pos q13] at hL
            refine g_none 4 ?_
            refine g_iload dX9_coming_74 rfl ?_
            refine g_none 5 ?_
            refine g_goto (tgt := 87) dX9_coming_76 (by decide) ?_
            exact J_X9_coming_87_ok hG E hL 
        · intro w14 hL
          refine g_iconst (v := (-1)) dX9_coming_94 (by decide) ?_
          obtain rfl := Option.some.inj hL
          exact g_iret rfl dX9_coming_95
      · rw [if_neg q15] at hL
        refine g_none 0 ?_
        refine g_none 1 ?_
        refine g_none 2 ?_
        refine g_none 3 ?_
        obtain rfl := Option.some.inj hL
        exact g_throwSW (k := 25) hG thr_No rfl rfl (by decide) (Nat.le_of_ble_eq_true rfl) dX9_coming_14 dX9_coming_17 dX9_coming_18 dX9_coming_21 dX9_coming_24
    · obtain rfl := Option.some.inj hL
      exact g_callSX (M' := M_X9_needWhat) (as := [.int (a3), .int (1)]) (E := E9) (aIn1 1033 (by decide +kernel) rfl) kS_X9_needWhat (by decide) rfl (C_X9_needWhat hG hc) rfl (Nat.le_of_ble_eq_true rfl) dX9_coming_7
  · obtain rfl := Option.some.inj hL
    exact g_callVX (M' := M_X9_needDuty) (as := [.int (a1)]) (E := E9) (aIn1 972 (by decide +kernel) rfl) kV_X9_needDuty (by decide) rfl (C_X9_needDuty hG E hc) rfl (by have := E.1.1; omega) (E.1.2.1 _ 0 _ rfl) ⟨_, _, rfl⟩ (Nat.le_of_ble_eq_true rfl) dX9_coming_2
def J_X9_spread_91 (o : wO) (y0 : Int32) (w : wS) : Option ((Int32 ⊕ String) × wS) :=
  some (.inl (y0), w)
set_option maxRecDepth 20000 in
theorem J_X9_spread_91_ok {G : aG} {Hf : wS → aH} {bx : Nat} {o : wO} {y0 : Int32} {w : wS} {r : (Int32 ⊕ String) × wS} (hG : aGood G) (E : EX Hf bx o) (hL : J_X9_spread_91 o  y0 w = some r) : AG G M_X9_spread 91 [none, none, none, none, none, none, none] [.int (y0)] (Hf w) (xRv Hf r) := by
  unfold J_X9_spread_91 at hL
  obtain rfl := Option.some.inj hL
  exact g_iret rfl dX9_spread_91
def J_X9_spread_72 (o : wO) (kh19 : Int32 → Int32 → Int32 → wS → Option ((Int32 ⊕ String) × wS)) (ke78 : Int32 → Int32 → wS → Option ((Int32 ⊕ String) × wS)) (x3 : Int32) (x4 : Int32) (x5 : Int32) (w : wS) : Option ((Int32 ⊕ String) × wS) :=
  kh19 (x3) (x4) ((x5 + 1)) w
set_option maxRecDepth 20000 in
theorem J_X9_spread_72_ok {G : aG} {Hf : wS → aH} {bx : Nat} {o : wO} {kh19 : Int32 → Int32 → Int32 → wS → Option ((Int32 ⊕ String) × wS)} {ke78 : Int32 → Int32 → wS → Option ((Int32 ⊕ String) × wS)} {x3 : Int32} {x4 : Int32} {x5 : Int32} {w : wS} {r : (Int32 ⊕ String) × wS} (hG : aGood G) (E : EX Hf bx o) (hL : J_X9_spread_72 o kh19 ke78 x3 x4 x5 w = some r) (Hkh19 : ∀ (z0 : Int32) (z1 : Int32) (z2 : Int32) (w : wS), kh19 z0 z1 z2 w = some r → AG G M_X9_spread 19 [some (.ref (bx + 0)), none, some (.ref (bx + 30)), some (.int (z0)), some (.int (z1)), some (.int (z2)), none] [] (Hf w) (xRv Hf r)) (Hke78 : ∀ (z0 : Int32) (z1 : Int32) (w : wS), ke78 z0 z1 w = some r → AG G M_X9_spread 78 [none, none, none, some (.int (z0)), some (.int (z1)), none, none] [] (Hf w) (xRv Hf r)) : AG G M_X9_spread 72 [some (.ref (bx + 0)), none, some (.ref (bx + 30)), some (.int (x3)), some (.int (x4)), some (.int (x5)), none] [] (Hf w) (xRv Hf r) := by
  unfold J_X9_spread_72 at hL
  refine g_iincV (v := (x5 + 1)) dX9_spread_72 rfl rfl (by decide) rfl ?_
  refine g_goto (tgt := 19) dX9_spread_75 (by decide) ?_
  exact Hkh19 _ _ _ _ hL
def J_X9_spread_62 (o : wO) (kh19 : Int32 → Int32 → Int32 → wS → Option ((Int32 ⊕ String) × wS)) (ke78 : Int32 → Int32 → wS → Option ((Int32 ⊕ String) × wS)) (x4 : Int32) (x5 : Int32) (x6 : Int32) (y0 : Int32) (w : wS) : Option ((Int32 ⊕ String) × wS) :=
  J_X9_spread_72 o kh19 ke78 (y0) ((xMax (x4) (x6))) (x5) w
set_option maxRecDepth 20000 in
theorem J_X9_spread_62_ok {G : aG} {Hf : wS → aH} {bx : Nat} {o : wO} {kh19 : Int32 → Int32 → Int32 → wS → Option ((Int32 ⊕ String) × wS)} {ke78 : Int32 → Int32 → wS → Option ((Int32 ⊕ String) × wS)} {x4 : Int32} {x5 : Int32} {x6 : Int32} {y0 : Int32} {w : wS} {r : (Int32 ⊕ String) × wS} (hG : aGood G) (E : EX Hf bx o) (hL : J_X9_spread_62 o kh19 ke78 x4 x5 x6 y0 w = some r) (Hkh19 : ∀ (z0 : Int32) (z1 : Int32) (z2 : Int32) (w : wS), kh19 z0 z1 z2 w = some r → AG G M_X9_spread 19 [some (.ref (bx + 0)), none, some (.ref (bx + 30)), some (.int (z0)), some (.int (z1)), some (.int (z2)), none] [] (Hf w) (xRv Hf r)) (Hke78 : ∀ (z0 : Int32) (z1 : Int32) (w : wS), ke78 z0 z1 w = some r → AG G M_X9_spread 78 [none, none, none, some (.int (z0)), some (.int (z1)), none, none] [] (Hf w) (xRv Hf r)) : AG G M_X9_spread 62 [some (.ref (bx + 0)), none, some (.ref (bx + 30)), none, some (.int (x4)), some (.int (x5)), some (.int (x6))] [.int (y0)] (Hf w) (xRv Hf r) := by
  unfold J_X9_spread_62 at hL
  refine g_istore_n (i := 3) dX9_spread_62 rfl (by decide) rfl ?_
  refine g_iload dX9_spread_63 rfl ?_
  refine g_none 4 ?_
  refine g_iload dX9_spread_65 rfl ?_
  refine g_none 6 ?_
  refine g_mmax (aIn1 526 (by decide +kernel) rfl) mmax_1 mmax_2 mmax_3 (by decide) (Nat.le_of_ble_eq_true rfl) dX9_spread_67 ?_
  refine g_istore (i := 4) dX9_spread_70 (by decide) rfl ?_
  exact J_X9_spread_72_ok hG E hL Hkh19 Hke78
def B_X9_spread_19 (o : wO) (kh19 : Int32 → Int32 → Int32 → wS → Option ((Int32 ⊕ String) × wS)) (ke78 : Int32 → Int32 → wS → Option ((Int32 ⊕ String) × wS)) (x3 : Int32) (x4 : Int32) (x5 : Int32) (w : wS) : Option ((Int32 ⊕ String) × wS) :=
  xIf (xRef w 9 (oT o + 0)) (xB (xGet w 100006) fun v1 => if v1 ≤ x5 then ke78 (x3) (x4) w else xB (xAld w 35 8 (x5)) fun v2 => if v2 = (-1) then J_X9_spread_72 o kh19 ke78 (x3) (x4) (x5) w else if x3 = (-1) then J_X9_spread_62 o kh19 ke78 (x4) (x5) (v2) (v2) w else J_X9_spread_62 o kh19 ke78 (x4) (x5) (v2) ((xMin (x3) (v2))) w)
set_option maxRecDepth 20000 in
theorem B_X9_spread_19_ok {G : aG} {Hf : wS → aH} {bx : Nat} {o : wO} {kh19 : Int32 → Int32 → Int32 → wS → Option ((Int32 ⊕ String) × wS)} {ke78 : Int32 → Int32 → wS → Option ((Int32 ⊕ String) × wS)} {x3 : Int32} {x4 : Int32} {x5 : Int32} {w : wS} {r : (Int32 ⊕ String) × wS} (hG : aGood G) (E : EX Hf bx o) (hL : B_X9_spread_19 o kh19 ke78 x3 x4 x5 w = some r) (Hkh19 : ∀ (z0 : Int32) (z1 : Int32) (z2 : Int32) (w : wS), kh19 z0 z1 z2 w = some r → AG G M_X9_spread 19 [some (.ref (bx + 0)), none, some (.ref (bx + 30)), some (.int (z0)), some (.int (z1)), some (.int (z2)), none] [] (Hf w) (xRv Hf r)) (Hke78 : ∀ (z0 : Int32) (z1 : Int32) (w : wS), ke78 z0 z1 w = some r → AG G M_X9_spread 78 [none, none, none, some (.int (z0)), some (.int (z1)), none, none] [] (Hf w) (xRv Hf r)) : AG G M_X9_spread 19 [some (.ref (bx + 0)), none, some (.ref (bx + 30)), some (.int (x3)), some (.int (x4)), some (.int (x5)), none] [] (Hf w) (xRv Hf r) := by
  unfold B_X9_spread_19 at hL
  refine g_iload dX9_spread_19 rfl ?_
  refine g_aload_n dX9_spread_21 rfl rfl ?_
  refine s_getT (k := 0) (j := 9) E.1 hL rfl rfl f_X9_55 dX9_spread_22 ?_
  intro hL
  refine s_getI (k := 0) (j := 6) E.2.1 hL rfl rfl f_X9_99 dX9_spread_25 ?_
  intro v1 hL
  refine g_icmp_ge (tgt := 78) dX9_spread_28 (by decide) (fun q5 => ?_) (fun q5 => ?_)
  · rw [if_pos q5] at hL
    refine g_none 0 ?_
    refine g_none 2 ?_
    refine g_none 5 ?_
    exact Hke78 _ _ _ hL
  · rw [if_neg q5] at hL
    refine g_aload_n dX9_spread_31 rfl rfl ?_
    refine s_getR (k := 30) (j := 3) E.1 rfl rfl f_X9_261 dX9_spread_32 ?_
    refine g_iload dX9_spread_35 rfl ?_
    refine s_iald (k := 35) E.1 hL rfl dX9_spread_37 ?_
    intro v2 hL
    refine g_istore (i := 6) dX9_spread_38 (by decide) rfl ?_
    refine g_iload dX9_spread_40 rfl ?_
    refine g_iconst (v := (-1)) dX9_spread_42 (by decide) ?_
    refine g_icmp_eq (tgt := 72) dX9_spread_43 (by decide) (fun q4 => ?_) (fun q4 => ?_)
    · rw [if_pos q4] at hL
      refine g_none 6 ?_
      exact J_X9_spread_72_ok hG E hL Hkh19 Hke78
    · rw [if_neg q4] at hL
      refine g_iload_n dX9_spread_46 rfl rfl ?_
      refine g_iconst (v := (-1)) dX9_spread_47 (by decide) ?_
      refine g_icmp_ne (tgt := 56) dX9_spread_48 (by decide) (fun q3 => ?_) (fun q3 => ?_)
      · rw [if_neg q3] at hL
        refine g_iload_n dX9_spread_56 rfl rfl ?_
        refine g_none 3 ?_
        refine g_iload dX9_spread_57 rfl ?_
        refine g_mmin (aIn1 523 (by decide +kernel) rfl) mmin_1 mmin_2 mmin_3 (by decide) (Nat.le_of_ble_eq_true rfl) dX9_spread_59 ?_
        exact J_X9_spread_62_ok hG E hL Hkh19 Hke78
      · rw [if_pos q3] at hL
        refine g_none 3 ?_
        refine g_iload dX9_spread_51 rfl ?_
        refine g_goto (tgt := 62) dX9_spread_53 (by decide) ?_
        exact J_X9_spread_62_ok hG E hL Hkh19 Hke78
def P_X9_spread_19 (o : wO) (ke78 : Int32 → Int32 → wS → Option ((Int32 ⊕ String) × wS)) (n : Nat) (x3 : Int32) (x4 : Int32) (x5 : Int32) (w : wS) : Option ((Int32 ⊕ String) × wS) :=
  xLoop (fun (kk : Int32 × Int32 × Int32 × wS → Option ((Int32 ⊕ String) × wS)) σ => B_X9_spread_19 o (fun x3 x4 x5 w => kk (x3, x4, x5, w)) ke78 (σ.1) (σ.2.1) (σ.2.2.1) (σ.2.2.2)) n (x3, x4, x5, w)
theorem P_X9_spread_19_ok {G : aG} {Hf : wS → aH} {bx : Nat} {o : wO} {ke78 : Int32 → Int32 → wS → Option ((Int32 ⊕ String) × wS)} {n : Nat} {x3 : Int32} {x4 : Int32} {x5 : Int32} {w : wS} {r : (Int32 ⊕ String) × wS} (hG : aGood G) (E : EX Hf bx o) (hL : P_X9_spread_19 o ke78 n x3 x4 x5 w = some r) (Hke78 : ∀ (z0 : Int32) (z1 : Int32) (w : wS), ke78 z0 z1 w = some r → AG G M_X9_spread 78 [none, none, none, some (.int (z0)), some (.int (z1)), none, none] [] (Hf w) (xRv Hf r)) : AG G M_X9_spread 19 [some (.ref (bx + 0)), none, some (.ref (bx + 30)), some (.int (x3)), some (.int (x4)), some (.int (x5)), none] [] (Hf w) (xRv Hf r) :=
  xLoop_ok (Q := fun (σ : Int32 × Int32 × Int32 × wS) => AG G M_X9_spread 19 [some (.ref (bx + 0)), none, some (.ref (bx + 30)), some (.int (σ.1)), some (.int (σ.2.1)), some (.int (σ.2.2.1)), none] [] (Hf σ.2.2.2) (xRv Hf r)) (fun kk hk σ hσ => B_X9_spread_19_ok hG E hσ (fun x3 x4 x5 w h9 => hk (x3, x4, x5, w) h9) Hke78) n (x3, x4, x5, w) hL
def L_X9_spread (o : wO) (a1 : Int32) (w : wS) : Option ((Int32 ⊕ String) × wS) :=
  xBT (L_X9_needDuty o (a1) w) (fun E9 => some (.inr E9, w)) (xB (L_X9_nextDayTo o (a1) w) fun w6 => P_X9_spread_19 o (fun z7 z8 w9 => if z7 = (-1) then J_X9_spread_91 o  ((-1)) w9 else J_X9_spread_91 o  ((z8 - z7)) w9) 5000 ((-1)) ((-1)) (0) w6)
set_option maxRecDepth 20000 in
theorem C_X9_spread {G : aG} {Hf : wS → aH} {bx : Nat} {o : wO} {a1 : Int32} {w : wS} {r : (Int32 ⊕ String) × wS} (hG : aGood G) (E : EX Hf bx o) (hL : L_X9_spread o a1 w = some r) : AC G M_X9_spread [.ref (bx + 0), .int a1] (Hf w) (xRv Hf r) := by
  unfold L_X9_spread at hL
  refine AC.of (by decide) rfl (Nat.le_of_ble_eq_true rfl) ?_
  show AG G M_X9_spread 0 [some (.ref (bx + 0)), some (.int (a1)), none, none, none, none, none] [] _ _
  refine g_aload_n dX9_spread_0 rfl rfl ?_
  refine g_iload_n dX9_spread_1 rfl rfl ?_
  rcases xBT_some hL with ⟨hc, hL⟩ | ⟨E9, hc, hL⟩
  · refine g_callV (M' := M_X9_needDuty) (as := [.int (a1)]) (v := none) l_X9_175 kV_X9_needDuty (by decide) (C_X9_needDuty hG E hc) rfl (by have := E.1.1; omega) (E.1.2.1 _ 0 _ rfl) ⟨_, _, rfl⟩ (Nat.le_of_ble_eq_true rfl) dX9_spread_2 ?_
    refine g_aload_n dX9_spread_5 rfl rfl ?_
    refine g_iload_n dX9_spread_6 rfl rfl ?_
    refine g_none 1 ?_
    obtain ⟨w6, hc, hL⟩ := xB_some hL
    refine g_callV (M' := M_X9_nextDayTo) (as := [.int (a1)]) (v := some (.ref (bx + 30))) l_X9_251 kV_X9_nextDayTo (by decide) (C_X9_nextDayTo hG E hc) rfl (by have := E.1.1; omega) (E.1.2.1 _ 0 _ rfl) ⟨_, _, rfl⟩ (Nat.le_of_ble_eq_true rfl) dX9_spread_7 ?_
    refine g_astore_n (i := 2) dX9_spread_10 rfl (by decide) rfl ?_
    refine g_iconst (v := (-1)) dX9_spread_11 (by decide) ?_
    refine g_istore_n (i := 3) dX9_spread_12 rfl (by decide) rfl ?_
    refine g_iconst (v := (-1)) dX9_spread_13 (by decide) ?_
    refine g_istore (i := 4) dX9_spread_14 (by decide) rfl ?_
    refine g_iconst (v := 0) dX9_spread_16 (by decide) ?_
    refine g_istore (i := 5) dX9_spread_17 (by decide) rfl ?_
    refine P_X9_spread_19_ok hG E hL ?_
    · intro z7 z8 w9 hL
      refine g_iload_n dX9_spread_78 rfl rfl ?_
      refine g_iconst (v := (-1)) dX9_spread_79 (by decide) ?_
      refine g_icmp_ne (tgt := 87) dX9_spread_80 (by decide) (fun q10 => ?_) (fun q10 => ?_)
      · rw [if_neg q10] at hL
        refine g_iload dX9_spread_87 rfl ?_
        refine g_none 4 ?_
        refine g_iload_n dX9_spread_89 rfl rfl ?_
        refine g_none 3 ?_
        refine g_isub dX9_spread_90 ?_
        exact J_X9_spread_91_ok hG E hL 
      · rw [if_pos q10] at hL
        refine g_none 3 ?_
        refine g_none 4 ?_
        refine g_iconst (v := (-1)) dX9_spread_83 (by decide) ?_
        refine g_goto (tgt := 91) dX9_spread_84 (by decide) ?_
        exact J_X9_spread_91_ok hG E hL 
  · obtain rfl := Option.some.inj hL
    exact g_callVX (M' := M_X9_needDuty) (as := [.int (a1)]) (E := E9) (aIn1 972 (by decide +kernel) rfl) kV_X9_needDuty (by decide) rfl (C_X9_needDuty hG E hc) rfl (by have := E.1.1; omega) (E.1.2.1 _ 0 _ rfl) ⟨_, _, rfl⟩ (Nat.le_of_ble_eq_true rfl) dX9_spread_2
def J_X9_ahead_76 (o : wO) (kh34 : Int32 → Int32 → Int32 → wS → Option ((Int32 ⊕ String) × wS)) (ke82 : Int32 → wS → Option ((Int32 ⊕ String) × wS)) (x1 : Int32) (x4 : Int32) (x5 : Int32) (w : wS) : Option ((Int32 ⊕ String) × wS) :=
  kh34 (x1) (x4) ((x5 + 1)) w
set_option maxRecDepth 20000 in
theorem J_X9_ahead_76_ok {G : aG} {Hf : wS → aH} {bx : Nat} {o : wO} {kh34 : Int32 → Int32 → Int32 → wS → Option ((Int32 ⊕ String) × wS)} {ke82 : Int32 → wS → Option ((Int32 ⊕ String) × wS)} {x1 : Int32} {x4 : Int32} {x5 : Int32} {w : wS} {r : (Int32 ⊕ String) × wS} (hG : aGood G) (E : EX Hf bx o) (hL : J_X9_ahead_76 o kh34 ke82 x1 x4 x5 w = some r) (Hkh34 : ∀ (z0 : Int32) (z1 : Int32) (z2 : Int32) (w : wS), kh34 z0 z1 z2 w = some r → AG G M_X9_ahead 34 [some (.ref (bx + 0)), some (.int (z0)), none, some (.ref (bx + 30)), some (.int (z1)), some (.int (z2))] [] (Hf w) (xRv Hf r)) (Hke82 : ∀ (z0 : Int32) (w : wS), ke82 z0 w = some r → AG G M_X9_ahead 82 [none, none, none, none, some (.int (z0)), none] [] (Hf w) (xRv Hf r)) : AG G M_X9_ahead 76 [some (.ref (bx + 0)), some (.int (x1)), none, some (.ref (bx + 30)), some (.int (x4)), some (.int (x5))] [] (Hf w) (xRv Hf r) := by
  unfold J_X9_ahead_76 at hL
  refine g_iincV (v := (x5 + 1)) dX9_ahead_76 rfl rfl (by decide) rfl ?_
  refine g_goto (tgt := 34) dX9_ahead_79 (by decide) ?_
  exact Hkh34 _ _ _ _ hL
def B_X9_ahead_34 (o : wO) (kh34 : Int32 → Int32 → Int32 → wS → Option ((Int32 ⊕ String) × wS)) (ke82 : Int32 → wS → Option ((Int32 ⊕ String) × wS)) (x1 : Int32) (x4 : Int32) (x5 : Int32) (w : wS) : Option ((Int32 ⊕ String) × wS) :=
  xIf (xRef w 9 (oT o + 0)) (xB (xGet w 100006) fun v1 => if v1 ≤ x5 then ke82 (x4) w else xB (xAld w 35 8 (x5)) fun v2 => if v2 = (-1) then J_X9_ahead_76 o kh34 ke82 (x1) (x4) (x5) w else xB (xAld w 35 8 (x5)) fun v3 => xB (xAld w 35 8 (x1)) fun v4 => if v4 ≤ v3 then J_X9_ahead_76 o kh34 ke82 (x1) (x4) (x5) w else J_X9_ahead_76 o kh34 ke82 (x1) ((x4 + 1)) (x5) w)
set_option maxRecDepth 20000 in
theorem B_X9_ahead_34_ok {G : aG} {Hf : wS → aH} {bx : Nat} {o : wO} {kh34 : Int32 → Int32 → Int32 → wS → Option ((Int32 ⊕ String) × wS)} {ke82 : Int32 → wS → Option ((Int32 ⊕ String) × wS)} {x1 : Int32} {x4 : Int32} {x5 : Int32} {w : wS} {r : (Int32 ⊕ String) × wS} (hG : aGood G) (E : EX Hf bx o) (hL : B_X9_ahead_34 o kh34 ke82 x1 x4 x5 w = some r) (Hkh34 : ∀ (z0 : Int32) (z1 : Int32) (z2 : Int32) (w : wS), kh34 z0 z1 z2 w = some r → AG G M_X9_ahead 34 [some (.ref (bx + 0)), some (.int (z0)), none, some (.ref (bx + 30)), some (.int (z1)), some (.int (z2))] [] (Hf w) (xRv Hf r)) (Hke82 : ∀ (z0 : Int32) (w : wS), ke82 z0 w = some r → AG G M_X9_ahead 82 [none, none, none, none, some (.int (z0)), none] [] (Hf w) (xRv Hf r)) : AG G M_X9_ahead 34 [some (.ref (bx + 0)), some (.int (x1)), none, some (.ref (bx + 30)), some (.int (x4)), some (.int (x5))] [] (Hf w) (xRv Hf r) := by
  unfold B_X9_ahead_34 at hL
  refine g_iload dX9_ahead_34 rfl ?_
  refine g_aload_n dX9_ahead_36 rfl rfl ?_
  refine s_getT (k := 0) (j := 9) E.1 hL rfl rfl f_X9_55 dX9_ahead_37 ?_
  intro hL
  refine s_getI (k := 0) (j := 6) E.2.1 hL rfl rfl f_X9_99 dX9_ahead_40 ?_
  intro v1 hL
  refine g_icmp_ge (tgt := 82) dX9_ahead_43 (by decide) (fun q7 => ?_) (fun q7 => ?_)
  · rw [if_pos q7] at hL
    refine g_none 0 ?_
    refine g_none 1 ?_
    refine g_none 3 ?_
    refine g_none 5 ?_
    exact Hke82 _ _ hL
  · rw [if_neg q7] at hL
    refine g_aload_n dX9_ahead_46 rfl rfl ?_
    refine s_getR (k := 30) (j := 3) E.1 rfl rfl f_X9_261 dX9_ahead_47 ?_
    refine g_iload dX9_ahead_50 rfl ?_
    refine s_iald (k := 35) E.1 hL rfl dX9_ahead_52 ?_
    intro v2 hL
    refine g_iconst (v := (-1)) dX9_ahead_53 (by decide) ?_
    refine g_icmp_eq (tgt := 76) dX9_ahead_54 (by decide) (fun q6 => ?_) (fun q6 => ?_)
    · rw [if_pos q6] at hL
      exact J_X9_ahead_76_ok hG E hL Hkh34 Hke82
    · rw [if_neg q6] at hL
      refine g_aload_n dX9_ahead_57 rfl rfl ?_
      refine s_getR (k := 30) (j := 3) E.1 rfl rfl f_X9_261 dX9_ahead_58 ?_
      refine g_iload dX9_ahead_61 rfl ?_
      refine s_iald (k := 35) E.1 hL rfl dX9_ahead_63 ?_
      intro v3 hL
      refine g_aload_n dX9_ahead_64 rfl rfl ?_
      refine s_getR (k := 30) (j := 3) E.1 rfl rfl f_X9_261 dX9_ahead_65 ?_
      refine g_iload_n dX9_ahead_68 rfl rfl ?_
      refine s_iald (k := 35) E.1 hL rfl dX9_ahead_69 ?_
      intro v4 hL
      refine g_icmp_ge (tgt := 76) dX9_ahead_70 (by decide) (fun q5 => ?_) (fun q5 => ?_)
      · rw [if_pos q5] at hL
        exact J_X9_ahead_76_ok hG E hL Hkh34 Hke82
      · rw [if_neg q5] at hL
        refine g_iincV (v := (x4 + 1)) dX9_ahead_73 rfl rfl (by decide) rfl ?_
        exact J_X9_ahead_76_ok hG E hL Hkh34 Hke82
def P_X9_ahead_34 (o : wO) (ke82 : Int32 → wS → Option ((Int32 ⊕ String) × wS)) (n : Nat) (x1 : Int32) (x4 : Int32) (x5 : Int32) (w : wS) : Option ((Int32 ⊕ String) × wS) :=
  xLoop (fun (kk : Int32 × Int32 × Int32 × wS → Option ((Int32 ⊕ String) × wS)) σ => B_X9_ahead_34 o (fun x1 x4 x5 w => kk (x1, x4, x5, w)) ke82 (σ.1) (σ.2.1) (σ.2.2.1) (σ.2.2.2)) n (x1, x4, x5, w)
theorem P_X9_ahead_34_ok {G : aG} {Hf : wS → aH} {bx : Nat} {o : wO} {ke82 : Int32 → wS → Option ((Int32 ⊕ String) × wS)} {n : Nat} {x1 : Int32} {x4 : Int32} {x5 : Int32} {w : wS} {r : (Int32 ⊕ String) × wS} (hG : aGood G) (E : EX Hf bx o) (hL : P_X9_ahead_34 o ke82 n x1 x4 x5 w = some r) (Hke82 : ∀ (z0 : Int32) (w : wS), ke82 z0 w = some r → AG G M_X9_ahead 82 [none, none, none, none, some (.int (z0)), none] [] (Hf w) (xRv Hf r)) : AG G M_X9_ahead 34 [some (.ref (bx + 0)), some (.int (x1)), none, some (.ref (bx + 30)), some (.int (x4)), some (.int (x5))] [] (Hf w) (xRv Hf r) :=
  xLoop_ok (Q := fun (σ : Int32 × Int32 × Int32 × wS) => AG G M_X9_ahead 34 [some (.ref (bx + 0)), some (.int (σ.1)), none, some (.ref (bx + 30)), some (.int (σ.2.1)), some (.int (σ.2.2.1))] [] (Hf σ.2.2.2) (xRv Hf r)) (fun kk hk σ hσ => B_X9_ahead_34_ok hG E hσ (fun x1 x4 x5 w h9 => hk (x1, x4, x5, w) h9) Hke82) n (x1, x4, x5, w) hL
def L_X9_ahead (o : wO) (a1 : Int32) (a2 : Int32) (w : wS) : Option ((Int32 ⊕ String) × wS) :=
  xBT (L_X9_needPerson o (a1) w) (fun E9 => some (.inr E9, w)) (xBT (L_X9_needDuty o (a2) w) (fun E9 => some (.inr E9, w)) (xB (L_X9_nextDayTo o (a2) w) fun w8 => xB (xAld w8 35 8 (a1)) fun v9 => if v9 = (-1) then some (.inl ((-1)), w8) else P_X9_ahead_34 o (fun z10 w11 => some (.inl (z10), w11)) 5000 (a1) (0) (0) w8))
set_option maxRecDepth 20000 in
theorem C_X9_ahead {G : aG} {Hf : wS → aH} {bx : Nat} {o : wO} {a1 : Int32} {a2 : Int32} {w : wS} {r : (Int32 ⊕ String) × wS} (hG : aGood G) (E : EX Hf bx o) (hL : L_X9_ahead o a1 a2 w = some r) : AC G M_X9_ahead [.ref (bx + 0), .int a1, .int a2] (Hf w) (xRv Hf r) := by
  unfold L_X9_ahead at hL
  refine AC.of (by decide) rfl (Nat.le_of_ble_eq_true rfl) ?_
  show AG G M_X9_ahead 0 [some (.ref (bx + 0)), some (.int (a1)), some (.int (a2)), none, none, none] [] _ _
  refine g_aload_n dX9_ahead_0 rfl rfl ?_
  refine g_iload_n dX9_ahead_1 rfl rfl ?_
  rcases xBT_some hL with ⟨hc, hL⟩ | ⟨E9, hc, hL⟩
  · refine g_callV (M' := M_X9_needPerson) (as := [.int (a1)]) (v := none) l_X9_147 kV_X9_needPerson (by decide) (C_X9_needPerson hG E hc) rfl (by have := E.1.1; omega) (E.1.2.1 _ 0 _ rfl) ⟨_, _, rfl⟩ (Nat.le_of_ble_eq_true rfl) dX9_ahead_2 ?_
    refine g_aload_n dX9_ahead_5 rfl rfl ?_
    refine g_iload_n dX9_ahead_6 rfl rfl ?_
    rcases xBT_some hL with ⟨hc, hL⟩ | ⟨E9, hc, hL⟩
    · refine g_callV (M' := M_X9_needDuty) (as := [.int (a2)]) (v := none) l_X9_175 kV_X9_needDuty (by decide) (C_X9_needDuty hG E hc) rfl (by have := E.1.1; omega) (E.1.2.1 _ 0 _ rfl) ⟨_, _, rfl⟩ (Nat.le_of_ble_eq_true rfl) dX9_ahead_7 ?_
      refine g_aload_n dX9_ahead_10 rfl rfl ?_
      refine g_iload_n dX9_ahead_11 rfl rfl ?_
      refine g_none 2 ?_
      obtain ⟨w8, hc, hL⟩ := xB_some hL
      refine g_callV (M' := M_X9_nextDayTo) (as := [.int (a2)]) (v := some (.ref (bx + 30))) l_X9_251 kV_X9_nextDayTo (by decide) (C_X9_nextDayTo hG E hc) rfl (by have := E.1.1; omega) (E.1.2.1 _ 0 _ rfl) ⟨_, _, rfl⟩ (Nat.le_of_ble_eq_true rfl) dX9_ahead_12 ?_
      refine g_astore_n (i := 3) dX9_ahead_15 rfl (by decide) rfl ?_
      refine g_aload_n dX9_ahead_16 rfl rfl ?_
      refine s_getR (k := 30) (j := 3) E.1 rfl rfl f_X9_261 dX9_ahead_17 ?_
      refine g_iload_n dX9_ahead_20 rfl rfl ?_
      refine s_iald (k := 35) E.1 hL rfl dX9_ahead_21 ?_
      intro v9 hL
      refine g_iconst (v := (-1)) dX9_ahead_22 (by decide) ?_
      refine g_icmp_ne (tgt := 28) dX9_ahead_23 (by decide) (fun q12 => ?_) (fun q12 => ?_)
      · rw [if_neg q12] at hL
        refine g_iconst (v := 0) dX9_ahead_28 (by decide) ?_
        refine g_istore (i := 4) dX9_ahead_29 (by decide) rfl ?_
        refine g_iconst (v := 0) dX9_ahead_31 (by decide) ?_
        refine g_istore (i := 5) dX9_ahead_32 (by decide) rfl ?_
        refine P_X9_ahead_34_ok hG E hL ?_
        · intro z10 w11 hL
          refine g_iload dX9_ahead_82 rfl ?_
          refine g_none 4 ?_
          obtain rfl := Option.some.inj hL
          exact g_iret rfl dX9_ahead_84
      · rw [if_pos q12] at hL
        refine g_none 0 ?_
        refine g_none 1 ?_
        refine g_none 3 ?_
        refine g_iconst (v := (-1)) dX9_ahead_26 (by decide) ?_
        obtain rfl := Option.some.inj hL
        exact g_iret rfl dX9_ahead_27
    · obtain rfl := Option.some.inj hL
      exact g_callVX (M' := M_X9_needDuty) (as := [.int (a2)]) (E := E9) (aIn1 972 (by decide +kernel) rfl) kV_X9_needDuty (by decide) rfl (C_X9_needDuty hG E hc) rfl (by have := E.1.1; omega) (E.1.2.1 _ 0 _ rfl) ⟨_, _, rfl⟩ (Nat.le_of_ble_eq_true rfl) dX9_ahead_7
  · obtain rfl := Option.some.inj hL
    exact g_callVX (M' := M_X9_needPerson) (as := [.int (a1)]) (E := E9) (aIn1 956 (by decide +kernel) rfl) kV_X9_needPerson (by decide) rfl (C_X9_needPerson hG E hc) rfl (by have := E.1.1; omega) (E.1.2.1 _ 0 _ rfl) ⟨_, _, rfl⟩ (Nat.le_of_ble_eq_true rfl) dX9_ahead_2
def J_X9_loses_49 (o : wO) (kh19 : Int32 → Int32 → Int32 → wS → Option ((Int32 ⊕ String) × wS)) (ke55 : Int32 → wS → Option ((Int32 ⊕ String) × wS)) (x1 : Int32) (x3 : Int32) (x4 : Int32) (w : wS) : Option ((Int32 ⊕ String) × wS) :=
  kh19 (x1) (x3) ((x4 + 1)) w
set_option maxRecDepth 20000 in
theorem J_X9_loses_49_ok {G : aG} {Hf : wS → aH} {bx : Nat} {o : wO} {kh19 : Int32 → Int32 → Int32 → wS → Option ((Int32 ⊕ String) × wS)} {ke55 : Int32 → wS → Option ((Int32 ⊕ String) × wS)} {x1 : Int32} {x3 : Int32} {x4 : Int32} {w : wS} {r : (Int32 ⊕ String) × wS} (hG : aGood G) (E : EX Hf bx o) (hL : J_X9_loses_49 o kh19 ke55 x1 x3 x4 w = some r) (Hkh19 : ∀ (z0 : Int32) (z1 : Int32) (z2 : Int32) (w : wS), kh19 z0 z1 z2 w = some r → AG G M_X9_loses 19 [some (.ref (bx + 0)), some (.int (z0)), some (.ref (bx + 30)), some (.int (z1)), some (.int (z2))] [] (Hf w) (xRv Hf r)) (Hke55 : ∀ (z0 : Int32) (w : wS), ke55 z0 w = some r → AG G M_X9_loses 55 [none, none, none, some (.int (z0)), none] [] (Hf w) (xRv Hf r)) : AG G M_X9_loses 49 [some (.ref (bx + 0)), some (.int (x1)), some (.ref (bx + 30)), some (.int (x3)), some (.int (x4))] [] (Hf w) (xRv Hf r) := by
  unfold J_X9_loses_49 at hL
  refine g_iincV (v := (x4 + 1)) dX9_loses_49 rfl rfl (by decide) rfl ?_
  refine g_goto (tgt := 19) dX9_loses_52 (by decide) ?_
  exact Hkh19 _ _ _ _ hL
def B_X9_loses_19 (o : wO) (kh19 : Int32 → Int32 → Int32 → wS → Option ((Int32 ⊕ String) × wS)) (ke55 : Int32 → wS → Option ((Int32 ⊕ String) × wS)) (x1 : Int32) (x3 : Int32) (x4 : Int32) (w : wS) : Option ((Int32 ⊕ String) × wS) :=
  xIf (xRef w 9 (oT o + 0)) (xB (xGet w 100007) fun v1 => if v1 ≤ x4 then ke55 (x3) w else xB (xAld w 39 6 (x4)) fun v2 => if v2 = x1 then J_X9_loses_49 o kh19 ke55 (x1) ((x3 ||| ((1 : Int32) <<< (x4 &&& 31)))) (x4) w else J_X9_loses_49 o kh19 ke55 (x1) (x3) (x4) w)
set_option maxRecDepth 20000 in
theorem B_X9_loses_19_ok {G : aG} {Hf : wS → aH} {bx : Nat} {o : wO} {kh19 : Int32 → Int32 → Int32 → wS → Option ((Int32 ⊕ String) × wS)} {ke55 : Int32 → wS → Option ((Int32 ⊕ String) × wS)} {x1 : Int32} {x3 : Int32} {x4 : Int32} {w : wS} {r : (Int32 ⊕ String) × wS} (hG : aGood G) (E : EX Hf bx o) (hL : B_X9_loses_19 o kh19 ke55 x1 x3 x4 w = some r) (Hkh19 : ∀ (z0 : Int32) (z1 : Int32) (z2 : Int32) (w : wS), kh19 z0 z1 z2 w = some r → AG G M_X9_loses 19 [some (.ref (bx + 0)), some (.int (z0)), some (.ref (bx + 30)), some (.int (z1)), some (.int (z2))] [] (Hf w) (xRv Hf r)) (Hke55 : ∀ (z0 : Int32) (w : wS), ke55 z0 w = some r → AG G M_X9_loses 55 [none, none, none, some (.int (z0)), none] [] (Hf w) (xRv Hf r)) : AG G M_X9_loses 19 [some (.ref (bx + 0)), some (.int (x1)), some (.ref (bx + 30)), some (.int (x3)), some (.int (x4))] [] (Hf w) (xRv Hf r) := by
  unfold B_X9_loses_19 at hL
  refine g_iload dX9_loses_19 rfl ?_
  refine g_aload_n dX9_loses_21 rfl rfl ?_
  refine s_getT (k := 0) (j := 9) E.1 hL rfl rfl f_X9_55 dX9_loses_22 ?_
  intro hL
  refine s_getI (k := 0) (j := 7) E.2.1 hL rfl rfl f_X9_102 dX9_loses_25 ?_
  intro v1 hL
  refine g_icmp_ge (tgt := 55) dX9_loses_28 (by decide) (fun q4 => ?_) (fun q4 => ?_)
  · rw [if_pos q4] at hL
    refine g_none 0 ?_
    refine g_none 1 ?_
    refine g_none 2 ?_
    refine g_none 4 ?_
    exact Hke55 _ _ hL
  · rw [if_neg q4] at hL
    refine g_aload_n dX9_loses_31 rfl rfl ?_
    refine s_getR (k := 30) (j := 7) E.1 rfl rfl f_X9_231 dX9_loses_32 ?_
    refine g_iload dX9_loses_35 rfl ?_
    refine s_iald (k := 39) E.1 hL rfl dX9_loses_37 ?_
    intro v2 hL
    refine g_iload_n dX9_loses_38 rfl rfl ?_
    refine g_icmp_ne (tgt := 49) dX9_loses_39 (by decide) (fun q3 => ?_) (fun q3 => ?_)
    · rw [if_neg q3] at hL
      exact J_X9_loses_49_ok hG E hL Hkh19 Hke55
    · rw [if_pos q3] at hL
      refine g_iload_n dX9_loses_42 rfl rfl ?_
      refine g_none 3 ?_
      refine g_iconst (v := 1) dX9_loses_43 (by decide) ?_
      refine g_iload dX9_loses_44 rfl ?_
      refine g_ishl dX9_loses_46 ?_
      refine g_ior dX9_loses_47 ?_
      refine g_istore_n (i := 3) dX9_loses_48 rfl (by decide) rfl ?_
      exact J_X9_loses_49_ok hG E hL Hkh19 Hke55
def P_X9_loses_19 (o : wO) (ke55 : Int32 → wS → Option ((Int32 ⊕ String) × wS)) (n : Nat) (x1 : Int32) (x3 : Int32) (x4 : Int32) (w : wS) : Option ((Int32 ⊕ String) × wS) :=
  xLoop (fun (kk : Int32 × Int32 × Int32 × wS → Option ((Int32 ⊕ String) × wS)) σ => B_X9_loses_19 o (fun x1 x3 x4 w => kk (x1, x3, x4, w)) ke55 (σ.1) (σ.2.1) (σ.2.2.1) (σ.2.2.2)) n (x1, x3, x4, w)
theorem P_X9_loses_19_ok {G : aG} {Hf : wS → aH} {bx : Nat} {o : wO} {ke55 : Int32 → wS → Option ((Int32 ⊕ String) × wS)} {n : Nat} {x1 : Int32} {x3 : Int32} {x4 : Int32} {w : wS} {r : (Int32 ⊕ String) × wS} (hG : aGood G) (E : EX Hf bx o) (hL : P_X9_loses_19 o ke55 n x1 x3 x4 w = some r) (Hke55 : ∀ (z0 : Int32) (w : wS), ke55 z0 w = some r → AG G M_X9_loses 55 [none, none, none, some (.int (z0)), none] [] (Hf w) (xRv Hf r)) : AG G M_X9_loses 19 [some (.ref (bx + 0)), some (.int (x1)), some (.ref (bx + 30)), some (.int (x3)), some (.int (x4))] [] (Hf w) (xRv Hf r) :=
  xLoop_ok (Q := fun (σ : Int32 × Int32 × Int32 × wS) => AG G M_X9_loses 19 [some (.ref (bx + 0)), some (.int (σ.1)), some (.ref (bx + 30)), some (.int (σ.2.1)), some (.int (σ.2.2.1))] [] (Hf σ.2.2.2) (xRv Hf r)) (fun kk hk σ hσ => B_X9_loses_19_ok hG E hσ (fun x1 x3 x4 w h9 => hk (x1, x3, x4, w) h9) Hke55) n (x1, x3, x4, w) hL
def L_X9_loses (o : wO) (a1 : Int32) (w : wS) : Option ((Int32 ⊕ String) × wS) :=
  xBT (L_X9_needPerson o (a1) w) (fun E9 => some (.inr E9, w)) (xB (L_X9_fromNow o  w) fun w5 => xB (L_X1_oneDay o  w5) fun w6 => P_X9_loses_19 o (fun z7 w8 => some (.inl (z7), w8)) 5000 (a1) (0) (0) w6)
set_option maxRecDepth 20000 in
theorem C_X9_loses {G : aG} {Hf : wS → aH} {bx : Nat} {o : wO} {a1 : Int32} {w : wS} {r : (Int32 ⊕ String) × wS} (hG : aGood G) (E : EX Hf bx o) (hL : L_X9_loses o a1 w = some r) : AC G M_X9_loses [.ref (bx + 0), .int a1] (Hf w) (xRv Hf r) := by
  unfold L_X9_loses at hL
  refine AC.of (by decide) rfl (Nat.le_of_ble_eq_true rfl) ?_
  show AG G M_X9_loses 0 [some (.ref (bx + 0)), some (.int (a1)), none, none, none] [] _ _
  refine g_aload_n dX9_loses_0 rfl rfl ?_
  refine g_iload_n dX9_loses_1 rfl rfl ?_
  rcases xBT_some hL with ⟨hc, hL⟩ | ⟨E9, hc, hL⟩
  · refine g_callV (M' := M_X9_needPerson) (as := [.int (a1)]) (v := none) l_X9_147 kV_X9_needPerson (by decide) (C_X9_needPerson hG E hc) rfl (by have := E.1.1; omega) (E.1.2.1 _ 0 _ rfl) ⟨_, _, rfl⟩ (Nat.le_of_ble_eq_true rfl) dX9_loses_2 ?_
    refine g_aload_n dX9_loses_5 rfl rfl ?_
    obtain ⟨w5, hc, hL⟩ := xB_some hL
    refine g_callV (M' := M_X9_fromNow) (as := []) (v := some (.ref (bx + 30))) l_X9_193 kV_X9_fromNow (by decide) (C_X9_fromNow hG E hc) rfl (by have := E.1.1; omega) (E.1.2.1 _ 0 _ rfl) ⟨_, _, rfl⟩ (Nat.le_of_ble_eq_true rfl) dX9_loses_6 ?_
    refine g_astore_n (i := 2) dX9_loses_9 rfl (by decide) rfl ?_
    refine g_aload_n dX9_loses_10 rfl rfl ?_
    obtain ⟨w6, hc, hL⟩ := xB_some hL
    refine g_callV (M' := M_X1_oneDay) (as := []) (v := none) l_X9_234 kV_X1_oneDay (by decide) (C_X1_oneDay hG E hc) rfl (by have := E.1.1; omega) (E.1.2.1 _ 30 _ rfl) ⟨_, _, rfl⟩ (Nat.le_of_ble_eq_true rfl) dX9_loses_11 ?_
    refine g_iconst (v := 0) dX9_loses_14 (by decide) ?_
    refine g_istore_n (i := 3) dX9_loses_15 rfl (by decide) rfl ?_
    refine g_iconst (v := 0) dX9_loses_16 (by decide) ?_
    refine g_istore (i := 4) dX9_loses_17 (by decide) rfl ?_
    refine P_X9_loses_19_ok hG E hL ?_
    · intro z7 w8 hL
      refine g_iload_n dX9_loses_55 rfl rfl ?_
      refine g_none 3 ?_
      obtain rfl := Option.some.inj hL
      exact g_iret rfl dX9_loses_56
  · obtain rfl := Option.some.inj hL
    exact g_callVX (M' := M_X9_needPerson) (as := [.int (a1)]) (E := E9) (aIn1 956 (by decide +kernel) rfl) kV_X9_needPerson (by decide) rfl (C_X9_needPerson hG E hc) rfl (by have := E.1.1; omega) (E.1.2.1 _ 0 _ rfl) ⟨_, _, rfl⟩ (Nat.le_of_ble_eq_true rfl) dX9_loses_2
def J_X9_late_38 (o : wO) (y0 : Int32) (w : wS) : Option ((Int32 ⊕ String) × wS) :=
  some (.inl (y0), w)
set_option maxRecDepth 20000 in
theorem J_X9_late_38_ok {G : aG} {Hf : wS → aH} {bx : Nat} {o : wO} {y0 : Int32} {w : wS} {r : (Int32 ⊕ String) × wS} (hG : aGood G) (E : EX Hf bx o) (hL : J_X9_late_38 o  y0 w = some r) : AG G M_X9_late 38 [none, none, none, none] [.int (y0)] (Hf w) (xRv Hf r) := by
  unfold J_X9_late_38 at hL
  obtain rfl := Option.some.inj hL
  exact g_iret rfl dX9_late_38
def L_X9_late (o : wO) (a1 : Int32) (a2 : Int32) (w : wS) : Option ((Int32 ⊕ String) × wS) :=
  xBT (L_X9_needPerson o (a1) w) (fun E9 => some (.inr E9, w)) (xBT (L_X9_needDuty o (a2) w) (fun E9 => some (.inr E9, w)) (xB (L_X9_nextDayTo o (a2) w) fun w1 => xB (xAld w1 35 8 (a1)) fun v2 => if v2 = (-1) then J_X9_late_38 o  ((-1)) w1 else xB2 (L_X5_lateOf_x31 o (a1) w1) fun v3 w4 => J_X9_late_38 o  (v3) w4))
set_option maxRecDepth 20000 in
theorem C_X9_late {G : aG} {Hf : wS → aH} {bx : Nat} {o : wO} {a1 : Int32} {a2 : Int32} {w : wS} {r : (Int32 ⊕ String) × wS} (hG : aGood G) (E : EX Hf bx o) (hL : L_X9_late o a1 a2 w = some r) : AC G M_X9_late [.ref (bx + 0), .int a1, .int a2] (Hf w) (xRv Hf r) := by
  unfold L_X9_late at hL
  refine AC.of (by decide) rfl (Nat.le_of_ble_eq_true rfl) ?_
  show AG G M_X9_late 0 [some (.ref (bx + 0)), some (.int (a1)), some (.int (a2)), none] [] _ _
  refine g_aload_n dX9_late_0 rfl rfl ?_
  refine g_iload_n dX9_late_1 rfl rfl ?_
  rcases xBT_some hL with ⟨hc, hL⟩ | ⟨E9, hc, hL⟩
  · refine g_callV (M' := M_X9_needPerson) (as := [.int (a1)]) (v := none) l_X9_147 kV_X9_needPerson (by decide) (C_X9_needPerson hG E hc) rfl (by have := E.1.1; omega) (E.1.2.1 _ 0 _ rfl) ⟨_, _, rfl⟩ (Nat.le_of_ble_eq_true rfl) dX9_late_2 ?_
    refine g_aload_n dX9_late_5 rfl rfl ?_
    refine g_iload_n dX9_late_6 rfl rfl ?_
    rcases xBT_some hL with ⟨hc, hL⟩ | ⟨E9, hc, hL⟩
    · refine g_callV (M' := M_X9_needDuty) (as := [.int (a2)]) (v := none) l_X9_175 kV_X9_needDuty (by decide) (C_X9_needDuty hG E hc) rfl (by have := E.1.1; omega) (E.1.2.1 _ 0 _ rfl) ⟨_, _, rfl⟩ (Nat.le_of_ble_eq_true rfl) dX9_late_7 ?_
      refine g_aload_n dX9_late_10 rfl rfl ?_
      refine g_none 0 ?_
      refine g_iload_n dX9_late_11 rfl rfl ?_
      refine g_none 2 ?_
      obtain ⟨w1, hc, hL⟩ := xB_some hL
      refine g_callV (M' := M_X9_nextDayTo) (as := [.int (a2)]) (v := some (.ref (bx + 30))) l_X9_251 kV_X9_nextDayTo (by decide) (C_X9_nextDayTo hG E hc) rfl (by have := E.1.1; omega) (E.1.2.1 _ 0 _ rfl) ⟨_, _, rfl⟩ (Nat.le_of_ble_eq_true rfl) dX9_late_12 ?_
      refine g_astore_n (i := 3) dX9_late_15 rfl (by decide) rfl ?_
      refine g_aload_n dX9_late_16 rfl rfl ?_
      refine s_getR (k := 30) (j := 3) E.1 rfl rfl f_X9_261 dX9_late_17 ?_
      refine g_iload_n dX9_late_20 rfl rfl ?_
      refine s_iald (k := 35) E.1 hL rfl dX9_late_21 ?_
      intro v2 hL
      refine g_iconst (v := (-1)) dX9_late_22 (by decide) ?_
      refine g_icmp_ne (tgt := 30) dX9_late_23 (by decide) (fun q5 => ?_) (fun q5 => ?_)
      · rw [if_neg q5] at hL
        refine g_aload_n dX9_late_30 rfl rfl ?_
        refine g_none 3 ?_
        refine s_getR (k := 30) (j := 0) E.1 rfl rfl f_X9_200 dX9_late_31 ?_
        refine g_iload_n dX9_late_34 rfl rfl ?_
        refine g_none 1 ?_
        obtain ⟨v3, w4, hc, hL⟩ := xB2_some hL
        refine g_callV (M' := M_X5_lateOf) (as := [.int (a1)]) (v := some (.int (v3))) l_X9_160 kV_X5_lateOf (by decide) (C_X5_lateOf_x31 hG E hc) rfl (by have := E.1.1; omega) (E.1.2.1 _ 31 _ rfl) ⟨_, _, rfl⟩ (Nat.le_of_ble_eq_true rfl) dX9_late_35 ?_
        exact J_X9_late_38_ok hG E hL 
      · rw [if_pos q5] at hL
        refine g_none 1 ?_
        refine g_none 3 ?_
        refine g_iconst (v := (-1)) dX9_late_26 (by decide) ?_
        refine g_goto (tgt := 38) dX9_late_27 (by decide) ?_
        exact J_X9_late_38_ok hG E hL 
    · obtain rfl := Option.some.inj hL
      exact g_callVX (M' := M_X9_needDuty) (as := [.int (a2)]) (E := E9) (aIn1 972 (by decide +kernel) rfl) kV_X9_needDuty (by decide) rfl (C_X9_needDuty hG E hc) rfl (by have := E.1.1; omega) (E.1.2.1 _ 0 _ rfl) ⟨_, _, rfl⟩ (Nat.le_of_ble_eq_true rfl) dX9_late_7
  · obtain rfl := Option.some.inj hL
    exact g_callVX (M' := M_X9_needPerson) (as := [.int (a1)]) (E := E9) (aIn1 956 (by decide +kernel) rfl) kV_X9_needPerson (by decide) rfl (C_X9_needPerson hG E hc) rfl (by have := E.1.1; omega) (E.1.2.1 _ 0 _ rfl) ⟨_, _, rfl⟩ (Nat.le_of_ble_eq_true rfl) dX9_late_2
def J_X9_nearest_48 (o : wO) (kh9 : Int32 → Int32 → Int32 → wS → Option ((Int32 ⊕ String) × wS)) (ke54 : Int32 → wS → Option ((Int32 ⊕ String) × wS)) (x1 : Int32) (x2 : Int32) (x3 : Int32) (w : wS) : Option ((Int32 ⊕ String) × wS) :=
  kh9 (x1) (x2) ((x3 + 1)) w
set_option maxRecDepth 20000 in
theorem J_X9_nearest_48_ok {G : aG} {Hf : wS → aH} {bx : Nat} {o : wO} {kh9 : Int32 → Int32 → Int32 → wS → Option ((Int32 ⊕ String) × wS)} {ke54 : Int32 → wS → Option ((Int32 ⊕ String) × wS)} {x1 : Int32} {x2 : Int32} {x3 : Int32} {w : wS} {r : (Int32 ⊕ String) × wS} (hG : aGood G) (E : EX Hf bx o) (hL : J_X9_nearest_48 o kh9 ke54 x1 x2 x3 w = some r) (Hkh9 : ∀ (z0 : Int32) (z1 : Int32) (z2 : Int32) (w : wS), kh9 z0 z1 z2 w = some r → AG G M_X9_nearest 9 [some (.ref (bx + 0)), some (.int (z0)), some (.int (z1)), some (.int (z2))] [] (Hf w) (xRv Hf r)) (Hke54 : ∀ (z0 : Int32) (w : wS), ke54 z0 w = some r → AG G M_X9_nearest 54 [none, none, some (.int (z0)), none] [] (Hf w) (xRv Hf r)) : AG G M_X9_nearest 48 [some (.ref (bx + 0)), some (.int (x1)), some (.int (x2)), some (.int (x3))] [] (Hf w) (xRv Hf r) := by
  unfold J_X9_nearest_48 at hL
  refine g_iincV (v := (x3 + 1)) dX9_nearest_48 rfl rfl (by decide) rfl ?_
  refine g_goto (tgt := 9) dX9_nearest_51 (by decide) ?_
  exact Hkh9 _ _ _ _ hL
def J_X9_nearest_46 (o : wO) (kh9 : Int32 → Int32 → Int32 → wS → Option ((Int32 ⊕ String) × wS)) (ke54 : Int32 → wS → Option ((Int32 ⊕ String) × wS)) (x1 : Int32) (x3 : Int32) (w : wS) : Option ((Int32 ⊕ String) × wS) :=
  J_X9_nearest_48 o kh9 ke54 (x1) (x3) (x3) w
set_option maxRecDepth 20000 in
theorem J_X9_nearest_46_ok {G : aG} {Hf : wS → aH} {bx : Nat} {o : wO} {kh9 : Int32 → Int32 → Int32 → wS → Option ((Int32 ⊕ String) × wS)} {ke54 : Int32 → wS → Option ((Int32 ⊕ String) × wS)} {x1 : Int32} {x3 : Int32} {w : wS} {r : (Int32 ⊕ String) × wS} (hG : aGood G) (E : EX Hf bx o) (hL : J_X9_nearest_46 o kh9 ke54 x1 x3 w = some r) (Hkh9 : ∀ (z0 : Int32) (z1 : Int32) (z2 : Int32) (w : wS), kh9 z0 z1 z2 w = some r → AG G M_X9_nearest 9 [some (.ref (bx + 0)), some (.int (z0)), some (.int (z1)), some (.int (z2))] [] (Hf w) (xRv Hf r)) (Hke54 : ∀ (z0 : Int32) (w : wS), ke54 z0 w = some r → AG G M_X9_nearest 54 [none, none, some (.int (z0)), none] [] (Hf w) (xRv Hf r)) : AG G M_X9_nearest 46 [some (.ref (bx + 0)), some (.int (x1)), none, some (.int (x3))] [] (Hf w) (xRv Hf r) := by
  unfold J_X9_nearest_46 at hL
  refine g_iload_n dX9_nearest_46 rfl rfl ?_
  refine g_istore_n (i := 2) dX9_nearest_47 rfl (by decide) rfl ?_
  exact J_X9_nearest_48_ok hG E hL Hkh9 Hke54
def B_X9_nearest_9 (o : wO) (kh9 : Int32 → Int32 → Int32 → wS → Option ((Int32 ⊕ String) × wS)) (ke54 : Int32 → wS → Option ((Int32 ⊕ String) × wS)) (x1 : Int32) (x2 : Int32) (x3 : Int32) (w : wS) : Option ((Int32 ⊕ String) × wS) :=
  xIf (xRef w 9 (oT o + 0)) (xB (xGet w 100007) fun v1 => if v1 ≤ x3 then ke54 (x2) w else if x2 = (-1) then J_X9_nearest_46 o kh9 ke54 (x1) (x3) w else xIf (xRef w 9 (oT o + 0)) (xB2 (L_X8_distance o (x1) (x3) w) fun v2 w3 => xIf (xRef w3 9 (oT o + 0)) (xB2 (L_X8_distance o (x1) (x2) w3) fun v4 w5 => if v4 ≤ v2 then J_X9_nearest_48 o kh9 ke54 (x1) (x2) (x3) w5 else J_X9_nearest_46 o kh9 ke54 (x1) (x3) w5)))
set_option maxRecDepth 20000 in
theorem B_X9_nearest_9_ok {G : aG} {Hf : wS → aH} {bx : Nat} {o : wO} {kh9 : Int32 → Int32 → Int32 → wS → Option ((Int32 ⊕ String) × wS)} {ke54 : Int32 → wS → Option ((Int32 ⊕ String) × wS)} {x1 : Int32} {x2 : Int32} {x3 : Int32} {w : wS} {r : (Int32 ⊕ String) × wS} (hG : aGood G) (E : EX Hf bx o) (hL : B_X9_nearest_9 o kh9 ke54 x1 x2 x3 w = some r) (Hkh9 : ∀ (z0 : Int32) (z1 : Int32) (z2 : Int32) (w : wS), kh9 z0 z1 z2 w = some r → AG G M_X9_nearest 9 [some (.ref (bx + 0)), some (.int (z0)), some (.int (z1)), some (.int (z2))] [] (Hf w) (xRv Hf r)) (Hke54 : ∀ (z0 : Int32) (w : wS), ke54 z0 w = some r → AG G M_X9_nearest 54 [none, none, some (.int (z0)), none] [] (Hf w) (xRv Hf r)) : AG G M_X9_nearest 9 [some (.ref (bx + 0)), some (.int (x1)), some (.int (x2)), some (.int (x3))] [] (Hf w) (xRv Hf r) := by
  unfold B_X9_nearest_9 at hL
  refine g_iload_n dX9_nearest_9 rfl rfl ?_
  refine g_aload_n dX9_nearest_10 rfl rfl ?_
  refine s_getT (k := 0) (j := 9) E.1 hL rfl rfl f_X9_55 dX9_nearest_11 ?_
  intro hL
  refine s_getI (k := 0) (j := 7) E.2.1 hL rfl rfl f_X9_102 dX9_nearest_14 ?_
  intro v1 hL
  refine g_icmp_ge (tgt := 54) dX9_nearest_17 (by decide) (fun q8 => ?_) (fun q8 => ?_)
  · rw [if_pos q8] at hL
    refine g_none 0 ?_
    refine g_none 1 ?_
    refine g_none 3 ?_
    exact Hke54 _ _ hL
  · rw [if_neg q8] at hL
    refine g_iload_n dX9_nearest_20 rfl rfl ?_
    refine g_iconst (v := (-1)) dX9_nearest_21 (by decide) ?_
    refine g_icmp_eq (tgt := 46) dX9_nearest_22 (by decide) (fun q7 => ?_) (fun q7 => ?_)
    · rw [if_pos q7] at hL
      refine g_none 2 ?_
      exact J_X9_nearest_46_ok hG E hL Hkh9 Hke54
    · rw [if_neg q7] at hL
      refine g_aload_n dX9_nearest_25 rfl rfl ?_
      refine s_getT (k := 0) (j := 9) E.1 hL rfl rfl f_X9_55 dX9_nearest_26 ?_
      intro hL
      refine g_iload_n dX9_nearest_29 rfl rfl ?_
      refine g_iload_n dX9_nearest_30 rfl rfl ?_
      obtain ⟨v2, w3, hc, hL⟩ := xB2_some hL
      refine g_callV (M' := M_X8_distance) (as := [.int (x1), .int (x3)]) (v := some (.int (v2))) l_X9_340 kV_X8_distance (by decide) (C_X8_distance hG E hc) rfl (by have := E.2.1.1; omega) (E.2.1.2.1 _ 0 _ rfl) ⟨_, _, rfl⟩ (Nat.le_of_ble_eq_true rfl) dX9_nearest_31 ?_
      refine g_aload_n dX9_nearest_34 rfl rfl ?_
      refine s_getT (k := 0) (j := 9) E.1 hL rfl rfl f_X9_55 dX9_nearest_35 ?_
      intro hL
      refine g_iload_n dX9_nearest_38 rfl rfl ?_
      refine g_iload_n dX9_nearest_39 rfl rfl ?_
      obtain ⟨v4, w5, hc, hL⟩ := xB2_some hL
      refine g_callV (M' := M_X8_distance) (as := [.int (x1), .int (x2)]) (v := some (.int (v4))) l_X9_340 kV_X8_distance (by decide) (C_X8_distance hG E hc) rfl (by have := E.2.1.1; omega) (E.2.1.2.1 _ 0 _ rfl) ⟨_, _, rfl⟩ (Nat.le_of_ble_eq_true rfl) dX9_nearest_40 ?_
      refine g_icmp_ge (tgt := 48) dX9_nearest_43 (by decide) (fun q6 => ?_) (fun q6 => ?_)
      · rw [if_pos q6] at hL
        exact J_X9_nearest_48_ok hG E hL Hkh9 Hke54
      · rw [if_neg q6] at hL
        refine g_none 2 ?_
        exact J_X9_nearest_46_ok hG E hL Hkh9 Hke54
def P_X9_nearest_9 (o : wO) (ke54 : Int32 → wS → Option ((Int32 ⊕ String) × wS)) (n : Nat) (x1 : Int32) (x2 : Int32) (x3 : Int32) (w : wS) : Option ((Int32 ⊕ String) × wS) :=
  xLoop (fun (kk : Int32 × Int32 × Int32 × wS → Option ((Int32 ⊕ String) × wS)) σ => B_X9_nearest_9 o (fun x1 x2 x3 w => kk (x1, x2, x3, w)) ke54 (σ.1) (σ.2.1) (σ.2.2.1) (σ.2.2.2)) n (x1, x2, x3, w)
theorem P_X9_nearest_9_ok {G : aG} {Hf : wS → aH} {bx : Nat} {o : wO} {ke54 : Int32 → wS → Option ((Int32 ⊕ String) × wS)} {n : Nat} {x1 : Int32} {x2 : Int32} {x3 : Int32} {w : wS} {r : (Int32 ⊕ String) × wS} (hG : aGood G) (E : EX Hf bx o) (hL : P_X9_nearest_9 o ke54 n x1 x2 x3 w = some r) (Hke54 : ∀ (z0 : Int32) (w : wS), ke54 z0 w = some r → AG G M_X9_nearest 54 [none, none, some (.int (z0)), none] [] (Hf w) (xRv Hf r)) : AG G M_X9_nearest 9 [some (.ref (bx + 0)), some (.int (x1)), some (.int (x2)), some (.int (x3))] [] (Hf w) (xRv Hf r) :=
  xLoop_ok (Q := fun (σ : Int32 × Int32 × Int32 × wS) => AG G M_X9_nearest 9 [some (.ref (bx + 0)), some (.int (σ.1)), some (.int (σ.2.1)), some (.int (σ.2.2.1))] [] (Hf σ.2.2.2) (xRv Hf r)) (fun kk hk σ hσ => B_X9_nearest_9_ok hG E hσ (fun x1 x2 x3 w h9 => hk (x1, x2, x3, w) h9) Hke54) n (x1, x2, x3, w) hL
def L_X9_nearest (o : wO) (a1 : Int32) (w : wS) : Option ((Int32 ⊕ String) × wS) :=
  xBT (L_X9_needPerson o (a1) w) (fun E9 => some (.inr E9, w)) (P_X9_nearest_9 o (fun z9 w10 => some (.inl (z9), w10)) 5000 (a1) ((-1)) (0) w)
set_option maxRecDepth 20000 in
theorem C_X9_nearest {G : aG} {Hf : wS → aH} {bx : Nat} {o : wO} {a1 : Int32} {w : wS} {r : (Int32 ⊕ String) × wS} (hG : aGood G) (E : EX Hf bx o) (hL : L_X9_nearest o a1 w = some r) : AC G M_X9_nearest [.ref (bx + 0), .int a1] (Hf w) (xRv Hf r) := by
  unfold L_X9_nearest at hL
  refine AC.of (by decide) rfl (Nat.le_of_ble_eq_true rfl) ?_
  show AG G M_X9_nearest 0 [some (.ref (bx + 0)), some (.int (a1)), none, none] [] _ _
  refine g_aload_n dX9_nearest_0 rfl rfl ?_
  refine g_iload_n dX9_nearest_1 rfl rfl ?_
  rcases xBT_some hL with ⟨hc, hL⟩ | ⟨E9, hc, hL⟩
  · refine g_callV (M' := M_X9_needPerson) (as := [.int (a1)]) (v := none) l_X9_147 kV_X9_needPerson (by decide) (C_X9_needPerson hG E hc) rfl (by have := E.1.1; omega) (E.1.2.1 _ 0 _ rfl) ⟨_, _, rfl⟩ (Nat.le_of_ble_eq_true rfl) dX9_nearest_2 ?_
    refine g_iconst (v := (-1)) dX9_nearest_5 (by decide) ?_
    refine g_istore_n (i := 2) dX9_nearest_6 rfl (by decide) rfl ?_
    refine g_iconst (v := 0) dX9_nearest_7 (by decide) ?_
    refine g_istore_n (i := 3) dX9_nearest_8 rfl (by decide) rfl ?_
    refine P_X9_nearest_9_ok hG E hL ?_
    · intro z9 w10 hL
      refine g_iload_n dX9_nearest_54 rfl rfl ?_
      refine g_none 2 ?_
      obtain rfl := Option.some.inj hL
      exact g_iret rfl dX9_nearest_55
  · obtain rfl := Option.some.inj hL
    exact g_callVX (M' := M_X9_needPerson) (as := [.int (a1)]) (E := E9) (aIn1 956 (by decide +kernel) rfl) kV_X9_needPerson (by decide) rfl (C_X9_needPerson hG E hc) rfl (by have := E.1.1; omega) (E.1.2.1 _ 0 _ rfl) ⟨_, _, rfl⟩ (Nat.le_of_ble_eq_true rfl) dX9_nearest_2
def J_X9_neighbours_69 (o : wO) (kh17 : Int32 → Int32 → Int32 → Int32 → wS → Option ((Int32 ⊕ String) × wS)) (ke75 : Int32 → wS → Option ((Int32 ⊕ String) × wS)) (x1 : Int32) (x2 : Int32) (x3 : Int32) (x4 : Int32) (w : wS) : Option ((Int32 ⊕ String) × wS) :=
  kh17 (x1) (x2) (x3) ((x4 + 1)) w
set_option maxRecDepth 20000 in
theorem J_X9_neighbours_69_ok {G : aG} {Hf : wS → aH} {bx : Nat} {o : wO} {kh17 : Int32 → Int32 → Int32 → Int32 → wS → Option ((Int32 ⊕ String) × wS)} {ke75 : Int32 → wS → Option ((Int32 ⊕ String) × wS)} {x1 : Int32} {x2 : Int32} {x3 : Int32} {x4 : Int32} {w : wS} {r : (Int32 ⊕ String) × wS} (hG : aGood G) (E : EX Hf bx o) (hL : J_X9_neighbours_69 o kh17 ke75 x1 x2 x3 x4 w = some r) (Hkh17 : ∀ (z0 : Int32) (z1 : Int32) (z2 : Int32) (z3 : Int32) (w : wS), kh17 z0 z1 z2 z3 w = some r → AG G M_X9_neighbours 17 [some (.ref (bx + 0)), some (.int (z0)), some (.int (z1)), some (.int (z2)), some (.int (z3))] [] (Hf w) (xRv Hf r)) (Hke75 : ∀ (z0 : Int32) (w : wS), ke75 z0 w = some r → AG G M_X9_neighbours 75 [none, none, none, some (.int (z0)), none] [] (Hf w) (xRv Hf r)) : AG G M_X9_neighbours 69 [some (.ref (bx + 0)), some (.int (x1)), some (.int (x2)), some (.int (x3)), some (.int (x4))] [] (Hf w) (xRv Hf r) := by
  unfold J_X9_neighbours_69 at hL
  refine g_iincV (v := (x4 + 1)) dX9_neighbours_69 rfl rfl (by decide) rfl ?_
  refine g_goto (tgt := 17) dX9_neighbours_72 (by decide) ?_
  exact Hkh17 _ _ _ _ _ hL
def B_X9_neighbours_17 (o : wO) (kh17 : Int32 → Int32 → Int32 → Int32 → wS → Option ((Int32 ⊕ String) × wS)) (ke75 : Int32 → wS → Option ((Int32 ⊕ String) × wS)) (x1 : Int32) (x2 : Int32) (x3 : Int32) (x4 : Int32) (w : wS) : Option ((Int32 ⊕ String) × wS) :=
  xIf (xRef w 9 (oT o + 0)) (xB (xGet w 100006) fun v1 => if v1 ≤ x4 then ke75 (x3) w else if x4 = x1 then J_X9_neighbours_69 o kh17 ke75 (x1) (x2) (x3) (x4) w else xIf (xRef w 9 (oT o + 0)) (xB (xAld w 1004 8 (x4)) fun v2 => xIf (xRef w 9 (oT o + 0)) (xB (xAld w 1004 8 (x1)) fun v3 => if x2 < (xAbs ((v2 - v3))) then J_X9_neighbours_69 o kh17 ke75 (x1) (x2) (x3) (x4) w else J_X9_neighbours_69 o kh17 ke75 (x1) (x2) ((x3 ||| ((1 : Int32) <<< (x4 &&& 31)))) (x4) w)))
set_option maxRecDepth 20000 in
theorem B_X9_neighbours_17_ok {G : aG} {Hf : wS → aH} {bx : Nat} {o : wO} {kh17 : Int32 → Int32 → Int32 → Int32 → wS → Option ((Int32 ⊕ String) × wS)} {ke75 : Int32 → wS → Option ((Int32 ⊕ String) × wS)} {x1 : Int32} {x2 : Int32} {x3 : Int32} {x4 : Int32} {w : wS} {r : (Int32 ⊕ String) × wS} (hG : aGood G) (E : EX Hf bx o) (hL : B_X9_neighbours_17 o kh17 ke75 x1 x2 x3 x4 w = some r) (Hkh17 : ∀ (z0 : Int32) (z1 : Int32) (z2 : Int32) (z3 : Int32) (w : wS), kh17 z0 z1 z2 z3 w = some r → AG G M_X9_neighbours 17 [some (.ref (bx + 0)), some (.int (z0)), some (.int (z1)), some (.int (z2)), some (.int (z3))] [] (Hf w) (xRv Hf r)) (Hke75 : ∀ (z0 : Int32) (w : wS), ke75 z0 w = some r → AG G M_X9_neighbours 75 [none, none, none, some (.int (z0)), none] [] (Hf w) (xRv Hf r)) : AG G M_X9_neighbours 17 [some (.ref (bx + 0)), some (.int (x1)), some (.int (x2)), some (.int (x3)), some (.int (x4))] [] (Hf w) (xRv Hf r) := by
  unfold B_X9_neighbours_17 at hL
  refine g_iload dX9_neighbours_17 rfl ?_
  refine g_aload_n dX9_neighbours_19 rfl rfl ?_
  refine s_getT (k := 0) (j := 9) E.1 hL rfl rfl f_X9_55 dX9_neighbours_20 ?_
  intro hL
  refine s_getI (k := 0) (j := 6) E.2.1 hL rfl rfl f_X9_99 dX9_neighbours_23 ?_
  intro v1 hL
  refine g_icmp_ge (tgt := 75) dX9_neighbours_26 (by decide) (fun q6 => ?_) (fun q6 => ?_)
  · rw [if_pos q6] at hL
    refine g_none 0 ?_
    refine g_none 1 ?_
    refine g_none 2 ?_
    refine g_none 4 ?_
    exact Hke75 _ _ hL
  · rw [if_neg q6] at hL
    refine g_iload dX9_neighbours_29 rfl ?_
    refine g_iload_n dX9_neighbours_31 rfl rfl ?_
    refine g_icmp_eq (tgt := 69) dX9_neighbours_32 (by decide) (fun q5 => ?_) (fun q5 => ?_)
    · rw [if_pos q5] at hL
      exact J_X9_neighbours_69_ok hG E hL Hkh17 Hke75
    · rw [if_neg q5] at hL
      refine g_aload_n dX9_neighbours_35 rfl rfl ?_
      refine s_getT (k := 0) (j := 9) E.1 hL rfl rfl f_X9_55 dX9_neighbours_36 ?_
      intro hL
      refine s_getR (k := 0) (j := 3) E.2.1 rfl rfl f_X9_157 dX9_neighbours_39 ?_
      refine g_iload dX9_neighbours_42 rfl ?_
      refine s_iald (k := 4) E.2.1 hL rfl dX9_neighbours_44 ?_
      intro v2 hL
      refine g_aload_n dX9_neighbours_45 rfl rfl ?_
      refine s_getT (k := 0) (j := 9) E.1 hL rfl rfl f_X9_55 dX9_neighbours_46 ?_
      intro hL
      refine s_getR (k := 0) (j := 3) E.2.1 rfl rfl f_X9_157 dX9_neighbours_49 ?_
      refine g_iload_n dX9_neighbours_52 rfl rfl ?_
      refine s_iald (k := 4) E.2.1 hL rfl dX9_neighbours_53 ?_
      intro v3 hL
      refine g_isub dX9_neighbours_54 ?_
      refine g_mabs (aIn1 1285 (by decide +kernel) rfl) mabs_1 mabs_2 mabs_3 (by decide) (Nat.le_of_ble_eq_true rfl) dX9_neighbours_55 ?_
      refine g_iload_n dX9_neighbours_58 rfl rfl ?_
      refine g_icmp_gt (tgt := 69) dX9_neighbours_59 (by decide) (fun q4 => ?_) (fun q4 => ?_)
      · rw [if_pos q4] at hL
        exact J_X9_neighbours_69_ok hG E hL Hkh17 Hke75
      · rw [if_neg q4] at hL
        refine g_iload_n dX9_neighbours_62 rfl rfl ?_
        refine g_none 3 ?_
        refine g_iconst (v := 1) dX9_neighbours_63 (by decide) ?_
        refine g_iload dX9_neighbours_64 rfl ?_
        refine g_ishl dX9_neighbours_66 ?_
        refine g_ior dX9_neighbours_67 ?_
        refine g_istore_n (i := 3) dX9_neighbours_68 rfl (by decide) rfl ?_
        exact J_X9_neighbours_69_ok hG E hL Hkh17 Hke75
def P_X9_neighbours_17 (o : wO) (ke75 : Int32 → wS → Option ((Int32 ⊕ String) × wS)) (n : Nat) (x1 : Int32) (x2 : Int32) (x3 : Int32) (x4 : Int32) (w : wS) : Option ((Int32 ⊕ String) × wS) :=
  xLoop (fun (kk : Int32 × Int32 × Int32 × Int32 × wS → Option ((Int32 ⊕ String) × wS)) σ => B_X9_neighbours_17 o (fun x1 x2 x3 x4 w => kk (x1, x2, x3, x4, w)) ke75 (σ.1) (σ.2.1) (σ.2.2.1) (σ.2.2.2.1) (σ.2.2.2.2)) n (x1, x2, x3, x4, w)
theorem P_X9_neighbours_17_ok {G : aG} {Hf : wS → aH} {bx : Nat} {o : wO} {ke75 : Int32 → wS → Option ((Int32 ⊕ String) × wS)} {n : Nat} {x1 : Int32} {x2 : Int32} {x3 : Int32} {x4 : Int32} {w : wS} {r : (Int32 ⊕ String) × wS} (hG : aGood G) (E : EX Hf bx o) (hL : P_X9_neighbours_17 o ke75 n x1 x2 x3 x4 w = some r) (Hke75 : ∀ (z0 : Int32) (w : wS), ke75 z0 w = some r → AG G M_X9_neighbours 75 [none, none, none, some (.int (z0)), none] [] (Hf w) (xRv Hf r)) : AG G M_X9_neighbours 17 [some (.ref (bx + 0)), some (.int (x1)), some (.int (x2)), some (.int (x3)), some (.int (x4))] [] (Hf w) (xRv Hf r) :=
  xLoop_ok (Q := fun (σ : Int32 × Int32 × Int32 × Int32 × wS) => AG G M_X9_neighbours 17 [some (.ref (bx + 0)), some (.int (σ.1)), some (.int (σ.2.1)), some (.int (σ.2.2.1)), some (.int (σ.2.2.2.1))] [] (Hf σ.2.2.2.2) (xRv Hf r)) (fun kk hk σ hσ => B_X9_neighbours_17_ok hG E hσ (fun x1 x2 x3 x4 w h9 => hk (x1, x2, x3, x4, w) h9) Hke75) n (x1, x2, x3, x4, w) hL
def L_X9_neighbours (o : wO) (a1 : Int32) (a2 : Int32) (w : wS) : Option ((Int32 ⊕ String) × wS) :=
  xBT (L_X9_needPerson o (a1) w) (fun E9 => some (.inr E9, w)) (xBT (L_X9_needRange (a2) (0) (30)) (fun E9 => some (.inr E9, w)) (P_X9_neighbours_17 o (fun z7 w8 => some (.inl (z7), w8)) 5000 (a1) (a2) (0) (0) w))
set_option maxRecDepth 20000 in
theorem C_X9_neighbours {G : aG} {Hf : wS → aH} {bx : Nat} {o : wO} {a1 : Int32} {a2 : Int32} {w : wS} {r : (Int32 ⊕ String) × wS} (hG : aGood G) (E : EX Hf bx o) (hL : L_X9_neighbours o a1 a2 w = some r) : AC G M_X9_neighbours [.ref (bx + 0), .int a1, .int a2] (Hf w) (xRv Hf r) := by
  unfold L_X9_neighbours at hL
  refine AC.of (by decide) rfl (Nat.le_of_ble_eq_true rfl) ?_
  show AG G M_X9_neighbours 0 [some (.ref (bx + 0)), some (.int (a1)), some (.int (a2)), none, none] [] _ _
  refine g_aload_n dX9_neighbours_0 rfl rfl ?_
  refine g_iload_n dX9_neighbours_1 rfl rfl ?_
  rcases xBT_some hL with ⟨hc, hL⟩ | ⟨E9, hc, hL⟩
  · refine g_callV (M' := M_X9_needPerson) (as := [.int (a1)]) (v := none) l_X9_147 kV_X9_needPerson (by decide) (C_X9_needPerson hG E hc) rfl (by have := E.1.1; omega) (E.1.2.1 _ 0 _ rfl) ⟨_, _, rfl⟩ (Nat.le_of_ble_eq_true rfl) dX9_neighbours_2 ?_
    refine g_iload_n dX9_neighbours_5 rfl rfl ?_
    refine g_iconst (v := 0) dX9_neighbours_6 (by decide) ?_
    refine g_bipush (v := 30) dX9_neighbours_7 (by decide) ?_
    rcases xBT_some hL with ⟨hc, hL⟩ | ⟨E9, hc, hL⟩
    · refine g_callS (M' := M_X9_needRange) (as := [.int (a2), .int (0), .int (30)]) (v := none) l_X9_224 kS_X9_needRange (by decide) (C_X9_needRange hG hc) rfl (Nat.le_of_ble_eq_true rfl) dX9_neighbours_9 ?_
      refine g_iconst (v := 0) dX9_neighbours_12 (by decide) ?_
      refine g_istore_n (i := 3) dX9_neighbours_13 rfl (by decide) rfl ?_
      refine g_iconst (v := 0) dX9_neighbours_14 (by decide) ?_
      refine g_istore (i := 4) dX9_neighbours_15 (by decide) rfl ?_
      refine P_X9_neighbours_17_ok hG E hL ?_
      · intro z7 w8 hL
        refine g_iload_n dX9_neighbours_75 rfl rfl ?_
        refine g_none 3 ?_
        obtain rfl := Option.some.inj hL
        exact g_iret rfl dX9_neighbours_76
    · obtain rfl := Option.some.inj hL
      exact g_callSX (M' := M_X9_needRange) (as := [.int (a2), .int (0), .int (30)]) (E := E9) (aIn1 1037 (by decide +kernel) rfl) kS_X9_needRange (by decide) rfl (C_X9_needRange hG hc) rfl (Nat.le_of_ble_eq_true rfl) dX9_neighbours_9
  · obtain rfl := Option.some.inj hL
    exact g_callVX (M' := M_X9_needPerson) (as := [.int (a1)]) (E := E9) (aIn1 956 (by decide +kernel) rfl) kV_X9_needPerson (by decide) rfl (C_X9_needPerson hG E hc) rfl (by have := E.1.1; omega) (E.1.2.1 _ 0 _ rfl) ⟨_, _, rfl⟩ (Nat.le_of_ble_eq_true rfl) dX9_neighbours_2
def J_X9_prompt_47 (o : wO) (kh9 : Int32 → Int32 → Int32 → wS → Option ((Int32 ⊕ String) × wS)) (ke53 : Int32 → wS → Option ((Int32 ⊕ String) × wS)) (x1 : Int32) (x2 : Int32) (x3 : Int32) (w : wS) : Option ((Int32 ⊕ String) × wS) :=
  kh9 (x1) (x2) ((x3 + 1)) w
set_option maxRecDepth 20000 in
theorem J_X9_prompt_47_ok {G : aG} {Hf : wS → aH} {bx : Nat} {o : wO} {kh9 : Int32 → Int32 → Int32 → wS → Option ((Int32 ⊕ String) × wS)} {ke53 : Int32 → wS → Option ((Int32 ⊕ String) × wS)} {x1 : Int32} {x2 : Int32} {x3 : Int32} {w : wS} {r : (Int32 ⊕ String) × wS} (hG : aGood G) (E : EX Hf bx o) (hL : J_X9_prompt_47 o kh9 ke53 x1 x2 x3 w = some r) (Hkh9 : ∀ (z0 : Int32) (z1 : Int32) (z2 : Int32) (w : wS), kh9 z0 z1 z2 w = some r → AG G M_X9_prompt 9 [some (.ref (bx + 0)), some (.int (z0)), some (.int (z1)), some (.int (z2))] [] (Hf w) (xRv Hf r)) (Hke53 : ∀ (z0 : Int32) (w : wS), ke53 z0 w = some r → AG G M_X9_prompt 53 [none, none, some (.int (z0)), none] [] (Hf w) (xRv Hf r)) : AG G M_X9_prompt 47 [some (.ref (bx + 0)), some (.int (x1)), some (.int (x2)), some (.int (x3))] [] (Hf w) (xRv Hf r) := by
  unfold J_X9_prompt_47 at hL
  refine g_iincV (v := (x3 + 1)) dX9_prompt_47 rfl rfl (by decide) rfl ?_
  refine g_goto (tgt := 9) dX9_prompt_50 (by decide) ?_
  exact Hkh9 _ _ _ _ hL
def B_X9_prompt_9 (o : wO) (kh9 : Int32 → Int32 → Int32 → wS → Option ((Int32 ⊕ String) × wS)) (ke53 : Int32 → wS → Option ((Int32 ⊕ String) × wS)) (x1 : Int32) (x2 : Int32) (x3 : Int32) (w : wS) : Option ((Int32 ⊕ String) × wS) :=
  xIf (xRef w 9 (oT o + 0)) (xB (xGet w 100006) fun v1 => if v1 ≤ x3 then ke53 (x2) w else xIf (xRef w 9 (oT o + 0)) (xB (xAld w 1001 8 (x3)) fun v2 => if v2 = 0 then xB2 (L_X9_wayNow o (x3) (x1) w) fun v3 w4 => if v3 = 0 then J_X9_prompt_47 o kh9 ke53 (x1) ((x2 ||| ((1 : Int32) <<< (x3 &&& 31)))) (x3) w4 else J_X9_prompt_47 o kh9 ke53 (x1) (x2) (x3) w4 else J_X9_prompt_47 o kh9 ke53 (x1) (x2) (x3) w))
set_option maxRecDepth 20000 in
theorem B_X9_prompt_9_ok {G : aG} {Hf : wS → aH} {bx : Nat} {o : wO} {kh9 : Int32 → Int32 → Int32 → wS → Option ((Int32 ⊕ String) × wS)} {ke53 : Int32 → wS → Option ((Int32 ⊕ String) × wS)} {x1 : Int32} {x2 : Int32} {x3 : Int32} {w : wS} {r : (Int32 ⊕ String) × wS} (hG : aGood G) (E : EX Hf bx o) (hL : B_X9_prompt_9 o kh9 ke53 x1 x2 x3 w = some r) (Hkh9 : ∀ (z0 : Int32) (z1 : Int32) (z2 : Int32) (w : wS), kh9 z0 z1 z2 w = some r → AG G M_X9_prompt 9 [some (.ref (bx + 0)), some (.int (z0)), some (.int (z1)), some (.int (z2))] [] (Hf w) (xRv Hf r)) (Hke53 : ∀ (z0 : Int32) (w : wS), ke53 z0 w = some r → AG G M_X9_prompt 53 [none, none, some (.int (z0)), none] [] (Hf w) (xRv Hf r)) : AG G M_X9_prompt 9 [some (.ref (bx + 0)), some (.int (x1)), some (.int (x2)), some (.int (x3))] [] (Hf w) (xRv Hf r) := by
  unfold B_X9_prompt_9 at hL
  refine g_iload_n dX9_prompt_9 rfl rfl ?_
  refine g_aload_n dX9_prompt_10 rfl rfl ?_
  refine s_getT (k := 0) (j := 9) E.1 hL rfl rfl f_X9_55 dX9_prompt_11 ?_
  intro hL
  refine s_getI (k := 0) (j := 6) E.2.1 hL rfl rfl f_X9_99 dX9_prompt_14 ?_
  intro v1 hL
  refine g_icmp_ge (tgt := 53) dX9_prompt_17 (by decide) (fun q7 => ?_) (fun q7 => ?_)
  · rw [if_pos q7] at hL
    refine g_none 0 ?_
    refine g_none 1 ?_
    refine g_none 3 ?_
    exact Hke53 _ _ hL
  · rw [if_neg q7] at hL
    refine g_aload_n dX9_prompt_20 rfl rfl ?_
    refine s_getT (k := 0) (j := 9) E.1 hL rfl rfl f_X9_55 dX9_prompt_21 ?_
    intro hL
    refine s_getR (k := 0) (j := 0) E.2.1 rfl rfl f_X9_166 dX9_prompt_24 ?_
    refine g_iload_n dX9_prompt_27 rfl rfl ?_
    refine s_iald (k := 1) E.2.1 hL rfl dX9_prompt_28 ?_
    intro v2 hL
    refine g_if_ne (tgt := 47) dX9_prompt_29 (by decide) (fun q6 => ?_) (fun q6 => ?_)
    · rw [if_neg q6] at hL
      exact J_X9_prompt_47_ok hG E hL Hkh9 Hke53
    · rw [if_pos q6] at hL
      refine g_aload_n dX9_prompt_32 rfl rfl ?_
      refine g_iload_n dX9_prompt_33 rfl rfl ?_
      refine g_iload_n dX9_prompt_34 rfl rfl ?_
      obtain ⟨v3, w4, hc, hL⟩ := xB2_some hL
      refine g_callV (M' := M_X9_wayNow) (as := [.int (x3), .int (x1)]) (v := some (.int (v3))) l_X9_346 kV_X9_wayNow (by decide) (C_X9_wayNow hG E hc) rfl (by have := E.1.1; omega) (E.1.2.1 _ 0 _ rfl) ⟨_, _, rfl⟩ (Nat.le_of_ble_eq_true rfl) dX9_prompt_35 ?_
      refine g_if_ne (tgt := 47) dX9_prompt_38 (by decide) (fun q5 => ?_) (fun q5 => ?_)
      · rw [if_neg q5] at hL
        exact J_X9_prompt_47_ok hG E hL Hkh9 Hke53
      · rw [if_pos q5] at hL
        refine g_iload_n dX9_prompt_41 rfl rfl ?_
        refine g_none 2 ?_
        refine g_iconst (v := 1) dX9_prompt_42 (by decide) ?_
        refine g_iload_n dX9_prompt_43 rfl rfl ?_
        refine g_ishl dX9_prompt_44 ?_
        refine g_ior dX9_prompt_45 ?_
        refine g_istore_n (i := 2) dX9_prompt_46 rfl (by decide) rfl ?_
        exact J_X9_prompt_47_ok hG E hL Hkh9 Hke53
def P_X9_prompt_9 (o : wO) (ke53 : Int32 → wS → Option ((Int32 ⊕ String) × wS)) (n : Nat) (x1 : Int32) (x2 : Int32) (x3 : Int32) (w : wS) : Option ((Int32 ⊕ String) × wS) :=
  xLoop (fun (kk : Int32 × Int32 × Int32 × wS → Option ((Int32 ⊕ String) × wS)) σ => B_X9_prompt_9 o (fun x1 x2 x3 w => kk (x1, x2, x3, w)) ke53 (σ.1) (σ.2.1) (σ.2.2.1) (σ.2.2.2)) n (x1, x2, x3, w)
theorem P_X9_prompt_9_ok {G : aG} {Hf : wS → aH} {bx : Nat} {o : wO} {ke53 : Int32 → wS → Option ((Int32 ⊕ String) × wS)} {n : Nat} {x1 : Int32} {x2 : Int32} {x3 : Int32} {w : wS} {r : (Int32 ⊕ String) × wS} (hG : aGood G) (E : EX Hf bx o) (hL : P_X9_prompt_9 o ke53 n x1 x2 x3 w = some r) (Hke53 : ∀ (z0 : Int32) (w : wS), ke53 z0 w = some r → AG G M_X9_prompt 53 [none, none, some (.int (z0)), none] [] (Hf w) (xRv Hf r)) : AG G M_X9_prompt 9 [some (.ref (bx + 0)), some (.int (x1)), some (.int (x2)), some (.int (x3))] [] (Hf w) (xRv Hf r) :=
  xLoop_ok (Q := fun (σ : Int32 × Int32 × Int32 × wS) => AG G M_X9_prompt 9 [some (.ref (bx + 0)), some (.int (σ.1)), some (.int (σ.2.1)), some (.int (σ.2.2.1))] [] (Hf σ.2.2.2) (xRv Hf r)) (fun kk hk σ hσ => B_X9_prompt_9_ok hG E hσ (fun x1 x2 x3 w h9 => hk (x1, x2, x3, w) h9) Hke53) n (x1, x2, x3, w) hL
def L_X9_prompt (o : wO) (a1 : Int32) (w : wS) : Option ((Int32 ⊕ String) × wS) :=
  xBT (L_X9_needDuty o (a1) w) (fun E9 => some (.inr E9, w)) (P_X9_prompt_9 o (fun z8 w9 => some (.inl (z8), w9)) 5000 (a1) (0) (0) w)
set_option maxRecDepth 20000 in
theorem C_X9_prompt {G : aG} {Hf : wS → aH} {bx : Nat} {o : wO} {a1 : Int32} {w : wS} {r : (Int32 ⊕ String) × wS} (hG : aGood G) (E : EX Hf bx o) (hL : L_X9_prompt o a1 w = some r) : AC G M_X9_prompt [.ref (bx + 0), .int a1] (Hf w) (xRv Hf r) := by
  unfold L_X9_prompt at hL
  refine AC.of (by decide) rfl (Nat.le_of_ble_eq_true rfl) ?_
  show AG G M_X9_prompt 0 [some (.ref (bx + 0)), some (.int (a1)), none, none] [] _ _
  refine g_aload_n dX9_prompt_0 rfl rfl ?_
  refine g_iload_n dX9_prompt_1 rfl rfl ?_
  rcases xBT_some hL with ⟨hc, hL⟩ | ⟨E9, hc, hL⟩
  · refine g_callV (M' := M_X9_needDuty) (as := [.int (a1)]) (v := none) l_X9_175 kV_X9_needDuty (by decide) (C_X9_needDuty hG E hc) rfl (by have := E.1.1; omega) (E.1.2.1 _ 0 _ rfl) ⟨_, _, rfl⟩ (Nat.le_of_ble_eq_true rfl) dX9_prompt_2 ?_
    refine g_iconst (v := 0) dX9_prompt_5 (by decide) ?_
    refine g_istore_n (i := 2) dX9_prompt_6 rfl (by decide) rfl ?_
    refine g_iconst (v := 0) dX9_prompt_7 (by decide) ?_
    refine g_istore_n (i := 3) dX9_prompt_8 rfl (by decide) rfl ?_
    refine P_X9_prompt_9_ok hG E hL ?_
    · intro z8 w9 hL
      refine g_iload_n dX9_prompt_53 rfl rfl ?_
      refine g_none 2 ?_
      obtain rfl := Option.some.inj hL
      exact g_iret rfl dX9_prompt_54
  · obtain rfl := Option.some.inj hL
    exact g_callVX (M' := M_X9_needDuty) (as := [.int (a1)]) (E := E9) (aIn1 972 (by decide +kernel) rfl) kV_X9_needDuty (by decide) rfl (C_X9_needDuty hG E hc) rfl (by have := E.1.1; omega) (E.1.2.1 _ 0 _ rfl) ⟨_, _, rfl⟩ (Nat.le_of_ble_eq_true rfl) dX9_prompt_2
def B_X9_walk_25 (o : wO) (kh25 : Int32 → Int32 → Int32 → Int32 → wS → Option ((Int32 ⊕ String) × wS)) (ke73 : Int32 → Int32 → Int32 → wS → Option ((Int32 ⊕ String) × wS)) (x1 : Int32) (x2 : Int32) (x3 : Int32) (x4 : Int32) (w : wS) : Option ((Int32 ⊕ String) × wS) :=
  xIf (xRef w 9 (oT o + 0)) (xB (xGet w 100007) fun v1 => if v1 ≤ x4 then ke73 (x1) (x2) (x3) w else xIf (xRef w 9 (oT o + 0)) (xB (xAld w 1006 6 (x4)) fun v2 => xIf (xRef w 9 (oT o + 0)) (xB (xAld w 1006 6 (x4)) fun v3 => kh25 (x1) ((xMin (x2) (v2))) ((xMax (x3) (v3))) ((x4 + 1)) w)))
set_option maxRecDepth 20000 in
theorem B_X9_walk_25_ok {G : aG} {Hf : wS → aH} {bx : Nat} {o : wO} {kh25 : Int32 → Int32 → Int32 → Int32 → wS → Option ((Int32 ⊕ String) × wS)} {ke73 : Int32 → Int32 → Int32 → wS → Option ((Int32 ⊕ String) × wS)} {x1 : Int32} {x2 : Int32} {x3 : Int32} {x4 : Int32} {w : wS} {r : (Int32 ⊕ String) × wS} (hG : aGood G) (E : EX Hf bx o) (hL : B_X9_walk_25 o kh25 ke73 x1 x2 x3 x4 w = some r) (Hkh25 : ∀ (z0 : Int32) (z1 : Int32) (z2 : Int32) (z3 : Int32) (w : wS), kh25 z0 z1 z2 z3 w = some r → AG G M_X9_walk 25 [some (.ref (bx + 0)), some (.int (z0)), some (.int (z1)), some (.int (z2)), some (.int (z3)), none] [] (Hf w) (xRv Hf r)) (Hke73 : ∀ (z0 : Int32) (z1 : Int32) (z2 : Int32) (w : wS), ke73 z0 z1 z2 w = some r → AG G M_X9_walk 73 [some (.ref (bx + 0)), some (.int (z0)), some (.int (z1)), some (.int (z2)), none, none] [] (Hf w) (xRv Hf r)) : AG G M_X9_walk 25 [some (.ref (bx + 0)), some (.int (x1)), some (.int (x2)), some (.int (x3)), some (.int (x4)), none] [] (Hf w) (xRv Hf r) := by
  unfold B_X9_walk_25 at hL
  refine g_iload dX9_walk_25 rfl ?_
  refine g_aload_n dX9_walk_27 rfl rfl ?_
  refine s_getT (k := 0) (j := 9) E.1 hL rfl rfl f_X9_55 dX9_walk_28 ?_
  intro hL
  refine s_getI (k := 0) (j := 7) E.2.1 hL rfl rfl f_X9_102 dX9_walk_31 ?_
  intro v1 hL
  refine g_icmp_ge (tgt := 73) dX9_walk_34 (by decide) (fun q4 => ?_) (fun q4 => ?_)
  · rw [if_pos q4] at hL
    refine g_none 4 ?_
    exact Hke73 _ _ _ _ hL
  · rw [if_neg q4] at hL
    refine g_iload_n dX9_walk_37 rfl rfl ?_
    refine g_none 2 ?_
    refine g_aload_n dX9_walk_38 rfl rfl ?_
    refine s_getT (k := 0) (j := 9) E.1 hL rfl rfl f_X9_55 dX9_walk_39 ?_
    intro hL
    refine s_getR (k := 0) (j := 5) E.2.1 rfl rfl f_X9_181 dX9_walk_42 ?_
    refine g_iload dX9_walk_45 rfl ?_
    refine s_iald (k := 6) E.2.1 hL rfl dX9_walk_47 ?_
    intro v2 hL
    refine g_mmin (aIn1 523 (by decide +kernel) rfl) mmin_1 mmin_2 mmin_3 (by decide) (Nat.le_of_ble_eq_true rfl) dX9_walk_48 ?_
    refine g_istore_n (i := 2) dX9_walk_51 rfl (by decide) rfl ?_
    refine g_iload_n dX9_walk_52 rfl rfl ?_
    refine g_none 3 ?_
    refine g_aload_n dX9_walk_53 rfl rfl ?_
    refine s_getT (k := 0) (j := 9) E.1 hL rfl rfl f_X9_55 dX9_walk_54 ?_
    intro hL
    refine s_getR (k := 0) (j := 5) E.2.1 rfl rfl f_X9_181 dX9_walk_57 ?_
    refine g_iload dX9_walk_60 rfl ?_
    refine s_iald (k := 6) E.2.1 hL rfl dX9_walk_62 ?_
    intro v3 hL
    refine g_mmax (aIn1 526 (by decide +kernel) rfl) mmax_1 mmax_2 mmax_3 (by decide) (Nat.le_of_ble_eq_true rfl) dX9_walk_63 ?_
    refine g_istore_n (i := 3) dX9_walk_66 rfl (by decide) rfl ?_
    refine g_iincV (v := (x4 + 1)) dX9_walk_67 rfl rfl (by decide) rfl ?_
    refine g_goto (tgt := 25) dX9_walk_70 (by decide) ?_
    exact Hkh25 _ _ _ _ _ hL
def P_X9_walk_25 (o : wO) (ke73 : Int32 → Int32 → Int32 → wS → Option ((Int32 ⊕ String) × wS)) (n : Nat) (x1 : Int32) (x2 : Int32) (x3 : Int32) (x4 : Int32) (w : wS) : Option ((Int32 ⊕ String) × wS) :=
  xLoop (fun (kk : Int32 × Int32 × Int32 × Int32 × wS → Option ((Int32 ⊕ String) × wS)) σ => B_X9_walk_25 o (fun x1 x2 x3 x4 w => kk (x1, x2, x3, x4, w)) ke73 (σ.1) (σ.2.1) (σ.2.2.1) (σ.2.2.2.1) (σ.2.2.2.2)) n (x1, x2, x3, x4, w)
theorem P_X9_walk_25_ok {G : aG} {Hf : wS → aH} {bx : Nat} {o : wO} {ke73 : Int32 → Int32 → Int32 → wS → Option ((Int32 ⊕ String) × wS)} {n : Nat} {x1 : Int32} {x2 : Int32} {x3 : Int32} {x4 : Int32} {w : wS} {r : (Int32 ⊕ String) × wS} (hG : aGood G) (E : EX Hf bx o) (hL : P_X9_walk_25 o ke73 n x1 x2 x3 x4 w = some r) (Hke73 : ∀ (z0 : Int32) (z1 : Int32) (z2 : Int32) (w : wS), ke73 z0 z1 z2 w = some r → AG G M_X9_walk 73 [some (.ref (bx + 0)), some (.int (z0)), some (.int (z1)), some (.int (z2)), none, none] [] (Hf w) (xRv Hf r)) : AG G M_X9_walk 25 [some (.ref (bx + 0)), some (.int (x1)), some (.int (x2)), some (.int (x3)), some (.int (x4)), none] [] (Hf w) (xRv Hf r) :=
  xLoop_ok (Q := fun (σ : Int32 × Int32 × Int32 × Int32 × wS) => AG G M_X9_walk 25 [some (.ref (bx + 0)), some (.int (σ.1)), some (.int (σ.2.1)), some (.int (σ.2.2.1)), some (.int (σ.2.2.2.1)), none] [] (Hf σ.2.2.2.2) (xRv Hf r)) (fun kk hk σ hσ => B_X9_walk_25_ok hG E hσ (fun x1 x2 x3 x4 w h9 => hk (x1, x2, x3, x4, w) h9) Hke73) n (x1, x2, x3, x4, w) hL
def L_X9_walk (o : wO) (a1 : Int32) (w : wS) : Option ((Int32 ⊕ String) × wS) :=
  xBT (L_X9_needPerson o (a1) w) (fun E9 => some (.inr E9, w)) (xIf (xRef w 9 (oT o + 0)) (xB (xGet w 100007) fun v5 => if v5 = 0 then some (.inl (0), w) else P_X9_walk_25 o (fun z6 z7 z8 w9 => xIf (xRef w9 9 (oT o + 0)) (xB (xAld w9 1004 8 (z6)) fun v10 => xIf (xRef w9 9 (oT o + 0)) (xB (xGet w9 100008) fun v11 => some (.inl ((v11 * (((xMin ((xAbs ((v10 - z7)))) ((xAbs ((v10 - z8))))) + z8) - z7))), w9)))) 5000 (a1) (30) (0) (0) w))
set_option maxRecDepth 20000 in
theorem C_X9_walk {G : aG} {Hf : wS → aH} {bx : Nat} {o : wO} {a1 : Int32} {w : wS} {r : (Int32 ⊕ String) × wS} (hG : aGood G) (E : EX Hf bx o) (hL : L_X9_walk o a1 w = some r) : AC G M_X9_walk [.ref (bx + 0), .int a1] (Hf w) (xRv Hf r) := by
  unfold L_X9_walk at hL
  refine AC.of (by decide) rfl (Nat.le_of_ble_eq_true rfl) ?_
  show AG G M_X9_walk 0 [some (.ref (bx + 0)), some (.int (a1)), none, none, none, none] [] _ _
  refine g_aload_n dX9_walk_0 rfl rfl ?_
  refine g_iload_n dX9_walk_1 rfl rfl ?_
  rcases xBT_some hL with ⟨hc, hL⟩ | ⟨E9, hc, hL⟩
  · refine g_callV (M' := M_X9_needPerson) (as := [.int (a1)]) (v := none) l_X9_147 kV_X9_needPerson (by decide) (C_X9_needPerson hG E hc) rfl (by have := E.1.1; omega) (E.1.2.1 _ 0 _ rfl) ⟨_, _, rfl⟩ (Nat.le_of_ble_eq_true rfl) dX9_walk_2 ?_
    refine g_aload_n dX9_walk_5 rfl rfl ?_
    refine s_getT (k := 0) (j := 9) E.1 hL rfl rfl f_X9_55 dX9_walk_6 ?_
    intro hL
    refine s_getI (k := 0) (j := 7) E.2.1 hL rfl rfl f_X9_102 dX9_walk_9 ?_
    intro v5 hL
    refine g_if_ne (tgt := 17) dX9_walk_12 (by decide) (fun q12 => ?_) (fun q12 => ?_)
    · rw [if_neg q12] at hL
      refine g_bipush (v := 30) dX9_walk_17 (by decide) ?_
      refine g_istore_n (i := 2) dX9_walk_19 rfl (by decide) rfl ?_
      refine g_iconst (v := 0) dX9_walk_20 (by decide) ?_
      refine g_istore_n (i := 3) dX9_walk_21 rfl (by decide) rfl ?_
      refine g_iconst (v := 0) dX9_walk_22 (by decide) ?_
      refine g_istore (i := 4) dX9_walk_23 (by decide) rfl ?_
      refine P_X9_walk_25_ok hG E hL ?_
      · intro z6 z7 z8 w9 hL
        refine g_aload_n dX9_walk_73 rfl rfl ?_
        refine s_getT (k := 0) (j := 9) E.1 hL rfl rfl f_X9_55 dX9_walk_74 ?_
        intro hL
        refine s_getR (k := 0) (j := 3) E.2.1 rfl rfl f_X9_157 dX9_walk_77 ?_
        refine g_iload_n dX9_walk_80 rfl rfl ?_
        refine g_none 1 ?_
        refine s_iald (k := 4) E.2.1 hL rfl dX9_walk_81 ?_
        intro v10 hL
        refine g_istore (i := 4) dX9_walk_82 (by decide) rfl ?_
        refine g_iload dX9_walk_84 rfl ?_
        refine g_iload_n dX9_walk_86 rfl rfl ?_
        refine g_isub dX9_walk_87 ?_
        refine g_mabs (aIn1 1285 (by decide +kernel) rfl) mabs_1 mabs_2 mabs_3 (by decide) (Nat.le_of_ble_eq_true rfl) dX9_walk_88 ?_
        refine g_iload dX9_walk_91 rfl ?_
        refine g_none 4 ?_
        refine g_iload_n dX9_walk_93 rfl rfl ?_
        refine g_isub dX9_walk_94 ?_
        refine g_mabs (aIn1 1285 (by decide +kernel) rfl) mabs_1 mabs_2 mabs_3 (by decide) (Nat.le_of_ble_eq_true rfl) dX9_walk_95 ?_
        refine g_mmin (aIn1 523 (by decide +kernel) rfl) mmin_1 mmin_2 mmin_3 (by decide) (Nat.le_of_ble_eq_true rfl) dX9_walk_98 ?_
        refine g_istore (i := 5) dX9_walk_101 (by decide) rfl ?_
        refine g_aload_n dX9_walk_103 rfl rfl ?_
        refine g_none 0 ?_
        refine s_getT (k := 0) (j := 9) E.1 hL rfl rfl f_X9_55 dX9_walk_104 ?_
        intro hL
        refine s_getI (k := 0) (j := 8) E.2.1 hL rfl rfl f_X9_105 dX9_walk_107 ?_
        intro v11 hL
        refine g_iload dX9_walk_110 rfl ?_
        refine g_none 5 ?_
        refine g_iload_n dX9_walk_112 rfl rfl ?_
        refine g_none 3 ?_
        refine g_iadd dX9_walk_113 ?_
        refine g_iload_n dX9_walk_114 rfl rfl ?_
        refine g_none 2 ?_
        refine g_isub dX9_walk_115 ?_
        refine g_imul dX9_walk_116 ?_
        obtain rfl := Option.some.inj hL
        exact g_iret rfl dX9_walk_117
    · rw [if_pos q12] at hL
      refine g_none 0 ?_
      refine g_none 1 ?_
      refine g_iconst (v := 0) dX9_walk_15 (by decide) ?_
      obtain rfl := Option.some.inj hL
      exact g_iret rfl dX9_walk_16
  · obtain rfl := Option.some.inj hL
    exact g_callVX (M' := M_X9_needPerson) (as := [.int (a1)]) (E := E9) (aIn1 956 (by decide +kernel) rfl) kV_X9_needPerson (by decide) rfl (C_X9_needPerson hG E hc) rfl (by have := E.1.1; omega) (E.1.2.1 _ 0 _ rfl) ⟨_, _, rfl⟩ (Nat.le_of_ble_eq_true rfl) dX9_walk_2
