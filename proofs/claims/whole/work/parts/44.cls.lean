def J_X9_furthestHome_42 (o : wO) (kh4 : Int32 → Int32 → Int32 → wS → Option (Int32 × wS)) (ke48 : Int32 → wS → Option (Int32 × wS)) (x1 : Int32) (x2 : Int32) (x3 : Int32) (w : wS) : Option (Int32 × wS) :=
  kh4 (x1) (x2) ((x3 + 1)) w
set_option maxRecDepth 20000 in
theorem J_X9_furthestHome_42_ok {G : aG} {Hf : wS → aH} {bx : Nat} {o : wO} {kh4 : Int32 → Int32 → Int32 → wS → Option (Int32 × wS)} {ke48 : Int32 → wS → Option (Int32 × wS)} {x1 : Int32} {x2 : Int32} {x3 : Int32} {w : wS} {r : Int32 × wS} (hG : aGood G) (E : EX Hf bx o) (hL : J_X9_furthestHome_42 o kh4 ke48 x1 x2 x3 w = some r) (Hkh4 : ∀ (z0 : Int32) (z1 : Int32) (z2 : Int32) (w : wS), kh4 z0 z1 z2 w = some r → AG G M_X9_furthestHome 4 [some (.ref (bx + 0)), some (.int (z0)), some (.int (z1)), some (.int (z2))] [] (Hf w) (.inl (some (.int r.1)), Hf r.2)) (Hke48 : ∀ (z0 : Int32) (w : wS), ke48 z0 w = some r → AG G M_X9_furthestHome 48 [none, none, some (.int (z0)), none] [] (Hf w) (.inl (some (.int r.1)), Hf r.2)) : AG G M_X9_furthestHome 42 [some (.ref (bx + 0)), some (.int (x1)), some (.int (x2)), some (.int (x3))] [] (Hf w) (.inl (some (.int r.1)), Hf r.2) := by
  unfold J_X9_furthestHome_42 at hL
  refine g_iincV (v := (x3 + 1)) dX9_furthestHome_42 rfl rfl (by decide) rfl ?_
  refine g_goto (tgt := 4) dX9_furthestHome_45 (by decide) ?_
  exact Hkh4 _ _ _ _ hL
def B_X9_furthestHome_4 (o : wO) (kh4 : Int32 → Int32 → Int32 → wS → Option (Int32 × wS)) (ke48 : Int32 → wS → Option (Int32 × wS)) (x1 : Int32) (x2 : Int32) (x3 : Int32) (w : wS) : Option (Int32 × wS) :=
  xIf (xRef w 9 (oT o + 0)) (xB (xGet w 100006) fun v1 => if v1 ≤ x3 then ke48 (x2) w else xIf (xRef w 9 (oT o + 0)) (xB (xAld w 1004 8 (x3)) fun v2 => if x1 ≤ v2 then J_X9_furthestHome_42 o kh4 ke48 (x1) (x2) (x3) w else xIf (xRef w 9 (oT o + 0)) (xB (xAld w 1004 8 (x3)) fun v3 => J_X9_furthestHome_42 o kh4 ke48 (x1) ((xMax (x2) (v3))) (x3) w)))
set_option maxRecDepth 20000 in
theorem B_X9_furthestHome_4_ok {G : aG} {Hf : wS → aH} {bx : Nat} {o : wO} {kh4 : Int32 → Int32 → Int32 → wS → Option (Int32 × wS)} {ke48 : Int32 → wS → Option (Int32 × wS)} {x1 : Int32} {x2 : Int32} {x3 : Int32} {w : wS} {r : Int32 × wS} (hG : aGood G) (E : EX Hf bx o) (hL : B_X9_furthestHome_4 o kh4 ke48 x1 x2 x3 w = some r) (Hkh4 : ∀ (z0 : Int32) (z1 : Int32) (z2 : Int32) (w : wS), kh4 z0 z1 z2 w = some r → AG G M_X9_furthestHome 4 [some (.ref (bx + 0)), some (.int (z0)), some (.int (z1)), some (.int (z2))] [] (Hf w) (.inl (some (.int r.1)), Hf r.2)) (Hke48 : ∀ (z0 : Int32) (w : wS), ke48 z0 w = some r → AG G M_X9_furthestHome 48 [none, none, some (.int (z0)), none] [] (Hf w) (.inl (some (.int r.1)), Hf r.2)) : AG G M_X9_furthestHome 4 [some (.ref (bx + 0)), some (.int (x1)), some (.int (x2)), some (.int (x3))] [] (Hf w) (.inl (some (.int r.1)), Hf r.2) := by
  unfold B_X9_furthestHome_4 at hL
  refine g_iload_n dX9_furthestHome_4 rfl rfl ?_
  refine g_aload_n dX9_furthestHome_5 rfl rfl ?_
  refine s_getT (k := 0) (j := 9) E.1 hL rfl rfl f_X9_55 dX9_furthestHome_6 ?_
  intro hL
  refine s_getI (k := 0) (j := 6) E.2.1 hL rfl rfl f_X9_99 dX9_furthestHome_9 ?_
  intro v1 hL
  refine g_icmp_ge (tgt := 48) dX9_furthestHome_12 (by decide) (fun q5 => ?_) (fun q5 => ?_)
  · rw [if_pos q5] at hL
    refine g_none 0 ?_
    refine g_none 1 ?_
    refine g_none 3 ?_
    exact Hke48 _ _ hL
  · rw [if_neg q5] at hL
    refine g_aload_n dX9_furthestHome_15 rfl rfl ?_
    refine s_getT (k := 0) (j := 9) E.1 hL rfl rfl f_X9_55 dX9_furthestHome_16 ?_
    intro hL
    refine s_getR (k := 0) (j := 3) E.2.1 rfl rfl f_X9_157 dX9_furthestHome_19 ?_
    refine g_iload_n dX9_furthestHome_22 rfl rfl ?_
    refine s_iald (k := 4) E.2.1 hL rfl dX9_furthestHome_23 ?_
    intro v2 hL
    refine g_iload_n dX9_furthestHome_24 rfl rfl ?_
    refine g_icmp_ge (tgt := 42) dX9_furthestHome_25 (by decide) (fun q4 => ?_) (fun q4 => ?_)
    · rw [if_pos q4] at hL
      exact J_X9_furthestHome_42_ok hG E hL Hkh4 Hke48
    · rw [if_neg q4] at hL
      refine g_iload_n dX9_furthestHome_28 rfl rfl ?_
      refine g_none 2 ?_
      refine g_aload_n dX9_furthestHome_29 rfl rfl ?_
      refine s_getT (k := 0) (j := 9) E.1 hL rfl rfl f_X9_55 dX9_furthestHome_30 ?_
      intro hL
      refine s_getR (k := 0) (j := 3) E.2.1 rfl rfl f_X9_157 dX9_furthestHome_33 ?_
      refine g_iload_n dX9_furthestHome_36 rfl rfl ?_
      refine s_iald (k := 4) E.2.1 hL rfl dX9_furthestHome_37 ?_
      intro v3 hL
      refine g_mmax (aIn1 526 (by decide +kernel) rfl) mmax_1 mmax_2 mmax_3 (by decide) (Nat.le_of_ble_eq_true rfl) dX9_furthestHome_38 ?_
      refine g_istore_n (i := 2) dX9_furthestHome_41 rfl (by decide) rfl ?_
      exact J_X9_furthestHome_42_ok hG E hL Hkh4 Hke48
def P_X9_furthestHome_4 (o : wO) (ke48 : Int32 → wS → Option (Int32 × wS)) (n : Nat) (x1 : Int32) (x2 : Int32) (x3 : Int32) (w : wS) : Option (Int32 × wS) :=
  xLoop (fun (kk : Int32 × Int32 × Int32 × wS → Option (Int32 × wS)) σ => B_X9_furthestHome_4 o (fun x1 x2 x3 w => kk (x1, x2, x3, w)) ke48 (σ.1) (σ.2.1) (σ.2.2.1) (σ.2.2.2)) n (x1, x2, x3, w)
theorem P_X9_furthestHome_4_ok {G : aG} {Hf : wS → aH} {bx : Nat} {o : wO} {ke48 : Int32 → wS → Option (Int32 × wS)} {n : Nat} {x1 : Int32} {x2 : Int32} {x3 : Int32} {w : wS} {r : Int32 × wS} (hG : aGood G) (E : EX Hf bx o) (hL : P_X9_furthestHome_4 o ke48 n x1 x2 x3 w = some r) (Hke48 : ∀ (z0 : Int32) (w : wS), ke48 z0 w = some r → AG G M_X9_furthestHome 48 [none, none, some (.int (z0)), none] [] (Hf w) (.inl (some (.int r.1)), Hf r.2)) : AG G M_X9_furthestHome 4 [some (.ref (bx + 0)), some (.int (x1)), some (.int (x2)), some (.int (x3))] [] (Hf w) (.inl (some (.int r.1)), Hf r.2) :=
  xLoop_ok (Q := fun (σ : Int32 × Int32 × Int32 × wS) => AG G M_X9_furthestHome 4 [some (.ref (bx + 0)), some (.int (σ.1)), some (.int (σ.2.1)), some (.int (σ.2.2.1))] [] (Hf σ.2.2.2) (.inl (some (.int r.1)), Hf r.2)) (fun kk hk σ hσ => B_X9_furthestHome_4_ok hG E hσ (fun x1 x2 x3 w h9 => hk (x1, x2, x3, w) h9) Hke48) n (x1, x2, x3, w) hL
def L_X9_furthestHome (o : wO) (a1 : Int32) (w : wS) : Option (Int32 × wS) :=
  P_X9_furthestHome_4 o (fun z6 w7 => some (z6, w7)) 5000 (a1) ((-1)) (0) w
set_option maxRecDepth 20000 in
theorem C_X9_furthestHome {G : aG} {Hf : wS → aH} {bx : Nat} {o : wO} {a1 : Int32} {w : wS} {r : Int32 × wS} (hG : aGood G) (E : EX Hf bx o) (hL : L_X9_furthestHome o a1 w = some r) : AC G M_X9_furthestHome [.ref (bx + 0), .int a1] (Hf w) (.inl (some (.int r.1)), Hf r.2) := by
  unfold L_X9_furthestHome at hL
  refine AC.of (by decide) rfl (Nat.le_of_ble_eq_true rfl) ?_
  show AG G M_X9_furthestHome 0 [some (.ref (bx + 0)), some (.int (a1)), none, none] [] _ _
  refine g_iconst (v := (-1)) dX9_furthestHome_0 (by decide) ?_
  refine g_istore_n (i := 2) dX9_furthestHome_1 rfl (by decide) rfl ?_
  refine g_iconst (v := 0) dX9_furthestHome_2 (by decide) ?_
  refine g_istore_n (i := 3) dX9_furthestHome_3 rfl (by decide) rfl ?_
  refine P_X9_furthestHome_4_ok hG E hL ?_
  · intro z6 w7 hL
    refine g_iload_n dX9_furthestHome_48 rfl rfl ?_
    refine g_none 2 ?_
    obtain rfl := Option.some.inj hL
    exact g_iret rfl dX9_furthestHome_49
def J_X9_towers_86 (o : wO) (y0 : Int32) (w : wS) : Option ((Int32 ⊕ String) × wS) :=
  some (.inl (y0), w)
set_option maxRecDepth 20000 in
theorem J_X9_towers_86_ok {G : aG} {Hf : wS → aH} {bx : Nat} {o : wO} {y0 : Int32} {w : wS} {r : (Int32 ⊕ String) × wS} (hG : aGood G) (E : EX Hf bx o) (hL : J_X9_towers_86 o  y0 w = some r) : AG G M_X9_towers 86 [none, none, none, none, none, none, none, none] [.int (y0)] (Hf w) (xRv Hf r) := by
  unfold J_X9_towers_86 at hL
  obtain rfl := Option.some.inj hL
  exact g_iret rfl dX9_towers_86
def J_X9_towers_74 (o : wO) (x2 : Int32) (x3 : Int32) (w : wS) : Option ((Int32 ⊕ String) × wS) :=
  if x2 = 0 then xB (L_J6_bitCount_0f7a4 (x3)) fun v1 => J_X9_towers_86 o  (v1) w else J_X9_towers_86 o  (x3) w
set_option maxRecDepth 20000 in
theorem J_X9_towers_74_ok {G : aG} {Hf : wS → aH} {bx : Nat} {o : wO} {x2 : Int32} {x3 : Int32} {w : wS} {r : (Int32 ⊕ String) × wS} (hG : aGood G) (E : EX Hf bx o) (hL : J_X9_towers_74 o  x2 x3 w = some r) : AG G M_X9_towers 74 [none, none, some (.int (x2)), some (.int (x3)), none, none, none, none] [] (Hf w) (xRv Hf r) := by
  unfold J_X9_towers_74 at hL
  refine g_iload_n dX9_towers_74 rfl rfl ?_
  refine g_none 2 ?_
  refine g_if_ne (tgt := 85) dX9_towers_75 (by decide) (fun q2 => ?_) (fun q2 => ?_)
  · rw [if_neg q2] at hL
    refine g_iload_n dX9_towers_85 rfl rfl ?_
    refine g_none 3 ?_
    exact J_X9_towers_86_ok hG E hL 
  · rw [if_pos q2] at hL
    refine g_iload_n dX9_towers_78 rfl rfl ?_
    refine g_none 3 ?_
    obtain ⟨v1, hc, hL⟩ := xB_some hL
    refine g_callS (M' := M_J6_bitCount_0f7a4) (as := [.int (x3)]) (v := some (.int (v1))) l_X9_283 kS_J6_bitCount_0f7a4 (by decide) (C_J6_bitCount_0f7a4 hc) rfl (Nat.le_of_ble_eq_true rfl) dX9_towers_79 ?_
    refine g_goto (tgt := 86) dX9_towers_82 (by decide) ?_
    exact J_X9_towers_86_ok hG E hL 
def B_X9_towers_21 (o : wO) (kh21 : Int32 → Int32 → Int32 → Int32 → Int32 → wS → Option ((Int32 ⊕ String) × wS)) (ke42 : Int32 → Int32 → wS → Option ((Int32 ⊕ String) × wS)) (ke74 : Int32 → Int32 → wS → Option ((Int32 ⊕ String) × wS)) (x1 : Int32) (x2 : Int32) (x3 : Int32) (x4 : Int32) (x5 : Int32) (w : wS) : Option ((Int32 ⊕ String) × wS) :=
  if 8 ≤ x5 then ke74 (x2) (x3) w else xB2 (L_X9_furthestHome o (x4) w) fun v3 w4 => if v3 = (-1) then ke42 (x2) (x3) w4 else kh21 (x1) (x2) ((x3 ||| ((1 : Int32) <<< ((xMax (0) ((v3 - x1))) &&& 31)))) (((xMax (0) ((v3 - x1))) - x1)) ((x5 + 1)) w4
set_option maxRecDepth 20000 in
theorem B_X9_towers_21_ok {G : aG} {Hf : wS → aH} {bx : Nat} {o : wO} {kh21 : Int32 → Int32 → Int32 → Int32 → Int32 → wS → Option ((Int32 ⊕ String) × wS)} {ke42 : Int32 → Int32 → wS → Option ((Int32 ⊕ String) × wS)} {ke74 : Int32 → Int32 → wS → Option ((Int32 ⊕ String) × wS)} {x1 : Int32} {x2 : Int32} {x3 : Int32} {x4 : Int32} {x5 : Int32} {w : wS} {r : (Int32 ⊕ String) × wS} (hG : aGood G) (E : EX Hf bx o) (hL : B_X9_towers_21 o kh21 ke42 ke74 x1 x2 x3 x4 x5 w = some r) (Hkh21 : ∀ (z0 : Int32) (z1 : Int32) (z2 : Int32) (z3 : Int32) (z4 : Int32) (w : wS), kh21 z0 z1 z2 z3 z4 w = some r → AG G M_X9_towers 21 [some (.ref (bx + 0)), some (.int (z0)), some (.int (z1)), some (.int (z2)), some (.int (z3)), some (.int (z4)), none, none] [] (Hf w) (xRv Hf r)) (Hke42 : ∀ (z0 : Int32) (z1 : Int32) (w : wS), ke42 z0 z1 w = some r → AG G M_X9_towers 42 [none, none, some (.int (z0)), some (.int (z1)), none, none, none, none] [] (Hf w) (xRv Hf r)) (Hke74 : ∀ (z0 : Int32) (z1 : Int32) (w : wS), ke74 z0 z1 w = some r → AG G M_X9_towers 74 [none, none, some (.int (z0)), some (.int (z1)), none, none, none, none] [] (Hf w) (xRv Hf r)) : AG G M_X9_towers 21 [some (.ref (bx + 0)), some (.int (x1)), some (.int (x2)), some (.int (x3)), some (.int (x4)), some (.int (x5)), none, none] [] (Hf w) (xRv Hf r) := by
  unfold B_X9_towers_21 at hL
  refine g_iload dX9_towers_21 rfl ?_
  refine g_bipush (v := 8) dX9_towers_23 (by decide) ?_
  refine g_icmp_ge (tgt := 74) dX9_towers_25 (by decide) (fun q6 => ?_) (fun q6 => ?_)
  · rw [if_pos q6] at hL
    refine g_none 0 ?_
    refine g_none 1 ?_
    refine g_none 4 ?_
    refine g_none 5 ?_
    exact Hke74 _ _ _ hL
  · rw [if_neg q6] at hL
    refine g_aload_n dX9_towers_28 rfl rfl ?_
    refine g_iload dX9_towers_29 rfl ?_
    refine g_none 4 ?_
    obtain ⟨v3, w4, hc, hL⟩ := xB2_some hL
    refine g_callV (M' := M_X9_furthestHome) (as := [.int (x4)]) (v := some (.int (v3))) l_X9_280 kV_X9_furthestHome (by decide) (C_X9_furthestHome hG E hc) rfl (by have := E.1.1; omega) (E.1.2.1 _ 0 _ rfl) ⟨_, _, rfl⟩ (Nat.le_of_ble_eq_true rfl) dX9_towers_31 ?_
    refine g_istore (i := 6) dX9_towers_34 (by decide) rfl ?_
    refine g_iload dX9_towers_36 rfl ?_
    refine g_iconst (v := (-1)) dX9_towers_38 (by decide) ?_
    refine g_icmp_ne (tgt := 45) dX9_towers_39 (by decide) (fun q5 => ?_) (fun q5 => ?_)
    · rw [if_neg q5] at hL
      refine g_iconst (v := 0) dX9_towers_45 (by decide) ?_
      refine g_iload dX9_towers_46 rfl ?_
      refine g_none 6 ?_
      refine g_iload_n dX9_towers_48 rfl rfl ?_
      refine g_isub dX9_towers_49 ?_
      refine g_mmax (aIn1 526 (by decide +kernel) rfl) mmax_1 mmax_2 mmax_3 (by decide) (Nat.le_of_ble_eq_true rfl) dX9_towers_50 ?_
      refine g_istore (i := 7) dX9_towers_53 (by decide) rfl ?_
      refine g_iload_n dX9_towers_55 rfl rfl ?_
      refine g_none 3 ?_
      refine g_iconst (v := 1) dX9_towers_56 (by decide) ?_
      refine g_iload dX9_towers_57 rfl ?_
      refine g_ishl dX9_towers_59 ?_
      refine g_ior dX9_towers_60 ?_
      refine g_istore_n (i := 3) dX9_towers_61 rfl (by decide) rfl ?_
      refine g_iload dX9_towers_62 rfl ?_
      refine g_none 7 ?_
      refine g_iload_n dX9_towers_64 rfl rfl ?_
      refine g_isub dX9_towers_65 ?_
      refine g_istore (i := 4) dX9_towers_66 (by decide) rfl ?_
      refine g_iincV (v := (x5 + 1)) dX9_towers_68 rfl rfl (by decide) rfl ?_
      refine g_goto (tgt := 21) dX9_towers_71 (by decide) ?_
      exact Hkh21 _ _ _ _ _ _ hL
    · rw [if_pos q5] at hL
      refine g_none 0 ?_
      refine g_none 1 ?_
      refine g_none 5 ?_
      refine g_none 6 ?_
      exact Hke42 _ _ _ hL
def P_X9_towers_21 (o : wO) (ke42 : Int32 → Int32 → wS → Option ((Int32 ⊕ String) × wS)) (ke74 : Int32 → Int32 → wS → Option ((Int32 ⊕ String) × wS)) (n : Nat) (x1 : Int32) (x2 : Int32) (x3 : Int32) (x4 : Int32) (x5 : Int32) (w : wS) : Option ((Int32 ⊕ String) × wS) :=
  xLoop (fun (kk : Int32 × Int32 × Int32 × Int32 × Int32 × wS → Option ((Int32 ⊕ String) × wS)) σ => B_X9_towers_21 o (fun x1 x2 x3 x4 x5 w => kk (x1, x2, x3, x4, x5, w)) ke42 ke74 (σ.1) (σ.2.1) (σ.2.2.1) (σ.2.2.2.1) (σ.2.2.2.2.1) (σ.2.2.2.2.2)) n (x1, x2, x3, x4, x5, w)
theorem P_X9_towers_21_ok {G : aG} {Hf : wS → aH} {bx : Nat} {o : wO} {ke42 : Int32 → Int32 → wS → Option ((Int32 ⊕ String) × wS)} {ke74 : Int32 → Int32 → wS → Option ((Int32 ⊕ String) × wS)} {n : Nat} {x1 : Int32} {x2 : Int32} {x3 : Int32} {x4 : Int32} {x5 : Int32} {w : wS} {r : (Int32 ⊕ String) × wS} (hG : aGood G) (E : EX Hf bx o) (hL : P_X9_towers_21 o ke42 ke74 n x1 x2 x3 x4 x5 w = some r) (Hke42 : ∀ (z0 : Int32) (z1 : Int32) (w : wS), ke42 z0 z1 w = some r → AG G M_X9_towers 42 [none, none, some (.int (z0)), some (.int (z1)), none, none, none, none] [] (Hf w) (xRv Hf r)) (Hke74 : ∀ (z0 : Int32) (z1 : Int32) (w : wS), ke74 z0 z1 w = some r → AG G M_X9_towers 74 [none, none, some (.int (z0)), some (.int (z1)), none, none, none, none] [] (Hf w) (xRv Hf r)) : AG G M_X9_towers 21 [some (.ref (bx + 0)), some (.int (x1)), some (.int (x2)), some (.int (x3)), some (.int (x4)), some (.int (x5)), none, none] [] (Hf w) (xRv Hf r) :=
  xLoop_ok (Q := fun (σ : Int32 × Int32 × Int32 × Int32 × Int32 × wS) => AG G M_X9_towers 21 [some (.ref (bx + 0)), some (.int (σ.1)), some (.int (σ.2.1)), some (.int (σ.2.2.1)), some (.int (σ.2.2.2.1)), some (.int (σ.2.2.2.2.1)), none, none] [] (Hf σ.2.2.2.2.2) (xRv Hf r)) (fun kk hk σ hσ => B_X9_towers_21_ok hG E hσ (fun x1 x2 x3 x4 x5 w h9 => hk (x1, x2, x3, x4, x5, w) h9) Hke42 Hke74) n (x1, x2, x3, x4, x5, w) hL
def L_X9_towers (o : wO) (a1 : Int32) (a2 : Int32) (w : wS) : Option ((Int32 ⊕ String) × wS) :=
  xBT (L_X9_needWhat (a2) (1)) (fun E9 => some (.inr E9, w)) (xBT (L_X9_needRange (a1) (0) (30)) (fun E9 => some (.inr E9, w)) (P_X9_towers_21 o (fun z7 z8 w9 => J_X9_towers_74 o  (z7) (z8) w9) (fun z10 z11 w12 => J_X9_towers_74 o  (z10) (z11) w12) 5000 (a1) (a2) (0) (31) (0) w))
set_option maxRecDepth 20000 in
theorem C_X9_towers {G : aG} {Hf : wS → aH} {bx : Nat} {o : wO} {a1 : Int32} {a2 : Int32} {w : wS} {r : (Int32 ⊕ String) × wS} (hG : aGood G) (E : EX Hf bx o) (hL : L_X9_towers o a1 a2 w = some r) : AC G M_X9_towers [.ref (bx + 0), .int a1, .int a2] (Hf w) (xRv Hf r) := by
  unfold L_X9_towers at hL
  refine AC.of (by decide) rfl (Nat.le_of_ble_eq_true rfl) ?_
  show AG G M_X9_towers 0 [some (.ref (bx + 0)), some (.int (a1)), some (.int (a2)), none, none, none, none, none] [] _ _
  refine g_iload_n dX9_towers_0 rfl rfl ?_
  refine g_iconst (v := 1) dX9_towers_1 (by decide) ?_
  rcases xBT_some hL with ⟨hc, hL⟩ | ⟨E9, hc, hL⟩
  · refine g_callS (M' := M_X9_needWhat) (as := [.int (a2), .int (1)]) (v := none) l_X9_221 kS_X9_needWhat (by decide) (C_X9_needWhat hG hc) rfl (Nat.le_of_ble_eq_true rfl) dX9_towers_2 ?_
    refine g_iload_n dX9_towers_5 rfl rfl ?_
    refine g_iconst (v := 0) dX9_towers_6 (by decide) ?_
    refine g_bipush (v := 30) dX9_towers_7 (by decide) ?_
    rcases xBT_some hL with ⟨hc, hL⟩ | ⟨E9, hc, hL⟩
    · refine g_callS (M' := M_X9_needRange) (as := [.int (a1), .int (0), .int (30)]) (v := none) l_X9_224 kS_X9_needRange (by decide) (C_X9_needRange hG hc) rfl (Nat.le_of_ble_eq_true rfl) dX9_towers_9 ?_
      refine g_iconst (v := 0) dX9_towers_12 (by decide) ?_
      refine g_istore_n (i := 3) dX9_towers_13 rfl (by decide) rfl ?_
      refine g_bipush (v := 31) dX9_towers_14 (by decide) ?_
      refine g_istore (i := 4) dX9_towers_16 (by decide) rfl ?_
      refine g_iconst (v := 0) dX9_towers_18 (by decide) ?_
      refine g_istore (i := 5) dX9_towers_19 (by decide) rfl ?_
      refine P_X9_towers_21_ok hG E hL ?_ ?_
      · intro z7 z8 w9 hL
        refine g_goto (tgt := 74) dX9_towers_42 (by decide) ?_
        exact J_X9_towers_74_ok hG E hL 
      · intro z10 z11 w12 hL
        exact J_X9_towers_74_ok hG E hL 
    · obtain rfl := Option.some.inj hL
      exact g_callSX (M' := M_X9_needRange) (as := [.int (a1), .int (0), .int (30)]) (E := E9) (aIn1 1037 (by decide +kernel) rfl) kS_X9_needRange (by decide) rfl (C_X9_needRange hG hc) rfl (Nat.le_of_ble_eq_true rfl) dX9_towers_9
  · obtain rfl := Option.some.inj hL
    exact g_callSX (M' := M_X9_needWhat) (as := [.int (a2), .int (1)]) (E := E9) (aIn1 1033 (by decide +kernel) rfl) kS_X9_needWhat (by decide) rfl (C_X9_needWhat hG hc) rfl (Nat.le_of_ble_eq_true rfl) dX9_towers_2
def L_X4_add_x17 (o : wO) (a1 : Int32) (a2 : Int32) (a3 : Int32) (w : wS) : Option (Int32 × wS) :=
  xB (xGet w 1703) fun v1 => if v1 < 8 then xB (xGet w 1703) fun v2 => xB (xAst w 18 8 (v2) (a1)) fun w3 => xB (xGet w3 1703) fun v4 => xB (xAst w3 19 8 (v4) (a2)) fun w5 => xB (xGet w5 1703) fun v6 => xB (xAst w5 20 8 (v6) (a3)) fun w7 => xB (xGet w7 1703) fun v8 => xB (xPut w7 1703 ((v8 + (1 : Int32)))) fun w9 => some (1, w9) else some (0, w)
set_option maxRecDepth 20000 in
theorem C_X4_add_x17 {G : aG} {Hf : wS → aH} {bx : Nat} {o : wO} {a1 : Int32} {a2 : Int32} {a3 : Int32} {w : wS} {r : Int32 × wS} (hG : aGood G) (E : EX Hf bx o) (hL : L_X4_add_x17 o a1 a2 a3 w = some r) : AC G M_X4_add [.ref (bx + 17), .int a1, .int a2, .int a3] (Hf w) (.inl (some (.int r.1)), Hf r.2) := by
  unfold L_X4_add_x17 at hL
  refine AC.of (by decide) rfl (Nat.le_of_ble_eq_true rfl) ?_
  show AG G M_X4_add 0 [some (.ref (bx + 17)), some (.int (a1)), some (.int (a2)), some (.int (a3))] [] _ _
  refine g_aload_n dX4_add_0 rfl rfl ?_
  refine s_getI (k := 17) (j := 3) E.1 hL rfl rfl f_X4_21 dX4_add_1 ?_
  intro v1 hL
  refine g_bipush (v := 8) dX4_add_4 (by decide) ?_
  refine g_icmp_lt (tgt := 11) dX4_add_6 (by decide) (fun q10 => ?_) (fun q10 => ?_)
  · rw [if_pos q10] at hL
    refine g_aload_n dX4_add_11 rfl rfl ?_
    refine s_getR (k := 17) (j := 0) E.1 rfl rfl f_X4_9 dX4_add_12 ?_
    refine g_aload_n dX4_add_15 rfl rfl ?_
    refine s_getI (k := 17) (j := 3) E.1 hL rfl rfl f_X4_21 dX4_add_16 ?_
    intro v2 hL
    refine g_iload_n dX4_add_19 rfl rfl ?_
    refine g_none 1 ?_
    refine s_iast (k := 18) E.1 hL rfl dX4_add_20 ?_
    intro w3 hL
    refine g_aload_n dX4_add_21 rfl rfl ?_
    refine s_getR (k := 17) (j := 1) E.1 rfl rfl f_X4_15 dX4_add_22 ?_
    refine g_aload_n dX4_add_25 rfl rfl ?_
    refine s_getI (k := 17) (j := 3) E.1 hL rfl rfl f_X4_21 dX4_add_26 ?_
    intro v4 hL
    refine g_iload_n dX4_add_29 rfl rfl ?_
    refine g_none 2 ?_
    refine s_iast (k := 19) E.1 hL rfl dX4_add_30 ?_
    intro w5 hL
    refine g_aload_n dX4_add_31 rfl rfl ?_
    refine s_getR (k := 17) (j := 2) E.1 rfl rfl f_X4_18 dX4_add_32 ?_
    refine g_aload_n dX4_add_35 rfl rfl ?_
    refine s_getI (k := 17) (j := 3) E.1 hL rfl rfl f_X4_21 dX4_add_36 ?_
    intro v6 hL
    refine g_iload_n dX4_add_39 rfl rfl ?_
    refine g_none 3 ?_
    refine s_iast (k := 20) E.1 hL rfl dX4_add_40 ?_
    intro w7 hL
    refine g_aload_n dX4_add_41 rfl rfl ?_
    refine g_none 0 ?_
    refine g_dup dX4_add_42 rfl ?_
    refine s_getI (k := 17) (j := 3) E.1 hL rfl rfl f_X4_21 dX4_add_43 ?_
    intro v8 hL
    refine g_iconst (v := 1) dX4_add_46 (by decide) ?_
    refine g_iadd dX4_add_47 ?_
    refine s_putI (k := 17) (j := 3) E.1 hL rfl rfl (by decide) fw_X4_21 rfl rfl dX4_add_48 ?_
    intro w9 hL
    refine g_iconst (v := 1) dX4_add_51 (by decide) ?_
    obtain rfl := Option.some.inj hL
    exact g_zret rfl (by decide) dX4_add_52
  · rw [if_neg q10] at hL
    refine g_none 0 ?_
    refine g_none 1 ?_
    refine g_none 2 ?_
    refine g_none 3 ?_
    refine g_iconst (v := 0) dX4_add_9 (by decide) ?_
    obtain rfl := Option.some.inj hL
    exact g_zret rfl (by decide) dX4_add_10
def J_X9_see_55 (o : wO) (w : wS) : Option ((Int32 ⊕ String) × wS) :=
  xB (xAld w 48 3 (2)) fun v1 => xB (xAst w 48 3 (2) ((v1 + (1 : Int32)))) fun w2 => some (.inl ((-1)), w2)
set_option maxRecDepth 20000 in
theorem J_X9_see_55_ok {G : aG} {Hf : wS → aH} {bx : Nat} {o : wO} {w : wS} {r : (Int32 ⊕ String) × wS} (hG : aGood G) (E : EX Hf bx o) (hL : J_X9_see_55 o   w = some r) : AG G M_X9_see 55 [some (.ref (bx + 0)), none, none, none, none] [] (Hf w) (xRv Hf r) := by
  unfold J_X9_see_55 at hL
  refine g_aload_n dX9_see_55 rfl rfl ?_
  refine g_none 0 ?_
  refine s_getR (k := 0) (j := 4) E.1 rfl rfl f_X9_33 dX9_see_56 ?_
  refine g_iconst (v := 2) dX9_see_59 (by decide) ?_
  refine g_dup2 dX9_see_60 rfl rfl ?_
  refine s_iald (k := 48) E.1 hL rfl dX9_see_61 ?_
  intro v1 hL
  refine g_iconst (v := 1) dX9_see_62 (by decide) ?_
  refine g_iadd dX9_see_63 ?_
  refine s_iast (k := 48) E.1 hL rfl dX9_see_64 ?_
  intro w2 hL
  refine g_iconst (v := (-1)) dX9_see_65 (by decide) ?_
  obtain rfl := Option.some.inj hL
  exact g_iret rfl dX9_see_66
def J_X9_see_32 (o : wO) (x1 : Int32) (x2 : Int32) (x3 : Int32) (y0 : Int32) (w : wS) : Option ((Int32 ⊕ String) × wS) :=
  if y0 = 0 then J_X9_see_55 o   w else xB2 (L_X4_add_x17 o (x1) (x2) (x3) w) fun v3 w4 => if v3 = 0 then J_X9_see_55 o   w4 else xB (xGet w4 1703) fun v5 => some (.inl (v5), w4)
set_option maxRecDepth 20000 in
theorem J_X9_see_32_ok {G : aG} {Hf : wS → aH} {bx : Nat} {o : wO} {x1 : Int32} {x2 : Int32} {x3 : Int32} {y0 : Int32} {w : wS} {r : (Int32 ⊕ String) × wS} (hG : aGood G) (E : EX Hf bx o) (hL : J_X9_see_32 o  x1 x2 x3 y0 w = some r) : AG G M_X9_see 32 [some (.ref (bx + 0)), some (.int (x1)), some (.int (x2)), some (.int (x3)), none] [.int (y0)] (Hf w) (xRv Hf r) := by
  unfold J_X9_see_32 at hL
  refine g_istore (i := 4) dX9_see_32 (by decide) rfl ?_
  refine g_iload dX9_see_34 rfl ?_
  refine g_none 4 ?_
  refine g_if_eq (tgt := 55) dX9_see_36 (by decide) (fun q7 => ?_) (fun q7 => ?_)
  · rw [if_pos q7] at hL
    refine g_none 1 ?_
    refine g_none 2 ?_
    refine g_none 3 ?_
    exact J_X9_see_55_ok hG E hL 
  · rw [if_neg q7] at hL
    refine g_aload_n dX9_see_39 rfl rfl ?_
    refine s_getR (k := 0) (j := 1) E.1 rfl rfl f_X9_19 dX9_see_40 ?_
    refine s_getR (k := 12) (j := 2) E.1 rfl rfl f_X9_135 dX9_see_43 ?_
    refine g_iload_n dX9_see_46 rfl rfl ?_
    refine g_none 1 ?_
    refine g_iload_n dX9_see_47 rfl rfl ?_
    refine g_none 2 ?_
    refine g_iload_n dX9_see_48 rfl rfl ?_
    refine g_none 3 ?_
    obtain ⟨v3, w4, hc, hL⟩ := xB2_some hL
    refine g_callV (M' := M_X4_add) (as := [.int (x1), .int (x2), .int (x3)]) (v := some (.int (v3))) l_X9_288 kV_X4_add (by decide) (C_X4_add_x17 hG E hc) rfl (by have := E.1.1; omega) (E.1.2.1 _ 17 _ rfl) ⟨_, _, rfl⟩ (Nat.le_of_ble_eq_true rfl) dX9_see_49 ?_
    refine g_if_ne (tgt := 67) dX9_see_52 (by decide) (fun q6 => ?_) (fun q6 => ?_)
    · rw [if_neg q6] at hL
      refine g_aload_n dX9_see_67 rfl rfl ?_
      refine g_none 0 ?_
      refine s_getR (k := 0) (j := 1) E.1 rfl rfl f_X9_19 dX9_see_68 ?_
      refine s_getR (k := 12) (j := 2) E.1 rfl rfl f_X9_135 dX9_see_71 ?_
      refine s_getI (k := 17) (j := 3) E.1 hL rfl rfl f_X9_139 dX9_see_74 ?_
      intro v5 hL
      obtain rfl := Option.some.inj hL
      exact g_iret rfl dX9_see_77
    · rw [if_pos q6] at hL
      exact J_X9_see_55_ok hG E hL 
def J_X9_see_31 (o : wO) (x1 : Int32) (x2 : Int32) (x3 : Int32) (w : wS) : Option ((Int32 ⊕ String) × wS) :=
  J_X9_see_32 o  (x1) (x2) (x3) (0) w
set_option maxRecDepth 20000 in
theorem J_X9_see_31_ok {G : aG} {Hf : wS → aH} {bx : Nat} {o : wO} {x1 : Int32} {x2 : Int32} {x3 : Int32} {w : wS} {r : (Int32 ⊕ String) × wS} (hG : aGood G) (E : EX Hf bx o) (hL : J_X9_see_31 o  x1 x2 x3 w = some r) : AG G M_X9_see 31 [some (.ref (bx + 0)), some (.int (x1)), some (.int (x2)), some (.int (x3)), none] [] (Hf w) (xRv Hf r) := by
  unfold J_X9_see_31 at hL
  refine g_iconst (v := 0) dX9_see_31 (by decide) ?_
  exact J_X9_see_32_ok hG E hL 
def L_X9_see (o : wO) (a1 : Int32) (a2 : Int32) (a3 : Int32) (w : wS) : Option ((Int32 ⊕ String) × wS) :=
  xBT (L_X9_needDuty o (a1) w) (fun E9 => some (.inr E9, w)) (if a2 < 1 then J_X9_see_31 o  (a1) (a2) (a3) w else if 12 < a2 then J_X9_see_31 o  (a1) (a2) (a3) w else if a3 < 0 then J_X9_see_31 o  (a1) (a2) (a3) w else if 1999 < a3 then J_X9_see_31 o  (a1) (a2) (a3) w else J_X9_see_32 o  (a1) (a2) (a3) (1) w)
set_option maxRecDepth 20000 in
theorem C_X9_see {G : aG} {Hf : wS → aH} {bx : Nat} {o : wO} {a1 : Int32} {a2 : Int32} {a3 : Int32} {w : wS} {r : (Int32 ⊕ String) × wS} (hG : aGood G) (E : EX Hf bx o) (hL : L_X9_see o a1 a2 a3 w = some r) : AC G M_X9_see [.ref (bx + 0), .int a1, .int a2, .int a3] (Hf w) (xRv Hf r) := by
  unfold L_X9_see at hL
  refine AC.of (by decide) rfl (Nat.le_of_ble_eq_true rfl) ?_
  show AG G M_X9_see 0 [some (.ref (bx + 0)), some (.int (a1)), some (.int (a2)), some (.int (a3)), none] [] _ _
  refine g_aload_n dX9_see_0 rfl rfl ?_
  refine g_iload_n dX9_see_1 rfl rfl ?_
  rcases xBT_some hL with ⟨hc, hL⟩ | ⟨E9, hc, hL⟩
  · refine g_callV (M' := M_X9_needDuty) (as := [.int (a1)]) (v := none) l_X9_175 kV_X9_needDuty (by decide) (C_X9_needDuty hG E hc) rfl (by have := E.1.1; omega) (E.1.2.1 _ 0 _ rfl) ⟨_, _, rfl⟩ (Nat.le_of_ble_eq_true rfl) dX9_see_2 ?_
    refine g_iload_n dX9_see_5 rfl rfl ?_
    refine g_iconst (v := 1) dX9_see_6 (by decide) ?_
    refine g_icmp_lt (tgt := 31) dX9_see_7 (by decide) (fun q11 => ?_) (fun q11 => ?_)
    · rw [if_pos q11] at hL
      exact J_X9_see_31_ok hG E hL 
    · rw [if_neg q11] at hL
      refine g_iload_n dX9_see_10 rfl rfl ?_
      refine g_bipush (v := 12) dX9_see_11 (by decide) ?_
      refine g_icmp_gt (tgt := 31) dX9_see_13 (by decide) (fun q10 => ?_) (fun q10 => ?_)
      · rw [if_pos q10] at hL
        exact J_X9_see_31_ok hG E hL 
      · rw [if_neg q10] at hL
        refine g_iload_n dX9_see_16 rfl rfl ?_
        refine g_if_lt (tgt := 31) dX9_see_17 (by decide) (fun q9 => ?_) (fun q9 => ?_)
        · rw [if_pos q9] at hL
          exact J_X9_see_31_ok hG E hL 
        · rw [if_neg q9] at hL
          refine g_iload_n dX9_see_20 rfl rfl ?_
          refine g_sipush (v := 1999) dX9_see_21 (by decide) ?_
          refine g_icmp_gt (tgt := 31) dX9_see_24 (by decide) (fun q8 => ?_) (fun q8 => ?_)
          · rw [if_pos q8] at hL
            exact J_X9_see_31_ok hG E hL 
          · rw [if_neg q8] at hL
            refine g_iconst (v := 1) dX9_see_27 (by decide) ?_
            refine g_goto (tgt := 32) dX9_see_28 (by decide) ?_
            exact J_X9_see_32_ok hG E hL 
  · obtain rfl := Option.some.inj hL
    exact g_callVX (M' := M_X9_needDuty) (as := [.int (a1)]) (E := E9) (aIn1 972 (by decide +kernel) rfl) kV_X9_needDuty (by decide) rfl (C_X9_needDuty hG E hc) rfl (by have := E.1.1; omega) (E.1.2.1 _ 0 _ rfl) ⟨_, _, rfl⟩ (Nat.le_of_ble_eq_true rfl) dX9_see_2
def L_X9_forget (o : wO) (w : wS) : Option (wS) :=
  xB (xPut w 1703 (0)) fun w1 => some w1
set_option maxRecDepth 20000 in
theorem C_X9_forget {G : aG} {Hf : wS → aH} {bx : Nat} {o : wO} {w : wS} {r : wS} (hG : aGood G) (E : EX Hf bx o) (hL : L_X9_forget o  w = some r) : AC G M_X9_forget [.ref (bx + 0)] (Hf w) (.inl none, Hf r) := by
  unfold L_X9_forget at hL
  refine AC.of (by decide) rfl (Nat.le_of_ble_eq_true rfl) ?_
  show AG G M_X9_forget 0 [some (.ref (bx + 0))] [] _ _
  refine g_aload_n dX9_forget_0 rfl rfl ?_
  refine g_none 0 ?_
  refine s_getR (k := 0) (j := 1) E.1 rfl rfl f_X9_19 dX9_forget_1 ?_
  refine s_getR (k := 12) (j := 2) E.1 rfl rfl f_X9_135 dX9_forget_4 ?_
  refine g_iconst (v := 0) dX9_forget_7 (by decide) ?_
  refine s_putI (k := 17) (j := 3) E.1 hL rfl rfl (by decide) fw_X9_139 rfl rfl dX9_forget_8 ?_
  intro w1 hL
  obtain rfl := Option.some.inj hL
  exact g_vret rfl dX9_forget_11
def J_X4_agrees_x17_x30_56 (o : wO) (kh2 : Int32 → Int32 → wS → Option (Int32 × wS)) (ke54 : wS → Option (Int32 × wS)) (ke62 : wS → Option (Int32 × wS)) (x2 : Int32) (x3 : Int32) (w : wS) : Option (Int32 × wS) :=
  kh2 (x2) ((x3 + 1)) w
set_option maxRecDepth 20000 in
theorem J_X4_agrees_x17_x30_56_ok {G : aG} {Hf : wS → aH} {bx : Nat} {o : wO} {kh2 : Int32 → Int32 → wS → Option (Int32 × wS)} {ke54 : wS → Option (Int32 × wS)} {ke62 : wS → Option (Int32 × wS)} {x2 : Int32} {x3 : Int32} {w : wS} {r : Int32 × wS} (hG : aGood G) (E : EX Hf bx o) (hL : J_X4_agrees_x17_x30_56 o kh2 ke54 ke62 x2 x3 w = some r) (Hkh2 : ∀ (z0 : Int32) (z1 : Int32) (w : wS), kh2 z0 z1 w = some r → AG G M_X4_agrees 2 [some (.ref (bx + 17)), some (.ref (bx + 30)), some (.int (z0)), some (.int (z1)), none] [] (Hf w) (.inl (some (.int r.1)), Hf r.2)) (Hke54 : ∀ (w : wS), ke54  w = some r → AG G M_X4_agrees 54 [none, none, none, none, none] [] (Hf w) (.inl (some (.int r.1)), Hf r.2)) (Hke62 : ∀ (w : wS), ke62  w = some r → AG G M_X4_agrees 62 [none, none, none, none, none] [] (Hf w) (.inl (some (.int r.1)), Hf r.2)) : AG G M_X4_agrees 56 [some (.ref (bx + 17)), some (.ref (bx + 30)), some (.int (x2)), some (.int (x3)), none] [] (Hf w) (.inl (some (.int r.1)), Hf r.2) := by
  unfold J_X4_agrees_x17_x30_56 at hL
  refine g_iincV (v := (x3 + 1)) dX4_agrees_56 rfl rfl (by decide) rfl ?_
  refine g_goto (tgt := 2) dX4_agrees_59 (by decide) ?_
  exact Hkh2 _ _ _ hL
def B_X4_agrees_x17_x30_2 (o : wO) (kh2 : Int32 → Int32 → wS → Option (Int32 × wS)) (ke54 : wS → Option (Int32 × wS)) (ke62 : wS → Option (Int32 × wS)) (x2 : Int32) (x3 : Int32) (w : wS) : Option (Int32 × wS) :=
  xB (xGet w 1703) fun v1 => if v1 ≤ x3 then ke62  w else xB (xAld w 18 8 (x3)) fun v2 => xB (xAld w 19 8 (x3)) fun v3 => if v3 = x2 then xB2 (L_X5_dueOf_x31 o (v2) w) fun v4 w5 => xB (xAld w5 38 6 (v2)) fun v6 => xB (xAld w5 20 8 (x3)) fun v7 => if (v4 + v6) = v7 then J_X4_agrees_x17_x30_56 o kh2 ke54 ke62 (x2) (x3) w5 else ke54  w5 else J_X4_agrees_x17_x30_56 o kh2 ke54 ke62 (x2) (x3) w
set_option maxRecDepth 20000 in
theorem B_X4_agrees_x17_x30_2_ok {G : aG} {Hf : wS → aH} {bx : Nat} {o : wO} {kh2 : Int32 → Int32 → wS → Option (Int32 × wS)} {ke54 : wS → Option (Int32 × wS)} {ke62 : wS → Option (Int32 × wS)} {x2 : Int32} {x3 : Int32} {w : wS} {r : Int32 × wS} (hG : aGood G) (E : EX Hf bx o) (hL : B_X4_agrees_x17_x30_2 o kh2 ke54 ke62 x2 x3 w = some r) (Hkh2 : ∀ (z0 : Int32) (z1 : Int32) (w : wS), kh2 z0 z1 w = some r → AG G M_X4_agrees 2 [some (.ref (bx + 17)), some (.ref (bx + 30)), some (.int (z0)), some (.int (z1)), none] [] (Hf w) (.inl (some (.int r.1)), Hf r.2)) (Hke54 : ∀ (w : wS), ke54  w = some r → AG G M_X4_agrees 54 [none, none, none, none, none] [] (Hf w) (.inl (some (.int r.1)), Hf r.2)) (Hke62 : ∀ (w : wS), ke62  w = some r → AG G M_X4_agrees 62 [none, none, none, none, none] [] (Hf w) (.inl (some (.int r.1)), Hf r.2)) : AG G M_X4_agrees 2 [some (.ref (bx + 17)), some (.ref (bx + 30)), some (.int (x2)), some (.int (x3)), none] [] (Hf w) (.inl (some (.int r.1)), Hf r.2) := by
  unfold B_X4_agrees_x17_x30_2 at hL
  refine g_iload_n dX4_agrees_2 rfl rfl ?_
  refine g_aload_n dX4_agrees_3 rfl rfl ?_
  refine s_getI (k := 17) (j := 3) E.1 hL rfl rfl f_X4_21 dX4_agrees_4 ?_
  intro v1 hL
  refine g_icmp_ge (tgt := 62) dX4_agrees_7 (by decide) (fun q10 => ?_) (fun q10 => ?_)
  · rw [if_pos q10] at hL
    refine g_none 0 ?_
    refine g_none 1 ?_
    refine g_none 2 ?_
    refine g_none 3 ?_
    exact Hke62  _ hL
  · rw [if_neg q10] at hL
    refine g_aload_n dX4_agrees_10 rfl rfl ?_
    refine s_getR (k := 17) (j := 0) E.1 rfl rfl f_X4_9 dX4_agrees_11 ?_
    refine g_iload_n dX4_agrees_14 rfl rfl ?_
    refine s_iald (k := 18) E.1 hL rfl dX4_agrees_15 ?_
    intro v2 hL
    refine g_istore (i := 4) dX4_agrees_16 (by decide) rfl ?_
    refine g_aload_n dX4_agrees_18 rfl rfl ?_
    refine s_getR (k := 17) (j := 1) E.1 rfl rfl f_X4_15 dX4_agrees_19 ?_
    refine g_iload_n dX4_agrees_22 rfl rfl ?_
    refine s_iald (k := 19) E.1 hL rfl dX4_agrees_23 ?_
    intro v3 hL
    refine g_iload_n dX4_agrees_24 rfl rfl ?_
    refine g_icmp_ne (tgt := 56) dX4_agrees_25 (by decide) (fun q9 => ?_) (fun q9 => ?_)
    · rw [if_neg q9] at hL
      refine g_none 4 ?_
      exact J_X4_agrees_x17_x30_56_ok hG E hL Hkh2 Hke54 Hke62
    · rw [if_pos q9] at hL
      refine g_aload_n dX4_agrees_28 rfl rfl ?_
      refine s_getR (k := 30) (j := 0) E.1 rfl rfl f_X4_31 dX4_agrees_29 ?_
      refine g_iload dX4_agrees_32 rfl ?_
      obtain ⟨v4, w5, hc, hL⟩ := xB2_some hL
      refine g_callV (M' := M_X5_dueOf) (as := [.int (v2)]) (v := some (.int (v4))) l_X4_37 kV_X5_dueOf (by decide) (C_X5_dueOf_x31 hG E hc) rfl (by have := E.1.1; omega) (E.1.2.1 _ 31 _ rfl) ⟨_, _, rfl⟩ (Nat.le_of_ble_eq_true rfl) dX4_agrees_34 ?_
      refine g_aload_n dX4_agrees_37 rfl rfl ?_
      refine s_getR (k := 30) (j := 6) E.1 rfl rfl f_X4_43 dX4_agrees_38 ?_
      refine g_iload dX4_agrees_41 rfl ?_
      refine g_none 4 ?_
      refine s_iald (k := 38) E.1 hL rfl dX4_agrees_43 ?_
      intro v6 hL
      refine g_iadd dX4_agrees_44 ?_
      refine g_aload_n dX4_agrees_45 rfl rfl ?_
      refine s_getR (k := 17) (j := 2) E.1 rfl rfl f_X4_18 dX4_agrees_46 ?_
      refine g_iload_n dX4_agrees_49 rfl rfl ?_
      refine s_iald (k := 20) E.1 hL rfl dX4_agrees_50 ?_
      intro v7 hL
      refine g_icmp_eq (tgt := 56) dX4_agrees_51 (by decide) (fun q8 => ?_) (fun q8 => ?_)
      · rw [if_pos q8] at hL
        exact J_X4_agrees_x17_x30_56_ok hG E hL Hkh2 Hke54 Hke62
      · rw [if_neg q8] at hL
        refine g_none 0 ?_
        refine g_none 1 ?_
        refine g_none 2 ?_
        refine g_none 3 ?_
        exact Hke54  _ hL
def P_X4_agrees_x17_x30_2 (o : wO) (ke54 : wS → Option (Int32 × wS)) (ke62 : wS → Option (Int32 × wS)) (n : Nat) (x2 : Int32) (x3 : Int32) (w : wS) : Option (Int32 × wS) :=
  xLoop (fun (kk : Int32 × Int32 × wS → Option (Int32 × wS)) σ => B_X4_agrees_x17_x30_2 o (fun x2 x3 w => kk (x2, x3, w)) ke54 ke62 (σ.1) (σ.2.1) (σ.2.2)) n (x2, x3, w)
theorem P_X4_agrees_x17_x30_2_ok {G : aG} {Hf : wS → aH} {bx : Nat} {o : wO} {ke54 : wS → Option (Int32 × wS)} {ke62 : wS → Option (Int32 × wS)} {n : Nat} {x2 : Int32} {x3 : Int32} {w : wS} {r : Int32 × wS} (hG : aGood G) (E : EX Hf bx o) (hL : P_X4_agrees_x17_x30_2 o ke54 ke62 n x2 x3 w = some r) (Hke54 : ∀ (w : wS), ke54  w = some r → AG G M_X4_agrees 54 [none, none, none, none, none] [] (Hf w) (.inl (some (.int r.1)), Hf r.2)) (Hke62 : ∀ (w : wS), ke62  w = some r → AG G M_X4_agrees 62 [none, none, none, none, none] [] (Hf w) (.inl (some (.int r.1)), Hf r.2)) : AG G M_X4_agrees 2 [some (.ref (bx + 17)), some (.ref (bx + 30)), some (.int (x2)), some (.int (x3)), none] [] (Hf w) (.inl (some (.int r.1)), Hf r.2) :=
  xLoop_ok (Q := fun (σ : Int32 × Int32 × wS) => AG G M_X4_agrees 2 [some (.ref (bx + 17)), some (.ref (bx + 30)), some (.int (σ.1)), some (.int (σ.2.1)), none] [] (Hf σ.2.2) (.inl (some (.int r.1)), Hf r.2)) (fun kk hk σ hσ => B_X4_agrees_x17_x30_2_ok hG E hσ (fun x2 x3 w h9 => hk (x2, x3, w) h9) Hke54 Hke62) n (x2, x3, w) hL
def L_X4_agrees_x17_x30 (o : wO) (a2 : Int32) (w : wS) : Option (Int32 × wS) :=
  P_X4_agrees_x17_x30_2 o (fun w11 => some (0, w11)) (fun w12 => some (1, w12)) 5000 (a2) (0) w
set_option maxRecDepth 20000 in
theorem C_X4_agrees_x17_x30 {G : aG} {Hf : wS → aH} {bx : Nat} {o : wO} {a2 : Int32} {w : wS} {r : Int32 × wS} (hG : aGood G) (E : EX Hf bx o) (hL : L_X4_agrees_x17_x30 o a2 w = some r) : AC G M_X4_agrees [.ref (bx + 17), .ref (bx + 30), .int a2] (Hf w) (.inl (some (.int r.1)), Hf r.2) := by
  unfold L_X4_agrees_x17_x30 at hL
  refine AC.of (by decide) rfl (Nat.le_of_ble_eq_true rfl) ?_
  show AG G M_X4_agrees 0 [some (.ref (bx + 17)), some (.ref (bx + 30)), some (.int (a2)), none, none] [] _ _
  refine g_iconst (v := 0) dX4_agrees_0 (by decide) ?_
  refine g_istore_n (i := 3) dX4_agrees_1 rfl (by decide) rfl ?_
  refine P_X4_agrees_x17_x30_2_ok hG E hL ?_ ?_
  · intro w11 hL
    refine g_iconst (v := 0) dX4_agrees_54 (by decide) ?_
    obtain rfl := Option.some.inj hL
    exact g_zret rfl (by decide) dX4_agrees_55
  · intro w12 hL
    refine g_iconst (v := 1) dX4_agrees_62 (by decide) ?_
    obtain rfl := Option.some.inj hL
    exact g_zret rfl (by decide) dX4_agrees_63
def B_X4_latestDay_x17_4 (o : wO) (kh4 : Int32 → Int32 → wS → Option (Int32 × wS)) (ke29 : Int32 → wS → Option (Int32 × wS)) (x1 : Int32) (x2 : Int32) (w : wS) : Option (Int32 × wS) :=
  xB (xGet w 1703) fun v1 => if v1 ≤ x2 then ke29 (x1) w else xB (xAld w 19 8 (x2)) fun v2 => kh4 ((xMax (x1) (v2))) ((x2 + 1)) w
set_option maxRecDepth 20000 in
theorem B_X4_latestDay_x17_4_ok {G : aG} {Hf : wS → aH} {bx : Nat} {o : wO} {kh4 : Int32 → Int32 → wS → Option (Int32 × wS)} {ke29 : Int32 → wS → Option (Int32 × wS)} {x1 : Int32} {x2 : Int32} {w : wS} {r : Int32 × wS} (hG : aGood G) (E : EX Hf bx o) (hL : B_X4_latestDay_x17_4 o kh4 ke29 x1 x2 w = some r) (Hkh4 : ∀ (z0 : Int32) (z1 : Int32) (w : wS), kh4 z0 z1 w = some r → AG G M_X4_latestDay 4 [some (.ref (bx + 17)), some (.int (z0)), some (.int (z1))] [] (Hf w) (.inl (some (.int r.1)), Hf r.2)) (Hke29 : ∀ (z0 : Int32) (w : wS), ke29 z0 w = some r → AG G M_X4_latestDay 29 [none, some (.int (z0)), none] [] (Hf w) (.inl (some (.int r.1)), Hf r.2)) : AG G M_X4_latestDay 4 [some (.ref (bx + 17)), some (.int (x1)), some (.int (x2))] [] (Hf w) (.inl (some (.int r.1)), Hf r.2) := by
  unfold B_X4_latestDay_x17_4 at hL
  refine g_iload_n dX4_latestDay_4 rfl rfl ?_
  refine g_aload_n dX4_latestDay_5 rfl rfl ?_
  refine s_getI (k := 17) (j := 3) E.1 hL rfl rfl f_X4_21 dX4_latestDay_6 ?_
  intro v1 hL
  refine g_icmp_ge (tgt := 29) dX4_latestDay_9 (by decide) (fun q3 => ?_) (fun q3 => ?_)
  · rw [if_pos q3] at hL
    refine g_none 0 ?_
    refine g_none 2 ?_
    exact Hke29 _ _ hL
  · rw [if_neg q3] at hL
    refine g_iload_n dX4_latestDay_12 rfl rfl ?_
    refine g_none 1 ?_
    refine g_aload_n dX4_latestDay_13 rfl rfl ?_
    refine s_getR (k := 17) (j := 1) E.1 rfl rfl f_X4_15 dX4_latestDay_14 ?_
    refine g_iload_n dX4_latestDay_17 rfl rfl ?_
    refine s_iald (k := 19) E.1 hL rfl dX4_latestDay_18 ?_
    intro v2 hL
    refine g_mmax (aIn1 1171 (by decide +kernel) rfl) mmax_1 mmax_2 mmax_3 (by decide) (Nat.le_of_ble_eq_true rfl) dX4_latestDay_19 ?_
    refine g_istore_n (i := 1) dX4_latestDay_22 rfl (by decide) rfl ?_
    refine g_iincV (v := (x2 + 1)) dX4_latestDay_23 rfl rfl (by decide) rfl ?_
    refine g_goto (tgt := 4) dX4_latestDay_26 (by decide) ?_
    exact Hkh4 _ _ _ hL
def P_X4_latestDay_x17_4 (o : wO) (ke29 : Int32 → wS → Option (Int32 × wS)) (n : Nat) (x1 : Int32) (x2 : Int32) (w : wS) : Option (Int32 × wS) :=
  xLoop (fun (kk : Int32 × Int32 × wS → Option (Int32 × wS)) σ => B_X4_latestDay_x17_4 o (fun x1 x2 w => kk (x1, x2, w)) ke29 (σ.1) (σ.2.1) (σ.2.2)) n (x1, x2, w)
theorem P_X4_latestDay_x17_4_ok {G : aG} {Hf : wS → aH} {bx : Nat} {o : wO} {ke29 : Int32 → wS → Option (Int32 × wS)} {n : Nat} {x1 : Int32} {x2 : Int32} {w : wS} {r : Int32 × wS} (hG : aGood G) (E : EX Hf bx o) (hL : P_X4_latestDay_x17_4 o ke29 n x1 x2 w = some r) (Hke29 : ∀ (z0 : Int32) (w : wS), ke29 z0 w = some r → AG G M_X4_latestDay 29 [none, some (.int (z0)), none] [] (Hf w) (.inl (some (.int r.1)), Hf r.2)) : AG G M_X4_latestDay 4 [some (.ref (bx + 17)), some (.int (x1)), some (.int (x2))] [] (Hf w) (.inl (some (.int r.1)), Hf r.2) :=
  xLoop_ok (Q := fun (σ : Int32 × Int32 × wS) => AG G M_X4_latestDay 4 [some (.ref (bx + 17)), some (.int (σ.1)), some (.int (σ.2.1))] [] (Hf σ.2.2) (.inl (some (.int r.1)), Hf r.2)) (fun kk hk σ hσ => B_X4_latestDay_x17_4_ok hG E hσ (fun x1 x2 w h9 => hk (x1, x2, w) h9) Hke29) n (x1, x2, w) hL
def L_X4_latestDay_x17 (o : wO) (w : wS) : Option (Int32 × wS) :=
  P_X4_latestDay_x17_4 o (fun z4 w5 => some (z4, w5)) 5000 (0) (0) w
set_option maxRecDepth 20000 in
theorem C_X4_latestDay_x17 {G : aG} {Hf : wS → aH} {bx : Nat} {o : wO} {w : wS} {r : Int32 × wS} (hG : aGood G) (E : EX Hf bx o) (hL : L_X4_latestDay_x17 o  w = some r) : AC G M_X4_latestDay [.ref (bx + 17)] (Hf w) (.inl (some (.int r.1)), Hf r.2) := by
  unfold L_X4_latestDay_x17 at hL
  refine AC.of (by decide) rfl (Nat.le_of_ble_eq_true rfl) ?_
  show AG G M_X4_latestDay 0 [some (.ref (bx + 17)), none, none] [] _ _
  refine g_iconst (v := 0) dX4_latestDay_0 (by decide) ?_
  refine g_istore_n (i := 1) dX4_latestDay_1 rfl (by decide) rfl ?_
  refine g_iconst (v := 0) dX4_latestDay_2 (by decide) ?_
  refine g_istore_n (i := 2) dX4_latestDay_3 rfl (by decide) rfl ?_
  refine P_X4_latestDay_x17_4_ok hG E hL ?_
  · intro z4 w5 hL
    refine g_iload_n dX4_latestDay_29 rfl rfl ?_
    refine g_none 1 ?_
    obtain rfl := Option.some.inj hL
    exact g_iret rfl dX4_latestDay_30
def B_X9_isAsSeen_32 (o : wO) (kh32 : Int32 → Int32 → wS → Option (Int32 × wS)) (ke59 : wS → Option (Int32 × wS)) (ke67 : wS → Option (Int32 × wS)) (x4 : Int32) (x5 : Int32) (w : wS) : Option (Int32 × wS) :=
  if x4 < x5 then ke67  w else xB (L_X1_oneDay o  w) fun w1 => xB2 (L_X4_agrees_x17_x30 o (x5) w1) fun v2 w3 => if v2 = 0 then ke59  w3 else kh32 (x4) ((x5 + 1)) w3
set_option maxRecDepth 20000 in
theorem B_X9_isAsSeen_32_ok {G : aG} {Hf : wS → aH} {bx : Nat} {o : wO} {kh32 : Int32 → Int32 → wS → Option (Int32 × wS)} {ke59 : wS → Option (Int32 × wS)} {ke67 : wS → Option (Int32 × wS)} {x4 : Int32} {x5 : Int32} {w : wS} {r : Int32 × wS} (hG : aGood G) (E : EX Hf bx o) (hL : B_X9_isAsSeen_32 o kh32 ke59 ke67 x4 x5 w = some r) (Hkh32 : ∀ (z0 : Int32) (z1 : Int32) (w : wS), kh32 z0 z1 w = some r → AG G M_X9_isAsSeen 32 [some (.ref (bx + 0)), none, none, some (.ref (bx + 30)), some (.int (z0)), some (.int (z1))] [] (Hf w) (.inl (some (.int r.1)), Hf r.2)) (Hke59 : ∀ (w : wS), ke59  w = some r → AG G M_X9_isAsSeen 59 [none, none, none, none, none, none] [] (Hf w) (.inl (some (.int r.1)), Hf r.2)) (Hke67 : ∀ (w : wS), ke67  w = some r → AG G M_X9_isAsSeen 67 [none, none, none, none, none, none] [] (Hf w) (.inl (some (.int r.1)), Hf r.2)) : AG G M_X9_isAsSeen 32 [some (.ref (bx + 0)), none, none, some (.ref (bx + 30)), some (.int (x4)), some (.int (x5))] [] (Hf w) (.inl (some (.int r.1)), Hf r.2) := by
  unfold B_X9_isAsSeen_32 at hL
  refine g_iload dX9_isAsSeen_32 rfl ?_
  refine g_iload dX9_isAsSeen_34 rfl ?_
  refine g_icmp_gt (tgt := 67) dX9_isAsSeen_36 (by decide) (fun q5 => ?_) (fun q5 => ?_)
  · rw [if_pos q5] at hL
    refine g_none 0 ?_
    refine g_none 3 ?_
    refine g_none 4 ?_
    refine g_none 5 ?_
    exact Hke67  _ hL
  · rw [if_neg q5] at hL
    refine g_aload_n dX9_isAsSeen_39 rfl rfl ?_
    obtain ⟨w1, hc, hL⟩ := xB_some hL
    refine g_callV (M' := M_X1_oneDay) (as := []) (v := none) l_X9_234 kV_X1_oneDay (by decide) (C_X1_oneDay hG E hc) rfl (by have := E.1.1; omega) (E.1.2.1 _ 30 _ rfl) ⟨_, _, rfl⟩ (Nat.le_of_ble_eq_true rfl) dX9_isAsSeen_40 ?_
    refine g_aload_n dX9_isAsSeen_43 rfl rfl ?_
    refine s_getR (k := 0) (j := 1) E.1 rfl rfl f_X9_19 dX9_isAsSeen_44 ?_
    refine s_getR (k := 12) (j := 2) E.1 rfl rfl f_X9_135 dX9_isAsSeen_47 ?_
    refine g_aload_n dX9_isAsSeen_50 rfl rfl ?_
    refine g_iload dX9_isAsSeen_51 rfl ?_
    obtain ⟨v2, w3, hc, hL⟩ := xB2_some hL
    refine g_callV (M' := M_X4_agrees) (as := [.ref (bx + 30), .int (x5)]) (v := some (.int (v2))) l_X9_386 kV_X4_agrees (by decide) (C_X4_agrees_x17_x30 hG E hc) rfl (by have := E.1.1; omega) (E.1.2.1 _ 17 _ rfl) ⟨_, _, rfl⟩ (Nat.le_of_ble_eq_true rfl) dX9_isAsSeen_53 ?_
    refine g_if_ne (tgt := 61) dX9_isAsSeen_56 (by decide) (fun q4 => ?_) (fun q4 => ?_)
    · rw [if_neg q4] at hL
      refine g_iincV (v := (x5 + 1)) dX9_isAsSeen_61 rfl rfl (by decide) rfl ?_
      refine g_goto (tgt := 32) dX9_isAsSeen_64 (by decide) ?_
      exact Hkh32 _ _ _ hL
    · rw [if_pos q4] at hL
      refine g_none 0 ?_
      refine g_none 3 ?_
      refine g_none 4 ?_
      refine g_none 5 ?_
      exact Hke59  _ hL
def P_X9_isAsSeen_32 (o : wO) (ke59 : wS → Option (Int32 × wS)) (ke67 : wS → Option (Int32 × wS)) (n : Nat) (x4 : Int32) (x5 : Int32) (w : wS) : Option (Int32 × wS) :=
  xLoop (fun (kk : Int32 × Int32 × wS → Option (Int32 × wS)) σ => B_X9_isAsSeen_32 o (fun x4 x5 w => kk (x4, x5, w)) ke59 ke67 (σ.1) (σ.2.1) (σ.2.2)) n (x4, x5, w)
theorem P_X9_isAsSeen_32_ok {G : aG} {Hf : wS → aH} {bx : Nat} {o : wO} {ke59 : wS → Option (Int32 × wS)} {ke67 : wS → Option (Int32 × wS)} {n : Nat} {x4 : Int32} {x5 : Int32} {w : wS} {r : Int32 × wS} (hG : aGood G) (E : EX Hf bx o) (hL : P_X9_isAsSeen_32 o ke59 ke67 n x4 x5 w = some r) (Hke59 : ∀ (w : wS), ke59  w = some r → AG G M_X9_isAsSeen 59 [none, none, none, none, none, none] [] (Hf w) (.inl (some (.int r.1)), Hf r.2)) (Hke67 : ∀ (w : wS), ke67  w = some r → AG G M_X9_isAsSeen 67 [none, none, none, none, none, none] [] (Hf w) (.inl (some (.int r.1)), Hf r.2)) : AG G M_X9_isAsSeen 32 [some (.ref (bx + 0)), none, none, some (.ref (bx + 30)), some (.int (x4)), some (.int (x5))] [] (Hf w) (.inl (some (.int r.1)), Hf r.2) :=
  xLoop_ok (Q := fun (σ : Int32 × Int32 × wS) => AG G M_X9_isAsSeen 32 [some (.ref (bx + 0)), none, none, some (.ref (bx + 30)), some (.int (σ.1)), some (.int (σ.2.1))] [] (Hf σ.2.2) (.inl (some (.int r.1)), Hf r.2)) (fun kk hk σ hσ => B_X9_isAsSeen_32_ok hG E hσ (fun x4 x5 w h9 => hk (x4, x5, w) h9) Hke59 Hke67) n (x4, x5, w) hL
def J_X9_isAsSeen_17 (o : wO) (w : wS) : Option (Int32 × wS) :=
  xB2 (L_X4_latestDay_x17 o  w) fun v6 w7 => P_X9_isAsSeen_32 o (fun w8 => some (0, w8)) (fun w9 => some (1, w9)) 5000 (v6) (1) w7
set_option maxRecDepth 20000 in
theorem J_X9_isAsSeen_17_ok {G : aG} {Hf : wS → aH} {bx : Nat} {o : wO} {w : wS} {r : Int32 × wS} (hG : aGood G) (E : EX Hf bx o) (hL : J_X9_isAsSeen_17 o   w = some r) : AG G M_X9_isAsSeen 17 [some (.ref (bx + 0)), none, none, some (.ref (bx + 30)), none, none] [] (Hf w) (.inl (some (.int r.1)), Hf r.2) := by
  unfold J_X9_isAsSeen_17 at hL
  refine g_aload_n dX9_isAsSeen_17 rfl rfl ?_
  refine s_getR (k := 0) (j := 1) E.1 rfl rfl f_X9_19 dX9_isAsSeen_18 ?_
  refine s_getR (k := 12) (j := 2) E.1 rfl rfl f_X9_135 dX9_isAsSeen_21 ?_
  obtain ⟨v6, w7, hc, hL⟩ := xB2_some hL
  refine g_callV (M' := M_X4_latestDay) (as := []) (v := some (.int (v6))) l_X9_383 kV_X4_latestDay (by decide) (C_X4_latestDay_x17 hG E hc) rfl (by have := E.1.1; omega) (E.1.2.1 _ 17 _ rfl) ⟨_, _, rfl⟩ (Nat.le_of_ble_eq_true rfl) dX9_isAsSeen_24 ?_
  refine g_istore (i := 4) dX9_isAsSeen_27 (by decide) rfl ?_
  refine g_iconst (v := 1) dX9_isAsSeen_29 (by decide) ?_
  refine g_istore (i := 5) dX9_isAsSeen_30 (by decide) rfl ?_
  refine P_X9_isAsSeen_32_ok hG E hL ?_ ?_
  · intro w8 hL
    refine g_iconst (v := 0) dX9_isAsSeen_59 (by decide) ?_
    obtain rfl := Option.some.inj hL
    exact g_zret rfl (by decide) dX9_isAsSeen_60
  · intro w9 hL
    refine g_iconst (v := 1) dX9_isAsSeen_67 (by decide) ?_
    obtain rfl := Option.some.inj hL
    exact g_zret rfl (by decide) dX9_isAsSeen_68
def L_X9_isAsSeen (o : wO) (a1 : Int32) (a2 : Int32) (w : wS) : Option (Int32 × wS) :=
  xB (L_X9_fromNow o  w) fun w10 => if a1 = (-1) then J_X9_isAsSeen_17 o   w10 else xB (xAst w10 33 8 (a1) (a2)) fun w11 => J_X9_isAsSeen_17 o   w11
set_option maxRecDepth 20000 in
theorem C_X9_isAsSeen {G : aG} {Hf : wS → aH} {bx : Nat} {o : wO} {a1 : Int32} {a2 : Int32} {w : wS} {r : Int32 × wS} (hG : aGood G) (E : EX Hf bx o) (hL : L_X9_isAsSeen o a1 a2 w = some r) : AC G M_X9_isAsSeen [.ref (bx + 0), .int a1, .int a2] (Hf w) (.inl (some (.int r.1)), Hf r.2) := by
  unfold L_X9_isAsSeen at hL
  refine AC.of (by decide) rfl (Nat.le_of_ble_eq_true rfl) ?_
  show AG G M_X9_isAsSeen 0 [some (.ref (bx + 0)), some (.int (a1)), some (.int (a2)), none, none, none] [] _ _
  refine g_aload_n dX9_isAsSeen_0 rfl rfl ?_
  obtain ⟨w10, hc, hL⟩ := xB_some hL
  refine g_callV (M' := M_X9_fromNow) (as := []) (v := some (.ref (bx + 30))) l_X9_193 kV_X9_fromNow (by decide) (C_X9_fromNow hG E hc) rfl (by have := E.1.1; omega) (E.1.2.1 _ 0 _ rfl) ⟨_, _, rfl⟩ (Nat.le_of_ble_eq_true rfl) dX9_isAsSeen_1 ?_
  refine g_astore_n (i := 3) dX9_isAsSeen_4 rfl (by decide) rfl ?_
  refine g_iload_n dX9_isAsSeen_5 rfl rfl ?_
  refine g_iconst (v := (-1)) dX9_isAsSeen_6 (by decide) ?_
  refine g_icmp_eq (tgt := 17) dX9_isAsSeen_7 (by decide) (fun q12 => ?_) (fun q12 => ?_)
  · rw [if_pos q12] at hL
    refine g_none 1 ?_
    refine g_none 2 ?_
    exact J_X9_isAsSeen_17_ok hG E hL 
  · rw [if_neg q12] at hL
    refine g_aload_n dX9_isAsSeen_10 rfl rfl ?_
    refine s_getR (k := 30) (j := 1) E.1 rfl rfl f_X9_382 dX9_isAsSeen_11 ?_
    refine g_iload_n dX9_isAsSeen_14 rfl rfl ?_
    refine g_none 1 ?_
    refine g_iload_n dX9_isAsSeen_15 rfl rfl ?_
    refine g_none 2 ?_
    refine s_iast (k := 33) E.1 hL rfl dX9_isAsSeen_16 ?_
    intro w11 hL
    exact J_X9_isAsSeen_17_ok hG E hL 
def J_X9_habits_111 (o : wO) (y0 : Int32) (w : wS) : Option ((Int32 ⊕ String) × wS) :=
  some (.inl (y0), w)
set_option maxRecDepth 20000 in
theorem J_X9_habits_111_ok {G : aG} {Hf : wS → aH} {bx : Nat} {o : wO} {y0 : Int32} {w : wS} {r : (Int32 ⊕ String) × wS} (hG : aGood G) (E : EX Hf bx o) (hL : J_X9_habits_111 o  y0 w = some r) : AG G M_X9_habits 111 [none, none, none, none, none] [.int (y0)] (Hf w) (xRv Hf r) := by
  unfold J_X9_habits_111 at hL
  obtain rfl := Option.some.inj hL
  exact g_iret rfl dX9_habits_111
def J_X9_habits_90 (o : wO) (kh43 : Int32 → Int32 → Int32 → Int32 → wS → Option ((Int32 ⊕ String) × wS)) (ke79 : Int32 → Int32 → wS → Option ((Int32 ⊕ String) × wS)) (ke96 : Int32 → Int32 → Int32 → wS → Option ((Int32 ⊕ String) × wS)) (x1 : Int32) (x2 : Int32) (x3 : Int32) (x4 : Int32) (w : wS) : Option ((Int32 ⊕ String) × wS) :=
  kh43 (x1) (x2) (x3) ((x4 + 1)) w
set_option maxRecDepth 20000 in
theorem J_X9_habits_90_ok {G : aG} {Hf : wS → aH} {bx : Nat} {o : wO} {kh43 : Int32 → Int32 → Int32 → Int32 → wS → Option ((Int32 ⊕ String) × wS)} {ke79 : Int32 → Int32 → wS → Option ((Int32 ⊕ String) × wS)} {ke96 : Int32 → Int32 → Int32 → wS → Option ((Int32 ⊕ String) × wS)} {x1 : Int32} {x2 : Int32} {x3 : Int32} {x4 : Int32} {w : wS} {r : (Int32 ⊕ String) × wS} (hG : aGood G) (E : EX Hf bx o) (hL : J_X9_habits_90 o kh43 ke79 ke96 x1 x2 x3 x4 w = some r) (Hkh43 : ∀ (z0 : Int32) (z1 : Int32) (z2 : Int32) (z3 : Int32) (w : wS), kh43 z0 z1 z2 z3 w = some r → AG G M_X9_habits 43 [some (.ref (bx + 0)), some (.int (z0)), some (.int (z1)), some (.int (z2)), some (.int (z3))] [] (Hf w) (xRv Hf r)) (Hke79 : ∀ (z0 : Int32) (z1 : Int32) (w : wS), ke79 z0 z1 w = some r → AG G M_X9_habits 79 [none, none, none, some (.int (z0)), some (.int (z1))] [] (Hf w) (xRv Hf r)) (Hke96 : ∀ (z0 : Int32) (z1 : Int32) (z2 : Int32) (w : wS), ke96 z0 z1 z2 w = some r → AG G M_X9_habits 96 [some (.ref (bx + 0)), some (.int (z0)), some (.int (z1)), some (.int (z2)), none] [] (Hf w) (xRv Hf r)) : AG G M_X9_habits 90 [some (.ref (bx + 0)), some (.int (x1)), some (.int (x2)), some (.int (x3)), some (.int (x4))] [] (Hf w) (xRv Hf r) := by
  unfold J_X9_habits_90 at hL
  refine g_iincV (v := (x4 + 1)) dX9_habits_90 rfl rfl (by decide) rfl ?_
  refine g_goto (tgt := 43) dX9_habits_93 (by decide) ?_
  exact Hkh43 _ _ _ _ _ hL
def B_X9_habits_43 (o : wO) (kh43 : Int32 → Int32 → Int32 → Int32 → wS → Option ((Int32 ⊕ String) × wS)) (ke79 : Int32 → Int32 → wS → Option ((Int32 ⊕ String) × wS)) (ke96 : Int32 → Int32 → Int32 → wS → Option ((Int32 ⊕ String) × wS)) (x1 : Int32) (x2 : Int32) (x3 : Int32) (x4 : Int32) (w : wS) : Option ((Int32 ⊕ String) × wS) :=
  if 60 < x4 then ke96 (x1) (x2) (x3) w else xIf (xRef w 9 (oT o + 0)) (xB (xAld w 1002 8 (x3)) fun v1 => if x4 = v1 then J_X9_habits_90 o kh43 ke79 ke96 (x1) (x2) (x3) (x4) w else xB2 (L_X9_isAsSeen o (x3) (x4) w) fun v2 w3 => if v2 = 0 then J_X9_habits_90 o kh43 ke79 ke96 (x1) (x2) (x3) (x4) w3 else if x1 = 1 then ke79 (x3) (x4) w3 else J_X9_habits_90 o kh43 ke79 ke96 (x1) ((x2 + 1)) (x3) (x4) w3)
set_option maxRecDepth 20000 in
theorem B_X9_habits_43_ok {G : aG} {Hf : wS → aH} {bx : Nat} {o : wO} {kh43 : Int32 → Int32 → Int32 → Int32 → wS → Option ((Int32 ⊕ String) × wS)} {ke79 : Int32 → Int32 → wS → Option ((Int32 ⊕ String) × wS)} {ke96 : Int32 → Int32 → Int32 → wS → Option ((Int32 ⊕ String) × wS)} {x1 : Int32} {x2 : Int32} {x3 : Int32} {x4 : Int32} {w : wS} {r : (Int32 ⊕ String) × wS} (hG : aGood G) (E : EX Hf bx o) (hL : B_X9_habits_43 o kh43 ke79 ke96 x1 x2 x3 x4 w = some r) (Hkh43 : ∀ (z0 : Int32) (z1 : Int32) (z2 : Int32) (z3 : Int32) (w : wS), kh43 z0 z1 z2 z3 w = some r → AG G M_X9_habits 43 [some (.ref (bx + 0)), some (.int (z0)), some (.int (z1)), some (.int (z2)), some (.int (z3))] [] (Hf w) (xRv Hf r)) (Hke79 : ∀ (z0 : Int32) (z1 : Int32) (w : wS), ke79 z0 z1 w = some r → AG G M_X9_habits 79 [none, none, none, some (.int (z0)), some (.int (z1))] [] (Hf w) (xRv Hf r)) (Hke96 : ∀ (z0 : Int32) (z1 : Int32) (z2 : Int32) (w : wS), ke96 z0 z1 z2 w = some r → AG G M_X9_habits 96 [some (.ref (bx + 0)), some (.int (z0)), some (.int (z1)), some (.int (z2)), none] [] (Hf w) (xRv Hf r)) : AG G M_X9_habits 43 [some (.ref (bx + 0)), some (.int (x1)), some (.int (x2)), some (.int (x3)), some (.int (x4))] [] (Hf w) (xRv Hf r) := by
  unfold B_X9_habits_43 at hL
  refine g_iload dX9_habits_43 rfl ?_
  refine g_bipush (v := 60) dX9_habits_45 (by decide) ?_
  refine g_icmp_gt (tgt := 96) dX9_habits_47 (by decide) (fun q7 => ?_) (fun q7 => ?_)
  · rw [if_pos q7] at hL
    refine g_none 4 ?_
    exact Hke96 _ _ _ _ hL
  · rw [if_neg q7] at hL
    refine g_iload dX9_habits_50 rfl ?_
    refine g_aload_n dX9_habits_52 rfl rfl ?_
    refine s_getT (k := 0) (j := 9) E.1 hL rfl rfl f_X9_55 dX9_habits_53 ?_
    intro hL
    refine s_getR (k := 0) (j := 1) E.2.1 rfl rfl f_X9_150 dX9_habits_56 ?_
    refine g_iload_n dX9_habits_59 rfl rfl ?_
    refine s_iald (k := 2) E.2.1 hL rfl dX9_habits_60 ?_
    intro v1 hL
    refine g_icmp_eq (tgt := 90) dX9_habits_61 (by decide) (fun q6 => ?_) (fun q6 => ?_)
    · rw [if_pos q6] at hL
      exact J_X9_habits_90_ok hG E hL Hkh43 Hke79 Hke96
    · rw [if_neg q6] at hL
      refine g_aload_n dX9_habits_64 rfl rfl ?_
      refine g_iload_n dX9_habits_65 rfl rfl ?_
      refine g_iload dX9_habits_66 rfl ?_
      obtain ⟨v2, w3, hc, hL⟩ := xB2_some hL
      refine g_callV (M' := M_X9_isAsSeen) (as := [.int (x3), .int (x4)]) (v := some (.int (v2))) l_X9_292 kV_X9_isAsSeen (by decide) (C_X9_isAsSeen hG E hc) rfl (by have := E.1.1; omega) (E.1.2.1 _ 0 _ rfl) ⟨_, _, rfl⟩ (Nat.le_of_ble_eq_true rfl) dX9_habits_68 ?_
      refine g_if_eq (tgt := 90) dX9_habits_71 (by decide) (fun q5 => ?_) (fun q5 => ?_)
      · rw [if_pos q5] at hL
        exact J_X9_habits_90_ok hG E hL Hkh43 Hke79 Hke96
      · rw [if_neg q5] at hL
        refine g_iload_n dX9_habits_74 rfl rfl ?_
        refine g_iconst (v := 1) dX9_habits_75 (by decide) ?_
        refine g_icmp_ne (tgt := 87) dX9_habits_76 (by decide) (fun q4 => ?_) (fun q4 => ?_)
        · rw [if_neg q4] at hL
          refine g_iincV (v := (x2 + 1)) dX9_habits_87 rfl rfl (by decide) rfl ?_
          exact J_X9_habits_90_ok hG E hL Hkh43 Hke79 Hke96
        · rw [if_pos q4] at hL
          refine g_none 0 ?_
          refine g_none 1 ?_
          refine g_none 2 ?_
          exact Hke79 _ _ _ hL
def P_X9_habits_43 (o : wO) (ke79 : Int32 → Int32 → wS → Option ((Int32 ⊕ String) × wS)) (ke96 : Int32 → Int32 → Int32 → wS → Option ((Int32 ⊕ String) × wS)) (n : Nat) (x1 : Int32) (x2 : Int32) (x3 : Int32) (x4 : Int32) (w : wS) : Option ((Int32 ⊕ String) × wS) :=
  xLoop (fun (kk : Int32 × Int32 × Int32 × Int32 × wS → Option ((Int32 ⊕ String) × wS)) σ => B_X9_habits_43 o (fun x1 x2 x3 x4 w => kk (x1, x2, x3, x4, w)) ke79 ke96 (σ.1) (σ.2.1) (σ.2.2.1) (σ.2.2.2.1) (σ.2.2.2.2)) n (x1, x2, x3, x4, w)
theorem P_X9_habits_43_ok {G : aG} {Hf : wS → aH} {bx : Nat} {o : wO} {ke79 : Int32 → Int32 → wS → Option ((Int32 ⊕ String) × wS)} {ke96 : Int32 → Int32 → Int32 → wS → Option ((Int32 ⊕ String) × wS)} {n : Nat} {x1 : Int32} {x2 : Int32} {x3 : Int32} {x4 : Int32} {w : wS} {r : (Int32 ⊕ String) × wS} (hG : aGood G) (E : EX Hf bx o) (hL : P_X9_habits_43 o ke79 ke96 n x1 x2 x3 x4 w = some r) (Hke79 : ∀ (z0 : Int32) (z1 : Int32) (w : wS), ke79 z0 z1 w = some r → AG G M_X9_habits 79 [none, none, none, some (.int (z0)), some (.int (z1))] [] (Hf w) (xRv Hf r)) (Hke96 : ∀ (z0 : Int32) (z1 : Int32) (z2 : Int32) (w : wS), ke96 z0 z1 z2 w = some r → AG G M_X9_habits 96 [some (.ref (bx + 0)), some (.int (z0)), some (.int (z1)), some (.int (z2)), none] [] (Hf w) (xRv Hf r)) : AG G M_X9_habits 43 [some (.ref (bx + 0)), some (.int (x1)), some (.int (x2)), some (.int (x3)), some (.int (x4))] [] (Hf w) (xRv Hf r) :=
  xLoop_ok (Q := fun (σ : Int32 × Int32 × Int32 × Int32 × wS) => AG G M_X9_habits 43 [some (.ref (bx + 0)), some (.int (σ.1)), some (.int (σ.2.1)), some (.int (σ.2.2.1)), some (.int (σ.2.2.2.1))] [] (Hf σ.2.2.2.2) (xRv Hf r)) (fun kk hk σ hσ => B_X9_habits_43_ok hG E hσ (fun x1 x2 x3 x4 w h9 => hk (x1, x2, x3, x4, w) h9) Hke79 Hke96) n (x1, x2, x3, x4, w) hL
def B_X9_habits_29 (o : wO) (kh29 : Int32 → Int32 → Int32 → wS → Option ((Int32 ⊕ String) × wS)) (ke79 : Int32 → Int32 → wS → Option ((Int32 ⊕ String) × wS)) (ke102 : Int32 → Int32 → wS → Option ((Int32 ⊕ String) × wS)) (x1 : Int32) (x2 : Int32) (x3 : Int32) (w : wS) : Option ((Int32 ⊕ String) × wS) :=
  xIf (xRef w 9 (oT o + 0)) (xB (xGet w 100006) fun v8 => if v8 ≤ x3 then ke102 (x1) (x2) w else P_X9_habits_43 o (fun z9 z10 w11 => ke79 (z9) (z10) w11) (fun z12 z13 z14 w15 => kh29 (z12) (z13) ((z14 + 1)) w15) 5000 (x1) (x2) (x3) (0) w)
set_option maxRecDepth 20000 in
theorem B_X9_habits_29_ok {G : aG} {Hf : wS → aH} {bx : Nat} {o : wO} {kh29 : Int32 → Int32 → Int32 → wS → Option ((Int32 ⊕ String) × wS)} {ke79 : Int32 → Int32 → wS → Option ((Int32 ⊕ String) × wS)} {ke102 : Int32 → Int32 → wS → Option ((Int32 ⊕ String) × wS)} {x1 : Int32} {x2 : Int32} {x3 : Int32} {w : wS} {r : (Int32 ⊕ String) × wS} (hG : aGood G) (E : EX Hf bx o) (hL : B_X9_habits_29 o kh29 ke79 ke102 x1 x2 x3 w = some r) (Hkh29 : ∀ (z0 : Int32) (z1 : Int32) (z2 : Int32) (w : wS), kh29 z0 z1 z2 w = some r → AG G M_X9_habits 29 [some (.ref (bx + 0)), some (.int (z0)), some (.int (z1)), some (.int (z2)), none] [] (Hf w) (xRv Hf r)) (Hke79 : ∀ (z0 : Int32) (z1 : Int32) (w : wS), ke79 z0 z1 w = some r → AG G M_X9_habits 79 [none, none, none, some (.int (z0)), some (.int (z1))] [] (Hf w) (xRv Hf r)) (Hke102 : ∀ (z0 : Int32) (z1 : Int32) (w : wS), ke102 z0 z1 w = some r → AG G M_X9_habits 102 [none, some (.int (z0)), some (.int (z1)), none, none] [] (Hf w) (xRv Hf r)) : AG G M_X9_habits 29 [some (.ref (bx + 0)), some (.int (x1)), some (.int (x2)), some (.int (x3)), none] [] (Hf w) (xRv Hf r) := by
  unfold B_X9_habits_29 at hL
  refine g_iload_n dX9_habits_29 rfl rfl ?_
  refine g_aload_n dX9_habits_30 rfl rfl ?_
  refine s_getT (k := 0) (j := 9) E.1 hL rfl rfl f_X9_55 dX9_habits_31 ?_
  intro hL
  refine s_getI (k := 0) (j := 6) E.2.1 hL rfl rfl f_X9_99 dX9_habits_34 ?_
  intro v8 hL
  refine g_icmp_ge (tgt := 102) dX9_habits_37 (by decide) (fun q16 => ?_) (fun q16 => ?_)
  · rw [if_pos q16] at hL
    refine g_none 0 ?_
    refine g_none 3 ?_
    exact Hke102 _ _ _ hL
  · rw [if_neg q16] at hL
    refine g_iconst (v := 0) dX9_habits_40 (by decide) ?_
    refine g_istore (i := 4) dX9_habits_41 (by decide) rfl ?_
    refine P_X9_habits_43_ok hG E hL ?_ ?_
    · intro z9 z10 w11 hL
      exact Hke79 _ _ _ hL
    · intro z12 z13 z14 w15 hL
      refine g_iincV (v := (z14 + 1)) dX9_habits_96 rfl rfl (by decide) rfl ?_
      refine g_goto (tgt := 29) dX9_habits_99 (by decide) ?_
      exact Hkh29 _ _ _ _ hL
def P_X9_habits_29 (o : wO) (ke79 : Int32 → Int32 → wS → Option ((Int32 ⊕ String) × wS)) (ke102 : Int32 → Int32 → wS → Option ((Int32 ⊕ String) × wS)) (n : Nat) (x1 : Int32) (x2 : Int32) (x3 : Int32) (w : wS) : Option ((Int32 ⊕ String) × wS) :=
  xLoop (fun (kk : Int32 × Int32 × Int32 × wS → Option ((Int32 ⊕ String) × wS)) σ => B_X9_habits_29 o (fun x1 x2 x3 w => kk (x1, x2, x3, w)) ke79 ke102 (σ.1) (σ.2.1) (σ.2.2.1) (σ.2.2.2)) n (x1, x2, x3, w)
theorem P_X9_habits_29_ok {G : aG} {Hf : wS → aH} {bx : Nat} {o : wO} {ke79 : Int32 → Int32 → wS → Option ((Int32 ⊕ String) × wS)} {ke102 : Int32 → Int32 → wS → Option ((Int32 ⊕ String) × wS)} {n : Nat} {x1 : Int32} {x2 : Int32} {x3 : Int32} {w : wS} {r : (Int32 ⊕ String) × wS} (hG : aGood G) (E : EX Hf bx o) (hL : P_X9_habits_29 o ke79 ke102 n x1 x2 x3 w = some r) (Hke79 : ∀ (z0 : Int32) (z1 : Int32) (w : wS), ke79 z0 z1 w = some r → AG G M_X9_habits 79 [none, none, none, some (.int (z0)), some (.int (z1))] [] (Hf w) (xRv Hf r)) (Hke102 : ∀ (z0 : Int32) (z1 : Int32) (w : wS), ke102 z0 z1 w = some r → AG G M_X9_habits 102 [none, some (.int (z0)), some (.int (z1)), none, none] [] (Hf w) (xRv Hf r)) : AG G M_X9_habits 29 [some (.ref (bx + 0)), some (.int (x1)), some (.int (x2)), some (.int (x3)), none] [] (Hf w) (xRv Hf r) :=
  xLoop_ok (Q := fun (σ : Int32 × Int32 × Int32 × wS) => AG G M_X9_habits 29 [some (.ref (bx + 0)), some (.int (σ.1)), some (.int (σ.2.1)), some (.int (σ.2.2.1)), none] [] (Hf σ.2.2.2) (xRv Hf r)) (fun kk hk σ hσ => B_X9_habits_29_ok hG E hσ (fun x1 x2 x3 w h9 => hk (x1, x2, x3, w) h9) Hke79 Hke102) n (x1, x2, x3, w) hL
def J_X9_habits_24 (o : wO) (y0 : Int32) (w : wS) : Option ((Int32 ⊕ String) × wS) :=
  some (.inl (y0), w)
set_option maxRecDepth 20000 in
theorem J_X9_habits_24_ok {G : aG} {Hf : wS → aH} {bx : Nat} {o : wO} {y0 : Int32} {w : wS} {r : (Int32 ⊕ String) × wS} (hG : aGood G) (E : EX Hf bx o) (hL : J_X9_habits_24 o  y0 w = some r) : AG G M_X9_habits 24 [none, none, none, none, none] [.int (y0)] (Hf w) (xRv Hf r) := by
  unfold J_X9_habits_24 at hL
  obtain rfl := Option.some.inj hL
  exact g_iret rfl dX9_habits_24
def L_X9_habits (o : wO) (a1 : Int32) (w : wS) : Option ((Int32 ⊕ String) × wS) :=
  xBT (L_X9_needWhat (a1) (2)) (fun E9 => some (.inr E9, w)) (if a1 = 2 then xB2 (L_X9_isAsSeen o ((-1)) (0) w) fun v24 w25 => if v24 = 0 then J_X9_habits_24 o  (0) w25 else J_X9_habits_24 o  (1) w25 else P_X9_habits_29 o (fun z17 z18 w19 => some (.inl ((((100 : Int32) * z17) + z18)), w19)) (fun z20 z21 w22 => if z20 = 0 then J_X9_habits_111 o  (z21) w22 else J_X9_habits_111 o  ((-1)) w22) 5000 (a1) (0) (0) w)
set_option maxRecDepth 20000 in
theorem C_X9_habits {G : aG} {Hf : wS → aH} {bx : Nat} {o : wO} {a1 : Int32} {w : wS} {r : (Int32 ⊕ String) × wS} (hG : aGood G) (E : EX Hf bx o) (hL : L_X9_habits o a1 w = some r) : AC G M_X9_habits [.ref (bx + 0), .int a1] (Hf w) (xRv Hf r) := by
  unfold L_X9_habits at hL
  refine AC.of (by decide) rfl (Nat.le_of_ble_eq_true rfl) ?_
  show AG G M_X9_habits 0 [some (.ref (bx + 0)), some (.int (a1)), none, none, none] [] _ _
  refine g_iload_n dX9_habits_0 rfl rfl ?_
  refine g_iconst (v := 2) dX9_habits_1 (by decide) ?_
  rcases xBT_some hL with ⟨hc, hL⟩ | ⟨E9, hc, hL⟩
  · refine g_callS (M' := M_X9_needWhat) (as := [.int (a1), .int (2)]) (v := none) l_X9_221 kS_X9_needWhat (by decide) (C_X9_needWhat hG hc) rfl (Nat.le_of_ble_eq_true rfl) dX9_habits_2 ?_
    refine g_iload_n dX9_habits_5 rfl rfl ?_
    refine g_iconst (v := 2) dX9_habits_6 (by decide) ?_
    refine g_icmp_ne (tgt := 25) dX9_habits_7 (by decide) (fun q27 => ?_) (fun q27 => ?_)
    · rw [if_neg q27] at hL
      refine g_iconst (v := 0) dX9_habits_25 (by decide) ?_
      refine g_istore_n (i := 2) dX9_habits_26 rfl (by decide) rfl ?_
      refine g_iconst (v := 0) dX9_habits_27 (by decide) ?_
      refine g_istore_n (i := 3) dX9_habits_28 rfl (by decide) rfl ?_
      refine P_X9_habits_29_ok hG E hL ?_ ?_
      · intro z17 z18 w19 hL
        refine g_bipush (v := 100) dX9_habits_79 (by decide) ?_
        refine g_iload_n dX9_habits_81 rfl rfl ?_
        refine g_none 3 ?_
        refine g_imul dX9_habits_82 ?_
        refine g_iload dX9_habits_83 rfl ?_
        refine g_none 4 ?_
        refine g_iadd dX9_habits_85 ?_
        obtain rfl := Option.some.inj hL
        exact g_iret rfl dX9_habits_86
      · intro z20 z21 w22 hL
        refine g_iload_n dX9_habits_102 rfl rfl ?_
        refine g_none 1 ?_
        refine g_if_ne (tgt := 110) dX9_habits_103 (by decide) (fun q23 => ?_) (fun q23 => ?_)
        · rw [if_neg q23] at hL
          refine g_none 2 ?_
          refine g_iconst (v := (-1)) dX9_habits_110 (by decide) ?_
          exact J_X9_habits_111_ok hG E hL 
        · rw [if_pos q23] at hL
          refine g_iload_n dX9_habits_106 rfl rfl ?_
          refine g_none 2 ?_
          refine g_goto (tgt := 111) dX9_habits_107 (by decide) ?_
          exact J_X9_habits_111_ok hG E hL 
    · rw [if_pos q27] at hL
      refine g_none 1 ?_
      refine g_aload_n dX9_habits_10 rfl rfl ?_
      refine g_none 0 ?_
      refine g_iconst (v := (-1)) dX9_habits_11 (by decide) ?_
      refine g_iconst (v := 0) dX9_habits_12 (by decide) ?_
      obtain ⟨v24, w25, hc, hL⟩ := xB2_some hL
      refine g_callV (M' := M_X9_isAsSeen) (as := [.int ((-1)), .int (0)]) (v := some (.int (v24))) l_X9_292 kV_X9_isAsSeen (by decide) (C_X9_isAsSeen hG E hc) rfl (by have := E.1.1; omega) (E.1.2.1 _ 0 _ rfl) ⟨_, _, rfl⟩ (Nat.le_of_ble_eq_true rfl) dX9_habits_13 ?_
      refine g_if_eq (tgt := 23) dX9_habits_16 (by decide) (fun q26 => ?_) (fun q26 => ?_)
      · rw [if_pos q26] at hL
        refine g_iconst (v := 0) dX9_habits_23 (by decide) ?_
        exact J_X9_habits_24_ok hG E hL 
      · rw [if_neg q26] at hL
        refine g_iconst (v := 1) dX9_habits_19 (by decide) ?_
        refine g_goto (tgt := 24) dX9_habits_20 (by decide) ?_
        exact J_X9_habits_24_ok hG E hL 
  · obtain rfl := Option.some.inj hL
    exact g_callSX (M' := M_X9_needWhat) (as := [.int (a1), .int (2)]) (E := E9) (aIn1 1033 (by decide +kernel) rfl) kS_X9_needWhat (by decide) rfl (C_X9_needWhat hG hc) rfl (Nat.le_of_ble_eq_true rfl) dX9_habits_2
def L_J13_bitCount_95d88 (a1 : Int64) : Option (Int32) :=
  xB (some ((a1 - ((((a1 : Int64).toUInt64 >>> ((1 : Int32).toInt64.toUInt64 &&& Int64.toUInt64 63)).toInt64) &&& 6148914691236517205)))) fun v1 => xB (some (((v1 &&& 3689348814741910323) + ((((v1 : Int64).toUInt64 >>> ((2 : Int32).toInt64.toUInt64 &&& Int64.toUInt64 63)).toInt64) &&& 3689348814741910323)))) fun v2 => xB (some (((v2 + (((v2 : Int64).toUInt64 >>> ((4 : Int32).toInt64.toUInt64 &&& Int64.toUInt64 63)).toInt64)) &&& 1085102592571150095))) fun v3 => xB (some ((v3 + (((v3 : Int64).toUInt64 >>> ((8 : Int32).toInt64.toUInt64 &&& Int64.toUInt64 63)).toInt64)))) fun v4 => xB (some ((v4 + (((v4 : Int64).toUInt64 >>> ((16 : Int32).toInt64.toUInt64 &&& Int64.toUInt64 63)).toInt64)))) fun v5 => xB (some ((v5 + (((v5 : Int64).toUInt64 >>> ((32 : Int32).toInt64.toUInt64 &&& Int64.toUInt64 63)).toInt64)))) fun v6 => some (((v6 : Int64).toInt32 &&& (127 : Int32)))
set_option maxRecDepth 20000 in
theorem C_J13_bitCount_95d88 {G : aG} {h : aH} {a1 : Int64} {r : Int32} (hL : L_J13_bitCount_95d88 a1 = some r) : AC G M_J13_bitCount_95d88 [.long a1] h (.inl (some (.int r)), h) := by
  unfold L_J13_bitCount_95d88 at hL
  refine AC.of (by decide) rfl (Nat.le_of_ble_eq_true rfl) ?_
  show AG G M_J13_bitCount_95d88 0 [some (.long (a1)), none] [] _ _
  refine g_lload_n dJ13_bitCount_95d88_0 rfl rfl ?_
  refine g_lload_n dJ13_bitCount_95d88_1 rfl rfl ?_
  refine g_none 0 ?_
  refine g_iconst (v := 1) dJ13_bitCount_95d88_2 (by decide) ?_
  refine g_lushr dJ13_bitCount_95d88_3 ?_
  refine g_ldc2 (v := 6148914691236517205) dJ13_bitCount_95d88_4 n_J13_314 ?_
  refine g_land dJ13_bitCount_95d88_7 ?_
  refine g_lsub dJ13_bitCount_95d88_8 ?_
  obtain ⟨v1, hv, hL⟩ := xB_some hL
  rw [Option.some.inj hv]
  refine g_lstore_n (i := 0) dJ13_bitCount_95d88_9 rfl (by decide) rfl ?_
  refine g_lload_n dJ13_bitCount_95d88_10 rfl rfl ?_
  refine g_ldc2 (v := 3689348814741910323) dJ13_bitCount_95d88_11 n_J13_316 ?_
  refine g_land dJ13_bitCount_95d88_14 ?_
  refine g_lload_n dJ13_bitCount_95d88_15 rfl rfl ?_
  refine g_none 0 ?_
  refine g_iconst (v := 2) dJ13_bitCount_95d88_16 (by decide) ?_
  refine g_lushr dJ13_bitCount_95d88_17 ?_
  refine g_ldc2 (v := 3689348814741910323) dJ13_bitCount_95d88_18 n_J13_316 ?_
  refine g_land dJ13_bitCount_95d88_21 ?_
  refine g_ladd dJ13_bitCount_95d88_22 ?_
  obtain ⟨v2, hv, hL⟩ := xB_some hL
  rw [Option.some.inj hv]
  refine g_lstore_n (i := 0) dJ13_bitCount_95d88_23 rfl (by decide) rfl ?_
  refine g_lload_n dJ13_bitCount_95d88_24 rfl rfl ?_
  refine g_lload_n dJ13_bitCount_95d88_25 rfl rfl ?_
  refine g_none 0 ?_
  refine g_iconst (v := 4) dJ13_bitCount_95d88_26 (by decide) ?_
  refine g_lushr dJ13_bitCount_95d88_27 ?_
  refine g_ladd dJ13_bitCount_95d88_28 ?_
  refine g_ldc2 (v := 1085102592571150095) dJ13_bitCount_95d88_29 n_J13_318 ?_
  refine g_land dJ13_bitCount_95d88_32 ?_
  obtain ⟨v3, hv, hL⟩ := xB_some hL
  rw [Option.some.inj hv]
  refine g_lstore_n (i := 0) dJ13_bitCount_95d88_33 rfl (by decide) rfl ?_
  refine g_lload_n dJ13_bitCount_95d88_34 rfl rfl ?_
  refine g_lload_n dJ13_bitCount_95d88_35 rfl rfl ?_
  refine g_none 0 ?_
  refine g_bipush (v := 8) dJ13_bitCount_95d88_36 (by decide) ?_
  refine g_lushr dJ13_bitCount_95d88_38 ?_
  refine g_ladd dJ13_bitCount_95d88_39 ?_
  obtain ⟨v4, hv, hL⟩ := xB_some hL
  rw [Option.some.inj hv]
  refine g_lstore_n (i := 0) dJ13_bitCount_95d88_40 rfl (by decide) rfl ?_
  refine g_lload_n dJ13_bitCount_95d88_41 rfl rfl ?_
  refine g_lload_n dJ13_bitCount_95d88_42 rfl rfl ?_
  refine g_none 0 ?_
  refine g_bipush (v := 16) dJ13_bitCount_95d88_43 (by decide) ?_
  refine g_lushr dJ13_bitCount_95d88_45 ?_
  refine g_ladd dJ13_bitCount_95d88_46 ?_
  obtain ⟨v5, hv, hL⟩ := xB_some hL
  rw [Option.some.inj hv]
  refine g_lstore_n (i := 0) dJ13_bitCount_95d88_47 rfl (by decide) rfl ?_
  refine g_lload_n dJ13_bitCount_95d88_48 rfl rfl ?_
  refine g_lload_n dJ13_bitCount_95d88_49 rfl rfl ?_
  refine g_none 0 ?_
  refine g_bipush (v := 32) dJ13_bitCount_95d88_50 (by decide) ?_
  refine g_lushr dJ13_bitCount_95d88_52 ?_
  refine g_ladd dJ13_bitCount_95d88_53 ?_
  obtain ⟨v6, hv, hL⟩ := xB_some hL
  rw [Option.some.inj hv]
  refine g_lstore_n (i := 0) dJ13_bitCount_95d88_54 rfl (by decide) rfl ?_
  refine g_lload_n dJ13_bitCount_95d88_55 rfl rfl ?_
  refine g_none 0 ?_
  refine g_l2i dJ13_bitCount_95d88_56 ?_
  refine g_bipush (v := 127) dJ13_bitCount_95d88_57 (by decide) ?_
  refine g_iand dJ13_bitCount_95d88_59 ?_
  obtain rfl := Option.some.inj hL
  exact g_iret rfl dJ13_bitCount_95d88_60
def B_X9_hearSecondDay_23 (o : wO) (kh23 : Int32 → wS → Option (wS)) (ke77 : wS → Option (wS)) (x4 : Int32) (w : wS) : Option (wS) :=
  xIf (xRef w 9 (oT o + 0)) (xB (xGet w 100007) fun v1 => if v1 ≤ x4 then ke77  w else xB (xAld w 38 6 (x4)) fun v2 => xB (xAldJ w 52 12 ((((2 : Int32) * x4) + ((v2 >>> ((6 : Int32) &&& 31)) &&& (1 : Int32))))) fun v3 => xB (xAstJ w 52 12 ((((2 : Int32) * x4) + ((v2 >>> ((6 : Int32) &&& 31)) &&& (1 : Int32)))) ((v3 ||| (1 <<< (((v2 &&& (63 : Int32)) : Int32).toInt64 &&& 63))))) fun w4 => kh23 ((x4 + 1)) w4)
set_option maxRecDepth 20000 in
theorem B_X9_hearSecondDay_23_ok {G : aG} {Hf : wS → aH} {bx : Nat} {o : wO} {kh23 : Int32 → wS → Option (wS)} {ke77 : wS → Option (wS)} {x4 : Int32} {w : wS} {r : wS} (hG : aGood G) (E : EX Hf bx o) (hL : B_X9_hearSecondDay_23 o kh23 ke77 x4 w = some r) (Hkh23 : ∀ (z0 : Int32) (w : wS), kh23 z0 w = some r → AG G M_X9_hearSecondDay 23 [some (.ref (bx + 0)), none, none, some (.ref (bx + 30)), some (.int (z0)), none] [] (Hf w) (.inl none, Hf r)) (Hke77 : ∀ (w : wS), ke77  w = some r → AG G M_X9_hearSecondDay 77 [none, none, none, none, none, none] [] (Hf w) (.inl none, Hf r)) : AG G M_X9_hearSecondDay 23 [some (.ref (bx + 0)), none, none, some (.ref (bx + 30)), some (.int (x4)), none] [] (Hf w) (.inl none, Hf r) := by
  unfold B_X9_hearSecondDay_23 at hL
  refine g_iload dX9_hearSecondDay_23 rfl ?_
  refine g_aload_n dX9_hearSecondDay_25 rfl rfl ?_
  refine s_getT (k := 0) (j := 9) E.1 hL rfl rfl f_X9_55 dX9_hearSecondDay_26 ?_
  intro hL
  refine s_getI (k := 0) (j := 7) E.2.1 hL rfl rfl f_X9_102 dX9_hearSecondDay_29 ?_
  intro v1 hL
  refine g_icmp_ge (tgt := 77) dX9_hearSecondDay_32 (by decide) (fun q5 => ?_) (fun q5 => ?_)
  · rw [if_pos q5] at hL
    refine g_none 0 ?_
    refine g_none 3 ?_
    refine g_none 4 ?_
    exact Hke77  _ hL
  · rw [if_neg q5] at hL
    refine g_aload_n dX9_hearSecondDay_35 rfl rfl ?_
    refine s_getR (k := 30) (j := 6) E.1 rfl rfl f_X9_228 dX9_hearSecondDay_36 ?_
    refine g_iload dX9_hearSecondDay_39 rfl ?_
    refine s_iald (k := 38) E.1 hL rfl dX9_hearSecondDay_41 ?_
    intro v2 hL
    refine g_istore (i := 5) dX9_hearSecondDay_42 (by decide) rfl ?_
    refine g_aload_n dX9_hearSecondDay_44 rfl rfl ?_
    refine s_getR (k := 0) (j := 8) E.1 rfl rfl f_X9_48 dX9_hearSecondDay_45 ?_
    refine g_iconst (v := 2) dX9_hearSecondDay_48 (by decide) ?_
    refine g_iload dX9_hearSecondDay_49 rfl ?_
    refine g_imul dX9_hearSecondDay_51 ?_
    refine g_iload dX9_hearSecondDay_52 rfl ?_
    refine g_bipush (v := 6) dX9_hearSecondDay_54 (by decide) ?_
    refine g_ishr dX9_hearSecondDay_56 ?_
    refine g_iconst (v := 1) dX9_hearSecondDay_57 (by decide) ?_
    refine g_iand dX9_hearSecondDay_58 ?_
    refine g_iadd dX9_hearSecondDay_59 ?_
    refine g_dup2 dX9_hearSecondDay_60 rfl rfl ?_
    refine s_lald (k := 52) E.1 hL rfl dX9_hearSecondDay_61 ?_
    intro v3 hL
    refine g_lconst (v := 1) dX9_hearSecondDay_62 (by decide) ?_
    refine g_iload dX9_hearSecondDay_63 rfl ?_
    refine g_none 5 ?_
    refine g_bipush (v := 63) dX9_hearSecondDay_65 (by decide) ?_
    refine g_iand dX9_hearSecondDay_67 ?_
    refine g_lshl dX9_hearSecondDay_68 ?_
    refine g_lor dX9_hearSecondDay_69 ?_
    refine s_last (k := 52) E.1 hL rfl dX9_hearSecondDay_70 ?_
    intro w4 hL
    refine g_iincV (v := (x4 + 1)) dX9_hearSecondDay_71 rfl rfl (by decide) rfl ?_
    refine g_goto (tgt := 23) dX9_hearSecondDay_74 (by decide) ?_
    exact Hkh23 _ _ hL
def P_X9_hearSecondDay_23 (o : wO) (ke77 : wS → Option (wS)) (n : Nat) (x4 : Int32) (w : wS) : Option (wS) :=
  xLoop (fun (kk : Int32 × wS → Option (wS)) σ => B_X9_hearSecondDay_23 o (fun x4 w => kk (x4, w)) ke77 (σ.1) (σ.2)) n (x4, w)
theorem P_X9_hearSecondDay_23_ok {G : aG} {Hf : wS → aH} {bx : Nat} {o : wO} {ke77 : wS → Option (wS)} {n : Nat} {x4 : Int32} {w : wS} {r : wS} (hG : aGood G) (E : EX Hf bx o) (hL : P_X9_hearSecondDay_23 o ke77 n x4 w = some r) (Hke77 : ∀ (w : wS), ke77  w = some r → AG G M_X9_hearSecondDay 77 [none, none, none, none, none, none] [] (Hf w) (.inl none, Hf r)) : AG G M_X9_hearSecondDay 23 [some (.ref (bx + 0)), none, none, some (.ref (bx + 30)), some (.int (x4)), none] [] (Hf w) (.inl none, Hf r) :=
  xLoop_ok (Q := fun (σ : Int32 × wS) => AG G M_X9_hearSecondDay 23 [some (.ref (bx + 0)), none, none, some (.ref (bx + 30)), some (.int (σ.1)), none] [] (Hf σ.2) (.inl none, Hf r)) (fun kk hk σ hσ => B_X9_hearSecondDay_23_ok hG E hσ (fun x4 w h9 => hk (x4, w) h9) Hke77) n (x4, w) hL
def L_X9_hearSecondDay (o : wO) (a1 : Int32) (a2 : Int32) (w : wS) : Option (wS) :=
  xB (L_X9_fromNow o  w) fun w6 => xB (xAst w6 33 8 (a1) (a2)) fun w7 => xB (L_X1_oneDay o  w7) fun w8 => xB (L_X1_oneDay o  w8) fun w9 => P_X9_hearSecondDay_23 o (fun w10 => some w10) 5000 (0) w9
set_option maxRecDepth 20000 in
theorem C_X9_hearSecondDay {G : aG} {Hf : wS → aH} {bx : Nat} {o : wO} {a1 : Int32} {a2 : Int32} {w : wS} {r : wS} (hG : aGood G) (E : EX Hf bx o) (hL : L_X9_hearSecondDay o a1 a2 w = some r) : AC G M_X9_hearSecondDay [.ref (bx + 0), .int a1, .int a2] (Hf w) (.inl none, Hf r) := by
  unfold L_X9_hearSecondDay at hL
  refine AC.of (by decide) rfl (Nat.le_of_ble_eq_true rfl) ?_
  show AG G M_X9_hearSecondDay 0 [some (.ref (bx + 0)), some (.int (a1)), some (.int (a2)), none, none, none] [] _ _
  refine g_aload_n dX9_hearSecondDay_0 rfl rfl ?_
  obtain ⟨w6, hc, hL⟩ := xB_some hL
  refine g_callV (M' := M_X9_fromNow) (as := []) (v := some (.ref (bx + 30))) l_X9_193 kV_X9_fromNow (by decide) (C_X9_fromNow hG E hc) rfl (by have := E.1.1; omega) (E.1.2.1 _ 0 _ rfl) ⟨_, _, rfl⟩ (Nat.le_of_ble_eq_true rfl) dX9_hearSecondDay_1 ?_
  refine g_astore_n (i := 3) dX9_hearSecondDay_4 rfl (by decide) rfl ?_
  refine g_aload_n dX9_hearSecondDay_5 rfl rfl ?_
  refine s_getR (k := 30) (j := 1) E.1 rfl rfl f_X9_382 dX9_hearSecondDay_6 ?_
  refine g_iload_n dX9_hearSecondDay_9 rfl rfl ?_
  refine g_none 1 ?_
  refine g_iload_n dX9_hearSecondDay_10 rfl rfl ?_
  refine g_none 2 ?_
  refine s_iast (k := 33) E.1 hL rfl dX9_hearSecondDay_11 ?_
  intro w7 hL
  refine g_aload_n dX9_hearSecondDay_12 rfl rfl ?_
  obtain ⟨w8, hc, hL⟩ := xB_some hL
  refine g_callV (M' := M_X1_oneDay) (as := []) (v := none) l_X9_234 kV_X1_oneDay (by decide) (C_X1_oneDay hG E hc) rfl (by have := E.1.1; omega) (E.1.2.1 _ 30 _ rfl) ⟨_, _, rfl⟩ (Nat.le_of_ble_eq_true rfl) dX9_hearSecondDay_13 ?_
  refine g_aload_n dX9_hearSecondDay_16 rfl rfl ?_
  obtain ⟨w9, hc, hL⟩ := xB_some hL
  refine g_callV (M' := M_X1_oneDay) (as := []) (v := none) l_X9_234 kV_X1_oneDay (by decide) (C_X1_oneDay hG E hc) rfl (by have := E.1.1; omega) (E.1.2.1 _ 30 _ rfl) ⟨_, _, rfl⟩ (Nat.le_of_ble_eq_true rfl) dX9_hearSecondDay_17 ?_
  refine g_iconst (v := 0) dX9_hearSecondDay_20 (by decide) ?_
  refine g_istore (i := 4) dX9_hearSecondDay_21 (by decide) rfl ?_
  refine P_X9_hearSecondDay_23_ok hG E hL ?_
  · intro w10 hL
    obtain rfl := Option.some.inj hL
    exact g_vret rfl dX9_hearSecondDay_77
def B_J7_fill_d0a16_x52_6 (o : wO) (kh6 : Int64 → Int32 → Int32 → wS → Option (wS)) (ke22 : wS → Option (wS)) (x1 : Int64) (x3 : Int32) (x4 : Int32) (w : wS) : Option (wS) :=
  if x4 ≤ x3 then ke22  w else xB (xAstJ w 52 12 (x3) (x1)) fun w1 => kh6 (x1) ((x3 + 1)) (x4) w1
set_option maxRecDepth 20000 in
theorem B_J7_fill_d0a16_x52_6_ok {G : aG} {Hf : wS → aH} {bx : Nat} {o : wO} {kh6 : Int64 → Int32 → Int32 → wS → Option (wS)} {ke22 : wS → Option (wS)} {x1 : Int64} {x3 : Int32} {x4 : Int32} {w : wS} {r : wS} (hG : aGood G) (E : EX Hf bx o) (hL : B_J7_fill_d0a16_x52_6 o kh6 ke22 x1 x3 x4 w = some r) (Hkh6 : ∀ (z0 : Int64) (z1 : Int32) (z2 : Int32) (w : wS), kh6 z0 z1 z2 w = some r → AG G M_J7_fill_d0a16 6 [some (.ref (bx + 52)), some (.long (z0)), none, some (.int (z1)), some (.int (z2))] [] (Hf w) (.inl none, Hf r)) (Hke22 : ∀ (w : wS), ke22  w = some r → AG G M_J7_fill_d0a16 22 [none, none, none, none, none] [] (Hf w) (.inl none, Hf r)) : AG G M_J7_fill_d0a16 6 [some (.ref (bx + 52)), some (.long (x1)), none, some (.int (x3)), some (.int (x4))] [] (Hf w) (.inl none, Hf r) := by
  unfold B_J7_fill_d0a16_x52_6 at hL
  refine g_iload_n dJ7_fill_d0a16_6 rfl rfl ?_
  refine g_iload dJ7_fill_d0a16_7 rfl ?_
  refine g_icmp_ge (tgt := 22) dJ7_fill_d0a16_9 (by decide) (fun q2 => ?_) (fun q2 => ?_)
  · rw [if_pos q2] at hL
    refine g_none 0 ?_
    refine g_none 1 ?_
    refine g_none 3 ?_
    refine g_none 4 ?_
    exact Hke22  _ hL
  · rw [if_neg q2] at hL
    refine g_aload_n dJ7_fill_d0a16_12 rfl rfl ?_
    refine g_iload_n dJ7_fill_d0a16_13 rfl rfl ?_
    refine g_lload_n dJ7_fill_d0a16_14 rfl rfl ?_
    refine s_last (k := 52) E.1 hL rfl dJ7_fill_d0a16_15 ?_
    intro w1 hL
    refine g_iincV (v := (x3 + 1)) dJ7_fill_d0a16_16 rfl rfl (by decide) rfl ?_
    refine g_goto (tgt := 6) dJ7_fill_d0a16_19 (by decide) ?_
    exact Hkh6 _ _ _ _ hL
def P_J7_fill_d0a16_x52_6 (o : wO) (ke22 : wS → Option (wS)) (n : Nat) (x1 : Int64) (x3 : Int32) (x4 : Int32) (w : wS) : Option (wS) :=
  xLoop (fun (kk : Int64 × Int32 × Int32 × wS → Option (wS)) σ => B_J7_fill_d0a16_x52_6 o (fun x1 x3 x4 w => kk (x1, x3, x4, w)) ke22 (σ.1) (σ.2.1) (σ.2.2.1) (σ.2.2.2)) n (x1, x3, x4, w)
theorem P_J7_fill_d0a16_x52_6_ok {G : aG} {Hf : wS → aH} {bx : Nat} {o : wO} {ke22 : wS → Option (wS)} {n : Nat} {x1 : Int64} {x3 : Int32} {x4 : Int32} {w : wS} {r : wS} (hG : aGood G) (E : EX Hf bx o) (hL : P_J7_fill_d0a16_x52_6 o ke22 n x1 x3 x4 w = some r) (Hke22 : ∀ (w : wS), ke22  w = some r → AG G M_J7_fill_d0a16 22 [none, none, none, none, none] [] (Hf w) (.inl none, Hf r)) : AG G M_J7_fill_d0a16 6 [some (.ref (bx + 52)), some (.long (x1)), none, some (.int (x3)), some (.int (x4))] [] (Hf w) (.inl none, Hf r) :=
  xLoop_ok (Q := fun (σ : Int64 × Int32 × Int32 × wS) => AG G M_J7_fill_d0a16 6 [some (.ref (bx + 52)), some (.long (σ.1)), none, some (.int (σ.2.1)), some (.int (σ.2.2.1))] [] (Hf σ.2.2.2) (.inl none, Hf r)) (fun kk hk σ hσ => B_J7_fill_d0a16_x52_6_ok hG E hσ (fun x1 x3 x4 w h9 => hk (x1, x3, x4, w) h9) Hke22) n (x1, x3, x4, w) hL
def L_J7_fill_d0a16_x52 (o : wO) (a2 : Int64) (w : wS) : Option (wS) :=
  P_J7_fill_d0a16_x52_6 o (fun w3 => some w3) 5000 (a2) (0) (12) w
set_option maxRecDepth 20000 in
theorem C_J7_fill_d0a16_x52 {G : aG} {Hf : wS → aH} {bx : Nat} {o : wO} {a2 : Int64} {w : wS} {r : wS} (hG : aGood G) (E : EX Hf bx o) (hL : L_J7_fill_d0a16_x52 o a2 w = some r) : AC G M_J7_fill_d0a16 [.ref (bx + 52), .long a2] (Hf w) (.inl none, Hf r) := by
  unfold L_J7_fill_d0a16_x52 at hL
  refine AC.of (by decide) rfl (Nat.le_of_ble_eq_true rfl) ?_
  show AG G M_J7_fill_d0a16 0 [some (.ref (bx + 52)), some (.long (a2)), none, none, none] [] _ _
  refine g_iconst (v := 0) dJ7_fill_d0a16_0 (by decide) ?_
  refine g_istore_n (i := 3) dJ7_fill_d0a16_1 rfl (by decide) rfl ?_
  refine g_aload_n dJ7_fill_d0a16_2 rfl rfl ?_
  refine g_alen (v := 12) dJ7_fill_d0a16_3 (by have := E.1.1; omega) (show 1 < 4 by decide) (E.1.2.1 _ 52 _ rfl) rfl ?_
  refine g_istore (i := 4) dJ7_fill_d0a16_4 (by decide) rfl ?_
  refine P_J7_fill_d0a16_x52_6_ok hG E hL ?_
  · intro w3 hL
    obtain rfl := Option.some.inj hL
    exact g_vret rfl dJ7_fill_d0a16_22
def J_X9_next_149 (o : wO) (y0 : Int32) (w : wS) : Option ((Int32 ⊕ String) × wS) :=
  some (.inl (y0), w)
set_option maxRecDepth 20000 in
theorem J_X9_next_149_ok {G : aG} {Hf : wS → aH} {bx : Nat} {o : wO} {y0 : Int32} {w : wS} {r : (Int32 ⊕ String) × wS} (hG : aGood G) (E : EX Hf bx o) (hL : J_X9_next_149 o  y0 w = some r) : AG G M_X9_next 149 [none, none, none, none, none, none] [.int (y0)] (Hf w) (xRv Hf r) := by
  unfold J_X9_next_149 at hL
  obtain rfl := Option.some.inj hL
  exact g_iret rfl dX9_next_149
def J_X9_next_134 (o : wO) (kh81 : Int32 → Int32 → Int32 → Int32 → wS → Option ((Int32 ⊕ String) × wS)) (ke140 : Int32 → Int32 → Int32 → wS → Option ((Int32 ⊕ String) × wS)) (x1 : Int32) (x2 : Int32) (x3 : Int32) (x4 : Int32) (w : wS) : Option ((Int32 ⊕ String) × wS) :=
  kh81 (x1) (x2) (x3) ((x4 + 1)) w
set_option maxRecDepth 20000 in
theorem J_X9_next_134_ok {G : aG} {Hf : wS → aH} {bx : Nat} {o : wO} {kh81 : Int32 → Int32 → Int32 → Int32 → wS → Option ((Int32 ⊕ String) × wS)} {ke140 : Int32 → Int32 → Int32 → wS → Option ((Int32 ⊕ String) × wS)} {x1 : Int32} {x2 : Int32} {x3 : Int32} {x4 : Int32} {w : wS} {r : (Int32 ⊕ String) × wS} (hG : aGood G) (E : EX Hf bx o) (hL : J_X9_next_134 o kh81 ke140 x1 x2 x3 x4 w = some r) (Hkh81 : ∀ (z0 : Int32) (z1 : Int32) (z2 : Int32) (z3 : Int32) (w : wS), kh81 z0 z1 z2 z3 w = some r → AG G M_X9_next 81 [some (.ref (bx + 0)), some (.int (z0)), some (.int (z1)), some (.int (z2)), some (.int (z3)), none] [] (Hf w) (xRv Hf r)) (Hke140 : ∀ (z0 : Int32) (z1 : Int32) (z2 : Int32) (w : wS), ke140 z0 z1 z2 w = some r → AG G M_X9_next 140 [none, some (.int (z0)), some (.int (z1)), some (.int (z2)), none, none] [] (Hf w) (xRv Hf r)) : AG G M_X9_next 134 [some (.ref (bx + 0)), some (.int (x1)), some (.int (x2)), some (.int (x3)), some (.int (x4)), none] [] (Hf w) (xRv Hf r) := by
  unfold J_X9_next_134 at hL
  refine g_iincV (v := (x4 + 1)) dX9_next_134 rfl rfl (by decide) rfl ?_
  refine g_goto (tgt := 81) dX9_next_137 (by decide) ?_
  exact Hkh81 _ _ _ _ _ hL
def B_X9_next_81 (o : wO) (kh81 : Int32 → Int32 → Int32 → Int32 → wS → Option ((Int32 ⊕ String) × wS)) (ke140 : Int32 → Int32 → Int32 → wS → Option ((Int32 ⊕ String) × wS)) (x1 : Int32) (x2 : Int32) (x3 : Int32) (x4 : Int32) (w : wS) : Option ((Int32 ⊕ String) × wS) :=
  xIf (xRef w 9 (oT o + 0)) (xB (xGet w 100007) fun v1 => if v1 ≤ x4 then ke140 (x1) (x2) (x3) w else xB (xAldJ w 52 12 (((2 : Int32) * x4))) fun v2 => xB (L_J13_bitCount_95d88 (v2)) fun v3 => xB (xAldJ w 52 12 ((((2 : Int32) * x4) + (1 : Int32)))) fun v4 => xB (L_J13_bitCount_95d88 (v4)) fun v5 => if (v3 + v5) ≤ x3 then J_X9_next_134 o kh81 ke140 (x1) (x2) (x3) (x4) w else J_X9_next_134 o kh81 ke140 (x1) (x4) ((v3 + v5)) (x4) w)
set_option maxRecDepth 20000 in
theorem B_X9_next_81_ok {G : aG} {Hf : wS → aH} {bx : Nat} {o : wO} {kh81 : Int32 → Int32 → Int32 → Int32 → wS → Option ((Int32 ⊕ String) × wS)} {ke140 : Int32 → Int32 → Int32 → wS → Option ((Int32 ⊕ String) × wS)} {x1 : Int32} {x2 : Int32} {x3 : Int32} {x4 : Int32} {w : wS} {r : (Int32 ⊕ String) × wS} (hG : aGood G) (E : EX Hf bx o) (hL : B_X9_next_81 o kh81 ke140 x1 x2 x3 x4 w = some r) (Hkh81 : ∀ (z0 : Int32) (z1 : Int32) (z2 : Int32) (z3 : Int32) (w : wS), kh81 z0 z1 z2 z3 w = some r → AG G M_X9_next 81 [some (.ref (bx + 0)), some (.int (z0)), some (.int (z1)), some (.int (z2)), some (.int (z3)), none] [] (Hf w) (xRv Hf r)) (Hke140 : ∀ (z0 : Int32) (z1 : Int32) (z2 : Int32) (w : wS), ke140 z0 z1 z2 w = some r → AG G M_X9_next 140 [none, some (.int (z0)), some (.int (z1)), some (.int (z2)), none, none] [] (Hf w) (xRv Hf r)) : AG G M_X9_next 81 [some (.ref (bx + 0)), some (.int (x1)), some (.int (x2)), some (.int (x3)), some (.int (x4)), none] [] (Hf w) (xRv Hf r) := by
  unfold B_X9_next_81 at hL
  refine g_iload dX9_next_81 rfl ?_
  refine g_aload_n dX9_next_83 rfl rfl ?_
  refine s_getT (k := 0) (j := 9) E.1 hL rfl rfl f_X9_55 dX9_next_84 ?_
  intro hL
  refine s_getI (k := 0) (j := 7) E.2.1 hL rfl rfl f_X9_102 dX9_next_87 ?_
  intro v1 hL
  refine g_icmp_ge (tgt := 140) dX9_next_90 (by decide) (fun q7 => ?_) (fun q7 => ?_)
  · rw [if_pos q7] at hL
    refine g_none 0 ?_
    refine g_none 4 ?_
    exact Hke140 _ _ _ _ hL
  · rw [if_neg q7] at hL
    refine g_aload_n dX9_next_93 rfl rfl ?_
    refine s_getR (k := 0) (j := 8) E.1 rfl rfl f_X9_48 dX9_next_94 ?_
    refine g_iconst (v := 2) dX9_next_97 (by decide) ?_
    refine g_iload dX9_next_98 rfl ?_
    refine g_imul dX9_next_100 ?_
    refine s_lald (k := 52) E.1 hL rfl dX9_next_101 ?_
    intro v2 hL
    obtain ⟨v3, hc, hL⟩ := xB_some hL
    refine g_callS (M' := M_J13_bitCount_95d88) (as := [.long (v2)]) (v := some (.int (v3))) l_X9_304 kS_J13_bitCount_95d88 (by decide) (C_J13_bitCount_95d88 hc) rfl (Nat.le_of_ble_eq_true rfl) dX9_next_102 ?_
    refine g_aload_n dX9_next_105 rfl rfl ?_
    refine s_getR (k := 0) (j := 8) E.1 rfl rfl f_X9_48 dX9_next_106 ?_
    refine g_iconst (v := 2) dX9_next_109 (by decide) ?_
    refine g_iload dX9_next_110 rfl ?_
    refine g_imul dX9_next_112 ?_
    refine g_iconst (v := 1) dX9_next_113 (by decide) ?_
    refine g_iadd dX9_next_114 ?_
    refine s_lald (k := 52) E.1 hL rfl dX9_next_115 ?_
    intro v4 hL
    obtain ⟨v5, hc, hL⟩ := xB_some hL
    refine g_callS (M' := M_J13_bitCount_95d88) (as := [.long (v4)]) (v := some (.int (v5))) l_X9_304 kS_J13_bitCount_95d88 (by decide) (C_J13_bitCount_95d88 hc) rfl (Nat.le_of_ble_eq_true rfl) dX9_next_116 ?_
    refine g_iadd dX9_next_119 ?_
    refine g_istore (i := 5) dX9_next_120 (by decide) rfl ?_
    refine g_iload dX9_next_122 rfl ?_
    refine g_iload_n dX9_next_124 rfl rfl ?_
    refine g_icmp_le (tgt := 134) dX9_next_125 (by decide) (fun q6 => ?_) (fun q6 => ?_)
    · rw [if_pos q6] at hL
      refine g_none 5 ?_
      exact J_X9_next_134_ok hG E hL Hkh81 Hke140
    · rw [if_neg q6] at hL
      refine g_none 2 ?_
      refine g_none 3 ?_
      refine g_iload dX9_next_128 rfl ?_
      refine g_istore_n (i := 2) dX9_next_130 rfl (by decide) rfl ?_
      refine g_iload dX9_next_131 rfl ?_
      refine g_none 5 ?_
      refine g_istore_n (i := 3) dX9_next_133 rfl (by decide) rfl ?_
      exact J_X9_next_134_ok hG E hL Hkh81 Hke140
def P_X9_next_81 (o : wO) (ke140 : Int32 → Int32 → Int32 → wS → Option ((Int32 ⊕ String) × wS)) (n : Nat) (x1 : Int32) (x2 : Int32) (x3 : Int32) (x4 : Int32) (w : wS) : Option ((Int32 ⊕ String) × wS) :=
  xLoop (fun (kk : Int32 × Int32 × Int32 × Int32 × wS → Option ((Int32 ⊕ String) × wS)) σ => B_X9_next_81 o (fun x1 x2 x3 x4 w => kk (x1, x2, x3, x4, w)) ke140 (σ.1) (σ.2.1) (σ.2.2.1) (σ.2.2.2.1) (σ.2.2.2.2)) n (x1, x2, x3, x4, w)
theorem P_X9_next_81_ok {G : aG} {Hf : wS → aH} {bx : Nat} {o : wO} {ke140 : Int32 → Int32 → Int32 → wS → Option ((Int32 ⊕ String) × wS)} {n : Nat} {x1 : Int32} {x2 : Int32} {x3 : Int32} {x4 : Int32} {w : wS} {r : (Int32 ⊕ String) × wS} (hG : aGood G) (E : EX Hf bx o) (hL : P_X9_next_81 o ke140 n x1 x2 x3 x4 w = some r) (Hke140 : ∀ (z0 : Int32) (z1 : Int32) (z2 : Int32) (w : wS), ke140 z0 z1 z2 w = some r → AG G M_X9_next 140 [none, some (.int (z0)), some (.int (z1)), some (.int (z2)), none, none] [] (Hf w) (xRv Hf r)) : AG G M_X9_next 81 [some (.ref (bx + 0)), some (.int (x1)), some (.int (x2)), some (.int (x3)), some (.int (x4)), none] [] (Hf w) (xRv Hf r) :=
  xLoop_ok (Q := fun (σ : Int32 × Int32 × Int32 × Int32 × wS) => AG G M_X9_next 81 [some (.ref (bx + 0)), some (.int (σ.1)), some (.int (σ.2.1)), some (.int (σ.2.2.1)), some (.int (σ.2.2.2.1)), none] [] (Hf σ.2.2.2.2) (xRv Hf r)) (fun kk hk σ hσ => B_X9_next_81_ok hG E hσ (fun x1 x2 x3 x4 w h9 => hk (x1, x2, x3, x4, w) h9) Hke140) n (x1, x2, x3, x4, w) hL
def J_X9_next_62 (o : wO) (kh28 : Int32 → Int32 → Int32 → wS → Option ((Int32 ⊕ String) × wS)) (ke68 : Int32 → Int32 → wS → Option ((Int32 ⊕ String) × wS)) (x1 : Int32) (x2 : Int32) (x3 : Int32) (w : wS) : Option ((Int32 ⊕ String) × wS) :=
  kh28 (x1) (x2) ((x3 + 1)) w
set_option maxRecDepth 20000 in
theorem J_X9_next_62_ok {G : aG} {Hf : wS → aH} {bx : Nat} {o : wO} {kh28 : Int32 → Int32 → Int32 → wS → Option ((Int32 ⊕ String) × wS)} {ke68 : Int32 → Int32 → wS → Option ((Int32 ⊕ String) × wS)} {x1 : Int32} {x2 : Int32} {x3 : Int32} {w : wS} {r : (Int32 ⊕ String) × wS} (hG : aGood G) (E : EX Hf bx o) (hL : J_X9_next_62 o kh28 ke68 x1 x2 x3 w = some r) (Hkh28 : ∀ (z0 : Int32) (z1 : Int32) (z2 : Int32) (w : wS), kh28 z0 z1 z2 w = some r → AG G M_X9_next 28 [some (.ref (bx + 0)), some (.int (z0)), some (.int (z1)), some (.int (z2)), none, none] [] (Hf w) (xRv Hf r)) (Hke68 : ∀ (z0 : Int32) (z1 : Int32) (w : wS), ke68 z0 z1 w = some r → AG G M_X9_next 68 [some (.ref (bx + 0)), some (.int (z0)), some (.int (z1)), none, none, none] [] (Hf w) (xRv Hf r)) : AG G M_X9_next 62 [some (.ref (bx + 0)), some (.int (x1)), some (.int (x2)), some (.int (x3)), none, none] [] (Hf w) (xRv Hf r) := by
  unfold J_X9_next_62 at hL
  refine g_iincV (v := (x3 + 1)) dX9_next_62 rfl rfl (by decide) rfl ?_
  refine g_goto (tgt := 28) dX9_next_65 (by decide) ?_
  exact Hkh28 _ _ _ _ hL
def B_X9_next_28 (o : wO) (kh28 : Int32 → Int32 → Int32 → wS → Option ((Int32 ⊕ String) × wS)) (ke68 : Int32 → Int32 → wS → Option ((Int32 ⊕ String) × wS)) (x1 : Int32) (x2 : Int32) (x3 : Int32) (w : wS) : Option ((Int32 ⊕ String) × wS) :=
  if 60 < x3 then ke68 (x1) (x2) w else xIf (xRef w 9 (oT o + 0)) (xB (xAld w 1002 8 (x2)) fun v8 => if x3 = v8 then J_X9_next_62 o kh28 ke68 (x1) (x2) (x3) w else xB2 (L_X9_isAsSeen o (x2) (x3) w) fun v9 w10 => if v9 = 0 then J_X9_next_62 o kh28 ke68 (x1) (x2) (x3) w10 else xB (L_X9_hearSecondDay o (x2) (x3) w10) fun w11 => J_X9_next_62 o kh28 ke68 (x1) (x2) (x3) w11)
set_option maxRecDepth 20000 in
theorem B_X9_next_28_ok {G : aG} {Hf : wS → aH} {bx : Nat} {o : wO} {kh28 : Int32 → Int32 → Int32 → wS → Option ((Int32 ⊕ String) × wS)} {ke68 : Int32 → Int32 → wS → Option ((Int32 ⊕ String) × wS)} {x1 : Int32} {x2 : Int32} {x3 : Int32} {w : wS} {r : (Int32 ⊕ String) × wS} (hG : aGood G) (E : EX Hf bx o) (hL : B_X9_next_28 o kh28 ke68 x1 x2 x3 w = some r) (Hkh28 : ∀ (z0 : Int32) (z1 : Int32) (z2 : Int32) (w : wS), kh28 z0 z1 z2 w = some r → AG G M_X9_next 28 [some (.ref (bx + 0)), some (.int (z0)), some (.int (z1)), some (.int (z2)), none, none] [] (Hf w) (xRv Hf r)) (Hke68 : ∀ (z0 : Int32) (z1 : Int32) (w : wS), ke68 z0 z1 w = some r → AG G M_X9_next 68 [some (.ref (bx + 0)), some (.int (z0)), some (.int (z1)), none, none, none] [] (Hf w) (xRv Hf r)) : AG G M_X9_next 28 [some (.ref (bx + 0)), some (.int (x1)), some (.int (x2)), some (.int (x3)), none, none] [] (Hf w) (xRv Hf r) := by
  unfold B_X9_next_28 at hL
  refine g_iload_n dX9_next_28 rfl rfl ?_
  refine g_bipush (v := 60) dX9_next_29 (by decide) ?_
  refine g_icmp_gt (tgt := 68) dX9_next_31 (by decide) (fun q14 => ?_) (fun q14 => ?_)
  · rw [if_pos q14] at hL
    refine g_none 3 ?_
    exact Hke68 _ _ _ hL
  · rw [if_neg q14] at hL
    refine g_iload_n dX9_next_34 rfl rfl ?_
    refine g_aload_n dX9_next_35 rfl rfl ?_
    refine s_getT (k := 0) (j := 9) E.1 hL rfl rfl f_X9_55 dX9_next_36 ?_
    intro hL
    refine s_getR (k := 0) (j := 1) E.2.1 rfl rfl f_X9_150 dX9_next_39 ?_
    refine g_iload_n dX9_next_42 rfl rfl ?_
    refine s_iald (k := 2) E.2.1 hL rfl dX9_next_43 ?_
    intro v8 hL
    refine g_icmp_eq (tgt := 62) dX9_next_44 (by decide) (fun q13 => ?_) (fun q13 => ?_)
    · rw [if_pos q13] at hL
      exact J_X9_next_62_ok hG E hL Hkh28 Hke68
    · rw [if_neg q13] at hL
      refine g_aload_n dX9_next_47 rfl rfl ?_
      refine g_iload_n dX9_next_48 rfl rfl ?_
      refine g_iload_n dX9_next_49 rfl rfl ?_
      obtain ⟨v9, w10, hc, hL⟩ := xB2_some hL
      refine g_callV (M' := M_X9_isAsSeen) (as := [.int (x2), .int (x3)]) (v := some (.int (v9))) l_X9_292 kV_X9_isAsSeen (by decide) (C_X9_isAsSeen hG E hc) rfl (by have := E.1.1; omega) (E.1.2.1 _ 0 _ rfl) ⟨_, _, rfl⟩ (Nat.le_of_ble_eq_true rfl) dX9_next_50 ?_
      refine g_if_eq (tgt := 62) dX9_next_53 (by decide) (fun q12 => ?_) (fun q12 => ?_)
      · rw [if_pos q12] at hL
        exact J_X9_next_62_ok hG E hL Hkh28 Hke68
      · rw [if_neg q12] at hL
        refine g_aload_n dX9_next_56 rfl rfl ?_
        refine g_iload_n dX9_next_57 rfl rfl ?_
        refine g_iload_n dX9_next_58 rfl rfl ?_
        obtain ⟨w11, hc, hL⟩ := xB_some hL
        refine g_callV (M' := M_X9_hearSecondDay) (as := [.int (x2), .int (x3)]) (v := none) l_X9_301 kV_X9_hearSecondDay (by decide) (C_X9_hearSecondDay hG E hc) rfl (by have := E.1.1; omega) (E.1.2.1 _ 0 _ rfl) ⟨_, _, rfl⟩ (Nat.le_of_ble_eq_true rfl) dX9_next_59 ?_
        exact J_X9_next_62_ok hG E hL Hkh28 Hke68
def P_X9_next_28 (o : wO) (ke68 : Int32 → Int32 → wS → Option ((Int32 ⊕ String) × wS)) (n : Nat) (x1 : Int32) (x2 : Int32) (x3 : Int32) (w : wS) : Option ((Int32 ⊕ String) × wS) :=
  xLoop (fun (kk : Int32 × Int32 × Int32 × wS → Option ((Int32 ⊕ String) × wS)) σ => B_X9_next_28 o (fun x1 x2 x3 w => kk (x1, x2, x3, w)) ke68 (σ.1) (σ.2.1) (σ.2.2.1) (σ.2.2.2)) n (x1, x2, x3, w)
theorem P_X9_next_28_ok {G : aG} {Hf : wS → aH} {bx : Nat} {o : wO} {ke68 : Int32 → Int32 → wS → Option ((Int32 ⊕ String) × wS)} {n : Nat} {x1 : Int32} {x2 : Int32} {x3 : Int32} {w : wS} {r : (Int32 ⊕ String) × wS} (hG : aGood G) (E : EX Hf bx o) (hL : P_X9_next_28 o ke68 n x1 x2 x3 w = some r) (Hke68 : ∀ (z0 : Int32) (z1 : Int32) (w : wS), ke68 z0 z1 w = some r → AG G M_X9_next 68 [some (.ref (bx + 0)), some (.int (z0)), some (.int (z1)), none, none, none] [] (Hf w) (xRv Hf r)) : AG G M_X9_next 28 [some (.ref (bx + 0)), some (.int (x1)), some (.int (x2)), some (.int (x3)), none, none] [] (Hf w) (xRv Hf r) :=
  xLoop_ok (Q := fun (σ : Int32 × Int32 × Int32 × wS) => AG G M_X9_next 28 [some (.ref (bx + 0)), some (.int (σ.1)), some (.int (σ.2.1)), some (.int (σ.2.2.1)), none, none] [] (Hf σ.2.2.2) (xRv Hf r)) (fun kk hk σ hσ => B_X9_next_28_ok hG E hσ (fun x1 x2 x3 w h9 => hk (x1, x2, x3, w) h9) Hke68) n (x1, x2, x3, w) hL
def B_X9_next_15 (o : wO) (kh15 : Int32 → Int32 → wS → Option ((Int32 ⊕ String) × wS)) (ke74 : Int32 → wS → Option ((Int32 ⊕ String) × wS)) (x1 : Int32) (x2 : Int32) (w : wS) : Option ((Int32 ⊕ String) × wS) :=
  xIf (xRef w 9 (oT o + 0)) (xB (xGet w 100006) fun v15 => if v15 ≤ x2 then ke74 (x1) w else P_X9_next_28 o (fun z16 z17 w18 => kh15 (z16) ((z17 + 1)) w18) 5000 (x1) (x2) (0) w)
set_option maxRecDepth 20000 in
theorem B_X9_next_15_ok {G : aG} {Hf : wS → aH} {bx : Nat} {o : wO} {kh15 : Int32 → Int32 → wS → Option ((Int32 ⊕ String) × wS)} {ke74 : Int32 → wS → Option ((Int32 ⊕ String) × wS)} {x1 : Int32} {x2 : Int32} {w : wS} {r : (Int32 ⊕ String) × wS} (hG : aGood G) (E : EX Hf bx o) (hL : B_X9_next_15 o kh15 ke74 x1 x2 w = some r) (Hkh15 : ∀ (z0 : Int32) (z1 : Int32) (w : wS), kh15 z0 z1 w = some r → AG G M_X9_next 15 [some (.ref (bx + 0)), some (.int (z0)), some (.int (z1)), none, none, none] [] (Hf w) (xRv Hf r)) (Hke74 : ∀ (z0 : Int32) (w : wS), ke74 z0 w = some r → AG G M_X9_next 74 [some (.ref (bx + 0)), some (.int (z0)), none, none, none, none] [] (Hf w) (xRv Hf r)) : AG G M_X9_next 15 [some (.ref (bx + 0)), some (.int (x1)), some (.int (x2)), none, none, none] [] (Hf w) (xRv Hf r) := by
  unfold B_X9_next_15 at hL
  refine g_iload_n dX9_next_15 rfl rfl ?_
  refine g_aload_n dX9_next_16 rfl rfl ?_
  refine s_getT (k := 0) (j := 9) E.1 hL rfl rfl f_X9_55 dX9_next_17 ?_
  intro hL
  refine s_getI (k := 0) (j := 6) E.2.1 hL rfl rfl f_X9_99 dX9_next_20 ?_
  intro v15 hL
  refine g_icmp_ge (tgt := 74) dX9_next_23 (by decide) (fun q19 => ?_) (fun q19 => ?_)
  · rw [if_pos q19] at hL
    refine g_none 2 ?_
    exact Hke74 _ _ hL
  · rw [if_neg q19] at hL
    refine g_iconst (v := 0) dX9_next_26 (by decide) ?_
    refine g_istore_n (i := 3) dX9_next_27 rfl (by decide) rfl ?_
    refine P_X9_next_28_ok hG E hL ?_
    · intro z16 z17 w18 hL
      refine g_iincV (v := (z17 + 1)) dX9_next_68 rfl rfl (by decide) rfl ?_
      refine g_goto (tgt := 15) dX9_next_71 (by decide) ?_
      exact Hkh15 _ _ _ hL
def P_X9_next_15 (o : wO) (ke74 : Int32 → wS → Option ((Int32 ⊕ String) × wS)) (n : Nat) (x1 : Int32) (x2 : Int32) (w : wS) : Option ((Int32 ⊕ String) × wS) :=
  xLoop (fun (kk : Int32 × Int32 × wS → Option ((Int32 ⊕ String) × wS)) σ => B_X9_next_15 o (fun x1 x2 w => kk (x1, x2, w)) ke74 (σ.1) (σ.2.1) (σ.2.2)) n (x1, x2, w)
theorem P_X9_next_15_ok {G : aG} {Hf : wS → aH} {bx : Nat} {o : wO} {ke74 : Int32 → wS → Option ((Int32 ⊕ String) × wS)} {n : Nat} {x1 : Int32} {x2 : Int32} {w : wS} {r : (Int32 ⊕ String) × wS} (hG : aGood G) (E : EX Hf bx o) (hL : P_X9_next_15 o ke74 n x1 x2 w = some r) (Hke74 : ∀ (z0 : Int32) (w : wS), ke74 z0 w = some r → AG G M_X9_next 74 [some (.ref (bx + 0)), some (.int (z0)), none, none, none, none] [] (Hf w) (xRv Hf r)) : AG G M_X9_next 15 [some (.ref (bx + 0)), some (.int (x1)), some (.int (x2)), none, none, none] [] (Hf w) (xRv Hf r) :=
  xLoop_ok (Q := fun (σ : Int32 × Int32 × wS) => AG G M_X9_next 15 [some (.ref (bx + 0)), some (.int (σ.1)), some (.int (σ.2.1)), none, none, none] [] (Hf σ.2.2) (xRv Hf r)) (fun kk hk σ hσ => B_X9_next_15_ok hG E hσ (fun x1 x2 w h9 => hk (x1, x2, w) h9) Hke74) n (x1, x2, w) hL
def L_X9_next (o : wO) (a1 : Int32) (w : wS) : Option ((Int32 ⊕ String) × wS) :=
  xBT (L_X9_needWhat (a1) (1)) (fun E9 => some (.inr E9, w)) (xB (L_J7_fill_d0a16_x52 o (0) w) fun w20 => P_X9_next_15 o (fun z21 w22 => P_X9_next_81 o (fun z23 z24 z25 w26 => if z23 = 0 then J_X9_next_149 o  (z24) w26 else J_X9_next_149 o  (z25) w26) 5000 (z21) ((-1)) (0) (0) w22) 5000 (a1) (0) w20)
set_option maxRecDepth 20000 in
theorem C_X9_next {G : aG} {Hf : wS → aH} {bx : Nat} {o : wO} {a1 : Int32} {w : wS} {r : (Int32 ⊕ String) × wS} (hG : aGood G) (E : EX Hf bx o) (hL : L_X9_next o a1 w = some r) : AC G M_X9_next [.ref (bx + 0), .int a1] (Hf w) (xRv Hf r) := by
  unfold L_X9_next at hL
  refine AC.of (by decide) rfl (Nat.le_of_ble_eq_true rfl) ?_
  show AG G M_X9_next 0 [some (.ref (bx + 0)), some (.int (a1)), none, none, none, none] [] _ _
  refine g_iload_n dX9_next_0 rfl rfl ?_
  refine g_iconst (v := 1) dX9_next_1 (by decide) ?_
  rcases xBT_some hL with ⟨hc, hL⟩ | ⟨E9, hc, hL⟩
  · refine g_callS (M' := M_X9_needWhat) (as := [.int (a1), .int (1)]) (v := none) l_X9_221 kS_X9_needWhat (by decide) (C_X9_needWhat hG hc) rfl (Nat.le_of_ble_eq_true rfl) dX9_next_2 ?_
    refine g_aload_n dX9_next_5 rfl rfl ?_
    refine s_getR (k := 0) (j := 8) E.1 rfl rfl f_X9_48 dX9_next_6 ?_
    refine g_lconst (v := 0) dX9_next_9 (by decide) ?_
    obtain ⟨w20, hc, hL⟩ := xB_some hL
    refine g_callS (M' := M_J7_fill_d0a16) (as := [.ref (bx + 52), .long (0)]) (v := none) l_X9_295 kS_J7_fill_d0a16 (by decide) (C_J7_fill_d0a16_x52 hG E hc) rfl (Nat.le_of_ble_eq_true rfl) dX9_next_10 ?_
    refine g_iconst (v := 0) dX9_next_13 (by decide) ?_
    refine g_istore_n (i := 2) dX9_next_14 rfl (by decide) rfl ?_
    refine P_X9_next_15_ok hG E hL ?_
    · intro z21 w22 hL
      refine g_iconst (v := (-1)) dX9_next_74 (by decide) ?_
      refine g_istore_n (i := 2) dX9_next_75 rfl (by decide) rfl ?_
      refine g_iconst (v := 0) dX9_next_76 (by decide) ?_
      refine g_istore_n (i := 3) dX9_next_77 rfl (by decide) rfl ?_
      refine g_iconst (v := 0) dX9_next_78 (by decide) ?_
      refine g_istore (i := 4) dX9_next_79 (by decide) rfl ?_
      refine P_X9_next_81_ok hG E hL ?_
      · intro z23 z24 z25 w26 hL
        refine g_iload_n dX9_next_140 rfl rfl ?_
        refine g_none 1 ?_
        refine g_if_ne (tgt := 148) dX9_next_141 (by decide) (fun q27 => ?_) (fun q27 => ?_)
        · rw [if_neg q27] at hL
          refine g_none 2 ?_
          refine g_iload_n dX9_next_148 rfl rfl ?_
          refine g_none 3 ?_
          exact J_X9_next_149_ok hG E hL 
        · rw [if_pos q27] at hL
          refine g_none 3 ?_
          refine g_iload_n dX9_next_144 rfl rfl ?_
          refine g_none 2 ?_
          refine g_goto (tgt := 149) dX9_next_145 (by decide) ?_
          exact J_X9_next_149_ok hG E hL 
  · obtain rfl := Option.some.inj hL
    exact g_callSX (M' := M_X9_needWhat) (as := [.int (a1), .int (1)]) (E := E9) (aIn1 1033 (by decide +kernel) rfl) kS_X9_needWhat (by decide) rfl (C_X9_needWhat hG hc) rfl (Nat.le_of_ble_eq_true rfl) dX9_next_2
