def J_X9_snow_132 (o : wO) (kh24 : Int32 → Int32 → Int32 → Int32 → Int32 → wS → Option ((Int32 ⊕ String) × wS)) (ke138 : Int32 → wS → Option ((Int32 ⊕ String) × wS)) (x1 : Int32) (x2 : Int32) (x3 : Int32) (x4 : Int32) (x5 : Int32) (w : wS) : Option ((Int32 ⊕ String) × wS) :=
  kh24 (x1) (x2) (x3) (x4) ((x5 + 1)) w
set_option maxRecDepth 20000 in
theorem J_X9_snow_132_ok {G : aG} {Hf : wS → aH} {bx : Nat} {o : wO} {kh24 : Int32 → Int32 → Int32 → Int32 → Int32 → wS → Option ((Int32 ⊕ String) × wS)} {ke138 : Int32 → wS → Option ((Int32 ⊕ String) × wS)} {x1 : Int32} {x2 : Int32} {x3 : Int32} {x4 : Int32} {x5 : Int32} {w : wS} {r : (Int32 ⊕ String) × wS} (hG : aGood G) (E : EX Hf bx o) (hL : J_X9_snow_132 o kh24 ke138 x1 x2 x3 x4 x5 w = some r) (Hkh24 : ∀ (z0 : Int32) (z1 : Int32) (z2 : Int32) (z3 : Int32) (z4 : Int32) (w : wS), kh24 z0 z1 z2 z3 z4 w = some r → AG G M_X9_snow 24 [some (.ref (bx + 0)), some (.int (z0)), some (.int (z1)), some (.int (z2)), some (.int (z3)), some (.int (z4)), none, none, none, none] [] (Hf w) (xRv Hf r)) (Hke138 : ∀ (z0 : Int32) (w : wS), ke138 z0 w = some r → AG G M_X9_snow 138 [none, none, none, none, some (.int (z0)), none, none, none, none, none] [] (Hf w) (xRv Hf r)) : AG G M_X9_snow 132 [some (.ref (bx + 0)), some (.int (x1)), some (.int (x2)), some (.int (x3)), some (.int (x4)), some (.int (x5)), none, none, none, none] [] (Hf w) (xRv Hf r) := by
  unfold J_X9_snow_132 at hL
  refine g_iincV (v := (x5 + 1)) dX9_snow_132 rfl rfl (by decide) rfl ?_
  refine g_goto (tgt := 24) dX9_snow_135 (by decide) ?_
  exact Hkh24 _ _ _ _ _ _ hL
def J_X9_snow_99 (o : wO) (kh44 : Int32 → Int32 → Int32 → Int32 → Int32 → Int32 → Int32 → wS → Option ((Int32 ⊕ String) × wS)) (ke113 : Int32 → Int32 → Int32 → Int32 → Int32 → Int32 → wS → Option ((Int32 ⊕ String) × wS)) (x1 : Int32) (x2 : Int32) (x3 : Int32) (x4 : Int32) (x5 : Int32) (x6 : Int32) (x8 : Int32) (y1 : Int32) (w : wS) : Option ((Int32 ⊕ String) × wS) :=
  xB (xPut w 3008 (y1)) fun w1 => xB (L_X1_oneDay o  w1) fun w2 => kh44 (x1) (x2) (x3) (x4) (x5) (x6) ((x8 + 1)) w2
set_option maxRecDepth 20000 in
theorem J_X9_snow_99_ok {G : aG} {Hf : wS → aH} {bx : Nat} {o : wO} {kh44 : Int32 → Int32 → Int32 → Int32 → Int32 → Int32 → Int32 → wS → Option ((Int32 ⊕ String) × wS)} {ke113 : Int32 → Int32 → Int32 → Int32 → Int32 → Int32 → wS → Option ((Int32 ⊕ String) × wS)} {x1 : Int32} {x2 : Int32} {x3 : Int32} {x4 : Int32} {x5 : Int32} {x6 : Int32} {x8 : Int32} {y1 : Int32} {w : wS} {r : (Int32 ⊕ String) × wS} (hG : aGood G) (E : EX Hf bx o) (hL : J_X9_snow_99 o kh44 ke113 x1 x2 x3 x4 x5 x6 x8 y1 w = some r) (Hkh44 : ∀ (z0 : Int32) (z1 : Int32) (z2 : Int32) (z3 : Int32) (z4 : Int32) (z5 : Int32) (z6 : Int32) (w : wS), kh44 z0 z1 z2 z3 z4 z5 z6 w = some r → AG G M_X9_snow 44 [some (.ref (bx + 0)), some (.int (z0)), some (.int (z1)), some (.int (z2)), some (.int (z3)), some (.int (z4)), some (.int (z5)), some (.ref (bx + 30)), some (.int (z6)), none] [] (Hf w) (xRv Hf r)) (Hke113 : ∀ (z0 : Int32) (z1 : Int32) (z2 : Int32) (z3 : Int32) (z4 : Int32) (z5 : Int32) (w : wS), ke113 z0 z1 z2 z3 z4 z5 w = some r → AG G M_X9_snow 113 [some (.ref (bx + 0)), some (.int (z0)), some (.int (z1)), some (.int (z2)), some (.int (z3)), some (.int (z4)), some (.int (z5)), some (.ref (bx + 30)), none, none] [] (Hf w) (xRv Hf r)) : AG G M_X9_snow 99 [some (.ref (bx + 0)), some (.int (x1)), some (.int (x2)), some (.int (x3)), some (.int (x4)), some (.int (x5)), some (.int (x6)), some (.ref (bx + 30)), some (.int (x8)), none] [.int (y1), .ref (bx + 30)] (Hf w) (xRv Hf r) := by
  unfold J_X9_snow_99 at hL
  refine s_putI (k := 30) (j := 8) E.1 hL rfl rfl (by decide) fw_X9_309 rfl rfl dX9_snow_99 ?_
  intro w1 hL
  refine g_aload dX9_snow_102 rfl ?_
  obtain ⟨w2, hc, hL⟩ := xB_some hL
  refine g_callV (M' := M_X1_oneDay) (as := []) (v := none) l_X9_234 kV_X1_oneDay (by decide) (C_X1_oneDay hG E hc) rfl (by have := E.1.1; omega) (E.1.2.1 _ 30 _ rfl) ⟨_, _, rfl⟩ (Nat.le_of_ble_eq_true rfl) dX9_snow_104 ?_
  refine g_iincV (v := (x8 + 1)) dX9_snow_107 rfl rfl (by decide) rfl ?_
  refine g_goto (tgt := 44) dX9_snow_110 (by decide) ?_
  exact Hkh44 _ _ _ _ _ _ _ _ hL
def J_X9_snow_83 (o : wO) (kh44 : Int32 → Int32 → Int32 → Int32 → Int32 → Int32 → Int32 → wS → Option ((Int32 ⊕ String) × wS)) (ke113 : Int32 → Int32 → Int32 → Int32 → Int32 → Int32 → wS → Option ((Int32 ⊕ String) × wS)) (x1 : Int32) (x2 : Int32) (x3 : Int32) (x4 : Int32) (x5 : Int32) (x8 : Int32) (x9 : Int32) (y0 : Int32) (y1 : Int32) (w : wS) : Option ((Int32 ⊕ String) × wS) :=
  if x9 = 0 then J_X9_snow_99 o kh44 ke113 (x1) (x2) (x3) (x4) (x5) ((y0 * y1)) (x8) (0) w else J_X9_snow_99 o kh44 ke113 (x1) (x2) (x3) (x4) (x5) ((y0 * y1)) (x8) (15) w
set_option maxRecDepth 20000 in
theorem J_X9_snow_83_ok {G : aG} {Hf : wS → aH} {bx : Nat} {o : wO} {kh44 : Int32 → Int32 → Int32 → Int32 → Int32 → Int32 → Int32 → wS → Option ((Int32 ⊕ String) × wS)} {ke113 : Int32 → Int32 → Int32 → Int32 → Int32 → Int32 → wS → Option ((Int32 ⊕ String) × wS)} {x1 : Int32} {x2 : Int32} {x3 : Int32} {x4 : Int32} {x5 : Int32} {x8 : Int32} {x9 : Int32} {y0 : Int32} {y1 : Int32} {w : wS} {r : (Int32 ⊕ String) × wS} (hG : aGood G) (E : EX Hf bx o) (hL : J_X9_snow_83 o kh44 ke113 x1 x2 x3 x4 x5 x8 x9 y0 y1 w = some r) (Hkh44 : ∀ (z0 : Int32) (z1 : Int32) (z2 : Int32) (z3 : Int32) (z4 : Int32) (z5 : Int32) (z6 : Int32) (w : wS), kh44 z0 z1 z2 z3 z4 z5 z6 w = some r → AG G M_X9_snow 44 [some (.ref (bx + 0)), some (.int (z0)), some (.int (z1)), some (.int (z2)), some (.int (z3)), some (.int (z4)), some (.int (z5)), some (.ref (bx + 30)), some (.int (z6)), none] [] (Hf w) (xRv Hf r)) (Hke113 : ∀ (z0 : Int32) (z1 : Int32) (z2 : Int32) (z3 : Int32) (z4 : Int32) (z5 : Int32) (w : wS), ke113 z0 z1 z2 z3 z4 z5 w = some r → AG G M_X9_snow 113 [some (.ref (bx + 0)), some (.int (z0)), some (.int (z1)), some (.int (z2)), some (.int (z3)), some (.int (z4)), some (.int (z5)), some (.ref (bx + 30)), none, none] [] (Hf w) (xRv Hf r)) : AG G M_X9_snow 83 [some (.ref (bx + 0)), some (.int (x1)), some (.int (x2)), some (.int (x3)), some (.int (x4)), some (.int (x5)), none, some (.ref (bx + 30)), some (.int (x8)), some (.int (x9))] [.int (y1), .int (y0)] (Hf w) (xRv Hf r) := by
  unfold J_X9_snow_83 at hL
  refine g_imul dX9_snow_83 ?_
  refine g_istore (i := 6) dX9_snow_84 (by decide) rfl ?_
  refine g_aload dX9_snow_86 rfl ?_
  refine g_iload dX9_snow_88 rfl ?_
  refine g_none 9 ?_
  refine g_if_eq (tgt := 98) dX9_snow_90 (by decide) (fun q3 => ?_) (fun q3 => ?_)
  · rw [if_pos q3] at hL
    refine g_iconst (v := 0) dX9_snow_98 (by decide) ?_
    exact J_X9_snow_99_ok hG E hL Hkh44 Hke113
  · rw [if_neg q3] at hL
    refine g_bipush (v := 15) dX9_snow_93 (by decide) ?_
    refine g_goto (tgt := 99) dX9_snow_95 (by decide) ?_
    exact J_X9_snow_99_ok hG E hL Hkh44 Hke113
def J_X9_snow_66 (o : wO) (kh44 : Int32 → Int32 → Int32 → Int32 → Int32 → Int32 → Int32 → wS → Option ((Int32 ⊕ String) × wS)) (ke113 : Int32 → Int32 → Int32 → Int32 → Int32 → Int32 → wS → Option ((Int32 ⊕ String) × wS)) (x1 : Int32) (x2 : Int32) (x3 : Int32) (x4 : Int32) (x5 : Int32) (x6 : Int32) (x8 : Int32) (y0 : Int32) (w : wS) : Option ((Int32 ⊕ String) × wS) :=
  if y0 = 0 then J_X9_snow_83 o kh44 ke113 (x1) (x2) (x3) (x4) (x5) (x8) (y0) (x6) (((10 : Int32) - x3)) w else J_X9_snow_83 o kh44 ke113 (x1) (x2) (x3) (x4) (x5) (x8) (y0) (x6) (x3) w
set_option maxRecDepth 20000 in
theorem J_X9_snow_66_ok {G : aG} {Hf : wS → aH} {bx : Nat} {o : wO} {kh44 : Int32 → Int32 → Int32 → Int32 → Int32 → Int32 → Int32 → wS → Option ((Int32 ⊕ String) × wS)} {ke113 : Int32 → Int32 → Int32 → Int32 → Int32 → Int32 → wS → Option ((Int32 ⊕ String) × wS)} {x1 : Int32} {x2 : Int32} {x3 : Int32} {x4 : Int32} {x5 : Int32} {x6 : Int32} {x8 : Int32} {y0 : Int32} {w : wS} {r : (Int32 ⊕ String) × wS} (hG : aGood G) (E : EX Hf bx o) (hL : J_X9_snow_66 o kh44 ke113 x1 x2 x3 x4 x5 x6 x8 y0 w = some r) (Hkh44 : ∀ (z0 : Int32) (z1 : Int32) (z2 : Int32) (z3 : Int32) (z4 : Int32) (z5 : Int32) (z6 : Int32) (w : wS), kh44 z0 z1 z2 z3 z4 z5 z6 w = some r → AG G M_X9_snow 44 [some (.ref (bx + 0)), some (.int (z0)), some (.int (z1)), some (.int (z2)), some (.int (z3)), some (.int (z4)), some (.int (z5)), some (.ref (bx + 30)), some (.int (z6)), none] [] (Hf w) (xRv Hf r)) (Hke113 : ∀ (z0 : Int32) (z1 : Int32) (z2 : Int32) (z3 : Int32) (z4 : Int32) (z5 : Int32) (w : wS), ke113 z0 z1 z2 z3 z4 z5 w = some r → AG G M_X9_snow 113 [some (.ref (bx + 0)), some (.int (z0)), some (.int (z1)), some (.int (z2)), some (.int (z3)), some (.int (z4)), some (.int (z5)), some (.ref (bx + 30)), none, none] [] (Hf w) (xRv Hf r)) : AG G M_X9_snow 66 [some (.ref (bx + 0)), some (.int (x1)), some (.int (x2)), some (.int (x3)), some (.int (x4)), some (.int (x5)), some (.int (x6)), some (.ref (bx + 30)), some (.int (x8)), none] [.int (y0)] (Hf w) (xRv Hf r) := by
  unfold J_X9_snow_66 at hL
  refine g_istore (i := 9) dX9_snow_66 (by decide) rfl ?_
  refine g_iload dX9_snow_68 rfl ?_
  refine g_none 6 ?_
  refine g_iload dX9_snow_70 rfl ?_
  refine g_if_eq (tgt := 79) dX9_snow_72 (by decide) (fun q4 => ?_) (fun q4 => ?_)
  · rw [if_pos q4] at hL
    refine g_bipush (v := 10) dX9_snow_79 (by decide) ?_
    refine g_iload_n dX9_snow_81 rfl rfl ?_
    refine g_isub dX9_snow_82 ?_
    exact J_X9_snow_83_ok hG E hL Hkh44 Hke113
  · rw [if_neg q4] at hL
    refine g_iload_n dX9_snow_75 rfl rfl ?_
    refine g_goto (tgt := 83) dX9_snow_76 (by decide) ?_
    exact J_X9_snow_83_ok hG E hL Hkh44 Hke113
def B_X9_snow_44 (o : wO) (kh44 : Int32 → Int32 → Int32 → Int32 → Int32 → Int32 → Int32 → wS → Option ((Int32 ⊕ String) × wS)) (ke113 : Int32 → Int32 → Int32 → Int32 → Int32 → Int32 → wS → Option ((Int32 ⊕ String) × wS)) (x1 : Int32) (x2 : Int32) (x3 : Int32) (x4 : Int32) (x5 : Int32) (x6 : Int32) (x8 : Int32) (w : wS) : Option ((Int32 ⊕ String) × wS) :=
  if x2 ≤ x8 then ke113 (x1) (x2) (x3) (x4) (x5) (x6) w else if ((x5 >>> (x8 &&& 31)) &&& (1 : Int32)) = 1 then J_X9_snow_66 o kh44 ke113 (x1) (x2) (x3) (x4) (x5) (x6) (x8) (1) w else J_X9_snow_66 o kh44 ke113 (x1) (x2) (x3) (x4) (x5) (x6) (x8) (0) w
set_option maxRecDepth 20000 in
theorem B_X9_snow_44_ok {G : aG} {Hf : wS → aH} {bx : Nat} {o : wO} {kh44 : Int32 → Int32 → Int32 → Int32 → Int32 → Int32 → Int32 → wS → Option ((Int32 ⊕ String) × wS)} {ke113 : Int32 → Int32 → Int32 → Int32 → Int32 → Int32 → wS → Option ((Int32 ⊕ String) × wS)} {x1 : Int32} {x2 : Int32} {x3 : Int32} {x4 : Int32} {x5 : Int32} {x6 : Int32} {x8 : Int32} {w : wS} {r : (Int32 ⊕ String) × wS} (hG : aGood G) (E : EX Hf bx o) (hL : B_X9_snow_44 o kh44 ke113 x1 x2 x3 x4 x5 x6 x8 w = some r) (Hkh44 : ∀ (z0 : Int32) (z1 : Int32) (z2 : Int32) (z3 : Int32) (z4 : Int32) (z5 : Int32) (z6 : Int32) (w : wS), kh44 z0 z1 z2 z3 z4 z5 z6 w = some r → AG G M_X9_snow 44 [some (.ref (bx + 0)), some (.int (z0)), some (.int (z1)), some (.int (z2)), some (.int (z3)), some (.int (z4)), some (.int (z5)), some (.ref (bx + 30)), some (.int (z6)), none] [] (Hf w) (xRv Hf r)) (Hke113 : ∀ (z0 : Int32) (z1 : Int32) (z2 : Int32) (z3 : Int32) (z4 : Int32) (z5 : Int32) (w : wS), ke113 z0 z1 z2 z3 z4 z5 w = some r → AG G M_X9_snow 113 [some (.ref (bx + 0)), some (.int (z0)), some (.int (z1)), some (.int (z2)), some (.int (z3)), some (.int (z4)), some (.int (z5)), some (.ref (bx + 30)), none, none] [] (Hf w) (xRv Hf r)) : AG G M_X9_snow 44 [some (.ref (bx + 0)), some (.int (x1)), some (.int (x2)), some (.int (x3)), some (.int (x4)), some (.int (x5)), some (.int (x6)), some (.ref (bx + 30)), some (.int (x8)), none] [] (Hf w) (xRv Hf r) := by
  unfold B_X9_snow_44 at hL
  refine g_iload dX9_snow_44 rfl ?_
  refine g_iload_n dX9_snow_46 rfl rfl ?_
  refine g_icmp_ge (tgt := 113) dX9_snow_47 (by decide) (fun q6 => ?_) (fun q6 => ?_)
  · rw [if_pos q6] at hL
    refine g_none 8 ?_
    exact Hke113 _ _ _ _ _ _ _ hL
  · rw [if_neg q6] at hL
    refine g_iload dX9_snow_50 rfl ?_
    refine g_iload dX9_snow_52 rfl ?_
    refine g_ishr dX9_snow_54 ?_
    refine g_iconst (v := 1) dX9_snow_55 (by decide) ?_
    refine g_iand dX9_snow_56 ?_
    refine g_iconst (v := 1) dX9_snow_57 (by decide) ?_
    refine g_icmp_ne (tgt := 65) dX9_snow_58 (by decide) (fun q5 => ?_) (fun q5 => ?_)
    · rw [if_neg q5] at hL
      refine g_iconst (v := 0) dX9_snow_65 (by decide) ?_
      exact J_X9_snow_66_ok hG E hL Hkh44 Hke113
    · rw [if_pos q5] at hL
      refine g_iconst (v := 1) dX9_snow_61 (by decide) ?_
      refine g_goto (tgt := 66) dX9_snow_62 (by decide) ?_
      exact J_X9_snow_66_ok hG E hL Hkh44 Hke113
def P_X9_snow_44 (o : wO) (ke113 : Int32 → Int32 → Int32 → Int32 → Int32 → Int32 → wS → Option ((Int32 ⊕ String) × wS)) (n : Nat) (x1 : Int32) (x2 : Int32) (x3 : Int32) (x4 : Int32) (x5 : Int32) (x6 : Int32) (x8 : Int32) (w : wS) : Option ((Int32 ⊕ String) × wS) :=
  xLoop (fun (kk : Int32 × Int32 × Int32 × Int32 × Int32 × Int32 × Int32 × wS → Option ((Int32 ⊕ String) × wS)) σ => B_X9_snow_44 o (fun x1 x2 x3 x4 x5 x6 x8 w => kk (x1, x2, x3, x4, x5, x6, x8, w)) ke113 (σ.1) (σ.2.1) (σ.2.2.1) (σ.2.2.2.1) (σ.2.2.2.2.1) (σ.2.2.2.2.2.1) (σ.2.2.2.2.2.2.1) (σ.2.2.2.2.2.2.2)) n (x1, x2, x3, x4, x5, x6, x8, w)
theorem P_X9_snow_44_ok {G : aG} {Hf : wS → aH} {bx : Nat} {o : wO} {ke113 : Int32 → Int32 → Int32 → Int32 → Int32 → Int32 → wS → Option ((Int32 ⊕ String) × wS)} {n : Nat} {x1 : Int32} {x2 : Int32} {x3 : Int32} {x4 : Int32} {x5 : Int32} {x6 : Int32} {x8 : Int32} {w : wS} {r : (Int32 ⊕ String) × wS} (hG : aGood G) (E : EX Hf bx o) (hL : P_X9_snow_44 o ke113 n x1 x2 x3 x4 x5 x6 x8 w = some r) (Hke113 : ∀ (z0 : Int32) (z1 : Int32) (z2 : Int32) (z3 : Int32) (z4 : Int32) (z5 : Int32) (w : wS), ke113 z0 z1 z2 z3 z4 z5 w = some r → AG G M_X9_snow 113 [some (.ref (bx + 0)), some (.int (z0)), some (.int (z1)), some (.int (z2)), some (.int (z3)), some (.int (z4)), some (.int (z5)), some (.ref (bx + 30)), none, none] [] (Hf w) (xRv Hf r)) : AG G M_X9_snow 44 [some (.ref (bx + 0)), some (.int (x1)), some (.int (x2)), some (.int (x3)), some (.int (x4)), some (.int (x5)), some (.int (x6)), some (.ref (bx + 30)), some (.int (x8)), none] [] (Hf w) (xRv Hf r) :=
  xLoop_ok (Q := fun (σ : Int32 × Int32 × Int32 × Int32 × Int32 × Int32 × Int32 × wS) => AG G M_X9_snow 44 [some (.ref (bx + 0)), some (.int (σ.1)), some (.int (σ.2.1)), some (.int (σ.2.2.1)), some (.int (σ.2.2.2.1)), some (.int (σ.2.2.2.2.1)), some (.int (σ.2.2.2.2.2.1)), some (.ref (bx + 30)), some (.int (σ.2.2.2.2.2.2.1)), none] [] (Hf σ.2.2.2.2.2.2.2) (xRv Hf r)) (fun kk hk σ hσ => B_X9_snow_44_ok hG E hσ (fun x1 x2 x3 x4 x5 x6 x8 w h9 => hk (x1, x2, x3, x4, x5, x6, x8, w) h9) Hke113) n (x1, x2, x3, x4, x5, x6, x8, w) hL
def B_X9_snow_24 (o : wO) (kh24 : Int32 → Int32 → Int32 → Int32 → Int32 → wS → Option ((Int32 ⊕ String) × wS)) (ke138 : Int32 → wS → Option ((Int32 ⊕ String) × wS)) (x1 : Int32) (x2 : Int32) (x3 : Int32) (x4 : Int32) (x5 : Int32) (w : wS) : Option ((Int32 ⊕ String) × wS) :=
  if ((1 : Int32) <<< (x2 &&& 31)) ≤ x5 then ke138 (x4) w else xB (L_X9_fromNow o  w) fun w7 => P_X9_snow_44 o (fun z8 z9 z10 z11 z12 z13 w14 => xB2 (L_X5_ringer_x31 o  w14) fun v15 w16 => if v15 = z8 then J_X9_snow_132 o kh24 ke138 (z8) (z9) (z10) ((z11 + z13)) (z12) w16 else J_X9_snow_132 o kh24 ke138 (z8) (z9) (z10) (z11) (z12) w16) 5000 (x1) (x2) (x3) (x4) (x5) (1) (0) w7
set_option maxRecDepth 20000 in
theorem B_X9_snow_24_ok {G : aG} {Hf : wS → aH} {bx : Nat} {o : wO} {kh24 : Int32 → Int32 → Int32 → Int32 → Int32 → wS → Option ((Int32 ⊕ String) × wS)} {ke138 : Int32 → wS → Option ((Int32 ⊕ String) × wS)} {x1 : Int32} {x2 : Int32} {x3 : Int32} {x4 : Int32} {x5 : Int32} {w : wS} {r : (Int32 ⊕ String) × wS} (hG : aGood G) (E : EX Hf bx o) (hL : B_X9_snow_24 o kh24 ke138 x1 x2 x3 x4 x5 w = some r) (Hkh24 : ∀ (z0 : Int32) (z1 : Int32) (z2 : Int32) (z3 : Int32) (z4 : Int32) (w : wS), kh24 z0 z1 z2 z3 z4 w = some r → AG G M_X9_snow 24 [some (.ref (bx + 0)), some (.int (z0)), some (.int (z1)), some (.int (z2)), some (.int (z3)), some (.int (z4)), none, none, none, none] [] (Hf w) (xRv Hf r)) (Hke138 : ∀ (z0 : Int32) (w : wS), ke138 z0 w = some r → AG G M_X9_snow 138 [none, none, none, none, some (.int (z0)), none, none, none, none, none] [] (Hf w) (xRv Hf r)) : AG G M_X9_snow 24 [some (.ref (bx + 0)), some (.int (x1)), some (.int (x2)), some (.int (x3)), some (.int (x4)), some (.int (x5)), none, none, none, none] [] (Hf w) (xRv Hf r) := by
  unfold B_X9_snow_24 at hL
  refine g_iload dX9_snow_24 rfl ?_
  refine g_iconst (v := 1) dX9_snow_26 (by decide) ?_
  refine g_iload_n dX9_snow_27 rfl rfl ?_
  refine g_ishl dX9_snow_28 ?_
  refine g_icmp_ge (tgt := 138) dX9_snow_29 (by decide) (fun q18 => ?_) (fun q18 => ?_)
  · rw [if_pos q18] at hL
    refine g_none 0 ?_
    refine g_none 1 ?_
    refine g_none 2 ?_
    refine g_none 3 ?_
    refine g_none 5 ?_
    exact Hke138 _ _ hL
  · rw [if_neg q18] at hL
    refine g_iconst (v := 1) dX9_snow_32 (by decide) ?_
    refine g_istore (i := 6) dX9_snow_33 (by decide) rfl ?_
    refine g_aload_n dX9_snow_35 rfl rfl ?_
    obtain ⟨w7, hc, hL⟩ := xB_some hL
    refine g_callV (M' := M_X9_fromNow) (as := []) (v := some (.ref (bx + 30))) l_X9_193 kV_X9_fromNow (by decide) (C_X9_fromNow hG E hc) rfl (by have := E.1.1; omega) (E.1.2.1 _ 0 _ rfl) ⟨_, _, rfl⟩ (Nat.le_of_ble_eq_true rfl) dX9_snow_36 ?_
    refine g_astore (i := 7) dX9_snow_39 (by decide) rfl ?_
    refine g_iconst (v := 0) dX9_snow_41 (by decide) ?_
    refine g_istore (i := 8) dX9_snow_42 (by decide) rfl ?_
    refine P_X9_snow_44_ok hG E hL ?_
    · intro z8 z9 z10 z11 z12 z13 w14 hL
      refine g_aload dX9_snow_113 rfl ?_
      refine g_none 7 ?_
      refine s_getR (k := 30) (j := 0) E.1 rfl rfl f_X9_200 dX9_snow_115 ?_
      obtain ⟨v15, w16, hc, hL⟩ := xB2_some hL
      refine g_callV (M' := M_X5_ringer) (as := []) (v := some (.int (v15))) l_X9_116 kV_X5_ringer (by decide) (C_X5_ringer_x31 hG E hc) rfl (by have := E.1.1; omega) (E.1.2.1 _ 31 _ rfl) ⟨_, _, rfl⟩ (Nat.le_of_ble_eq_true rfl) dX9_snow_118 ?_
      refine g_iload_n dX9_snow_121 rfl rfl ?_
      refine g_icmp_ne (tgt := 132) dX9_snow_122 (by decide) (fun q17 => ?_) (fun q17 => ?_)
      · rw [if_neg q17] at hL
        refine g_none 6 ?_
        exact J_X9_snow_132_ok hG E hL Hkh24 Hke138
      · rw [if_pos q17] at hL
        refine g_iload dX9_snow_125 rfl ?_
        refine g_none 4 ?_
        refine g_iload dX9_snow_127 rfl ?_
        refine g_none 6 ?_
        refine g_iadd dX9_snow_129 ?_
        refine g_istore (i := 4) dX9_snow_130 (by decide) rfl ?_
        exact J_X9_snow_132_ok hG E hL Hkh24 Hke138
def P_X9_snow_24 (o : wO) (ke138 : Int32 → wS → Option ((Int32 ⊕ String) × wS)) (n : Nat) (x1 : Int32) (x2 : Int32) (x3 : Int32) (x4 : Int32) (x5 : Int32) (w : wS) : Option ((Int32 ⊕ String) × wS) :=
  xLoop (fun (kk : Int32 × Int32 × Int32 × Int32 × Int32 × wS → Option ((Int32 ⊕ String) × wS)) σ => B_X9_snow_24 o (fun x1 x2 x3 x4 x5 w => kk (x1, x2, x3, x4, x5, w)) ke138 (σ.1) (σ.2.1) (σ.2.2.1) (σ.2.2.2.1) (σ.2.2.2.2.1) (σ.2.2.2.2.2)) n (x1, x2, x3, x4, x5, w)
theorem P_X9_snow_24_ok {G : aG} {Hf : wS → aH} {bx : Nat} {o : wO} {ke138 : Int32 → wS → Option ((Int32 ⊕ String) × wS)} {n : Nat} {x1 : Int32} {x2 : Int32} {x3 : Int32} {x4 : Int32} {x5 : Int32} {w : wS} {r : (Int32 ⊕ String) × wS} (hG : aGood G) (E : EX Hf bx o) (hL : P_X9_snow_24 o ke138 n x1 x2 x3 x4 x5 w = some r) (Hke138 : ∀ (z0 : Int32) (w : wS), ke138 z0 w = some r → AG G M_X9_snow 138 [none, none, none, none, some (.int (z0)), none, none, none, none, none] [] (Hf w) (xRv Hf r)) : AG G M_X9_snow 24 [some (.ref (bx + 0)), some (.int (x1)), some (.int (x2)), some (.int (x3)), some (.int (x4)), some (.int (x5)), none, none, none, none] [] (Hf w) (xRv Hf r) :=
  xLoop_ok (Q := fun (σ : Int32 × Int32 × Int32 × Int32 × Int32 × wS) => AG G M_X9_snow 24 [some (.ref (bx + 0)), some (.int (σ.1)), some (.int (σ.2.1)), some (.int (σ.2.2.1)), some (.int (σ.2.2.2.1)), some (.int (σ.2.2.2.2.1)), none, none, none, none] [] (Hf σ.2.2.2.2.2) (xRv Hf r)) (fun kk hk σ hσ => B_X9_snow_24_ok hG E hσ (fun x1 x2 x3 x4 x5 w h9 => hk (x1, x2, x3, x4, x5, w) h9) Hke138) n (x1, x2, x3, x4, x5, w) hL
def L_X9_snow (o : wO) (a1 : Int32) (a2 : Int32) (a3 : Int32) (w : wS) : Option ((Int32 ⊕ String) × wS) :=
  xBT (L_X9_needPerson o (a1) w) (fun E9 => some (.inr E9, w)) (xBT (L_X9_needRange (a2) (1) (5)) (fun E9 => some (.inr E9, w)) (xBT (L_X9_needRange (a3) (0) (10)) (fun E9 => some (.inr E9, w)) (P_X9_snow_24 o (fun z19 w20 => some (.inl (z19), w20)) 5000 (a1) (a2) (a3) (0) (0) w)))
set_option maxRecDepth 20000 in
theorem C_X9_snow {G : aG} {Hf : wS → aH} {bx : Nat} {o : wO} {a1 : Int32} {a2 : Int32} {a3 : Int32} {w : wS} {r : (Int32 ⊕ String) × wS} (hG : aGood G) (E : EX Hf bx o) (hL : L_X9_snow o a1 a2 a3 w = some r) : AC G M_X9_snow [.ref (bx + 0), .int a1, .int a2, .int a3] (Hf w) (xRv Hf r) := by
  unfold L_X9_snow at hL
  refine AC.of (by decide) rfl (Nat.le_of_ble_eq_true rfl) ?_
  show AG G M_X9_snow 0 [some (.ref (bx + 0)), some (.int (a1)), some (.int (a2)), some (.int (a3)), none, none, none, none, none, none] [] _ _
  refine g_aload_n dX9_snow_0 rfl rfl ?_
  refine g_iload_n dX9_snow_1 rfl rfl ?_
  rcases xBT_some hL with ⟨hc, hL⟩ | ⟨E9, hc, hL⟩
  · refine g_callV (M' := M_X9_needPerson) (as := [.int (a1)]) (v := none) l_X9_147 kV_X9_needPerson (by decide) (C_X9_needPerson hG E hc) rfl (by have := E.1.1; omega) (E.1.2.1 _ 0 _ rfl) ⟨_, _, rfl⟩ (Nat.le_of_ble_eq_true rfl) dX9_snow_2 ?_
    refine g_iload_n dX9_snow_5 rfl rfl ?_
    refine g_iconst (v := 1) dX9_snow_6 (by decide) ?_
    refine g_iconst (v := 5) dX9_snow_7 (by decide) ?_
    rcases xBT_some hL with ⟨hc, hL⟩ | ⟨E9, hc, hL⟩
    · refine g_callS (M' := M_X9_needRange) (as := [.int (a2), .int (1), .int (5)]) (v := none) l_X9_224 kS_X9_needRange (by decide) (C_X9_needRange hG hc) rfl (Nat.le_of_ble_eq_true rfl) dX9_snow_8 ?_
      refine g_iload_n dX9_snow_11 rfl rfl ?_
      refine g_iconst (v := 0) dX9_snow_12 (by decide) ?_
      refine g_bipush (v := 10) dX9_snow_13 (by decide) ?_
      rcases xBT_some hL with ⟨hc, hL⟩ | ⟨E9, hc, hL⟩
      · refine g_callS (M' := M_X9_needRange) (as := [.int (a3), .int (0), .int (10)]) (v := none) l_X9_224 kS_X9_needRange (by decide) (C_X9_needRange hG hc) rfl (Nat.le_of_ble_eq_true rfl) dX9_snow_15 ?_
        refine g_iconst (v := 0) dX9_snow_18 (by decide) ?_
        refine g_istore (i := 4) dX9_snow_19 (by decide) rfl ?_
        refine g_iconst (v := 0) dX9_snow_21 (by decide) ?_
        refine g_istore (i := 5) dX9_snow_22 (by decide) rfl ?_
        refine P_X9_snow_24_ok hG E hL ?_
        · intro z19 w20 hL
          refine g_iload dX9_snow_138 rfl ?_
          refine g_none 4 ?_
          obtain rfl := Option.some.inj hL
          exact g_iret rfl dX9_snow_140
      · obtain rfl := Option.some.inj hL
        exact g_callSX (M' := M_X9_needRange) (as := [.int (a3), .int (0), .int (10)]) (E := E9) (aIn1 1037 (by decide +kernel) rfl) kS_X9_needRange (by decide) rfl (C_X9_needRange hG hc) rfl (Nat.le_of_ble_eq_true rfl) dX9_snow_15
    · obtain rfl := Option.some.inj hL
      exact g_callSX (M' := M_X9_needRange) (as := [.int (a2), .int (1), .int (5)]) (E := E9) (aIn1 1037 (by decide +kernel) rfl) kS_X9_needRange (by decide) rfl (C_X9_needRange hG hc) rfl (Nat.le_of_ble_eq_true rfl) dX9_snow_8
  · obtain rfl := Option.some.inj hL
    exact g_callVX (M' := M_X9_needPerson) (as := [.int (a1)]) (E := E9) (aIn1 956 (by decide +kernel) rfl) kV_X9_needPerson (by decide) rfl (C_X9_needPerson hG E hc) rfl (by have := E.1.1; omega) (E.1.2.1 _ 0 _ rfl) ⟨_, _, rfl⟩ (Nat.le_of_ble_eq_true rfl) dX9_snow_2
def J_X9_play_98 (o : wO) (kh51 : Int32 → Int32 → Int32 → Int32 → Int32 → Int32 → wS → Option (wS)) (ke107 : Int32 → Int32 → Int32 → wS → Option (wS)) (x1 : Int32) (x2 : Int32) (x3 : Int32) (x7 : Int32) (x9 : Int32) (y0 : Int32) (y1 : Int32) (w : wS) : Option (wS) :=
  kh51 (x1) (x2) (x3) (x7) ((y0 + y1)) ((x9 + 1)) w
set_option maxRecDepth 20000 in
theorem J_X9_play_98_ok {G : aG} {Hf : wS → aH} {bx : Nat} {o : wO} {kh51 : Int32 → Int32 → Int32 → Int32 → Int32 → Int32 → wS → Option (wS)} {ke107 : Int32 → Int32 → Int32 → wS → Option (wS)} {x1 : Int32} {x2 : Int32} {x3 : Int32} {x7 : Int32} {x9 : Int32} {y0 : Int32} {y1 : Int32} {w : wS} {r : wS} (hG : aGood G) (E : EX Hf bx o) (hL : J_X9_play_98 o kh51 ke107 x1 x2 x3 x7 x9 y0 y1 w = some r) (Hkh51 : ∀ (z0 : Int32) (z1 : Int32) (z2 : Int32) (z3 : Int32) (z4 : Int32) (z5 : Int32) (w : wS), kh51 z0 z1 z2 z3 z4 z5 w = some r → AG G M_X9_play 51 [some (.ref (bx + 0)), some (.int (z0)), some (.int (z1)), some (.int (z2)), none, none, some (.ref (bx + 30)), some (.int (z3)), some (.int (z4)), some (.int (z5))] [] (Hf w) (.inl none, Hf r)) (Hke107 : ∀ (z0 : Int32) (z1 : Int32) (z2 : Int32) (w : wS), ke107 z0 z1 z2 w = some r → AG G M_X9_play 107 [some (.ref (bx + 0)), none, none, some (.int (z0)), none, none, none, some (.int (z1)), some (.int (z2)), none] [] (Hf w) (.inl none, Hf r)) : AG G M_X9_play 98 [some (.ref (bx + 0)), some (.int (x1)), some (.int (x2)), some (.int (x3)), none, none, some (.ref (bx + 30)), some (.int (x7)), none, some (.int (x9))] [.int (y1), .int (y0)] (Hf w) (.inl none, Hf r) := by
  unfold J_X9_play_98 at hL
  refine g_iadd dX9_play_98 ?_
  refine g_istore (i := 8) dX9_play_99 (by decide) rfl ?_
  refine g_iincV (v := (x9 + 1)) dX9_play_101 rfl rfl (by decide) rfl ?_
  refine g_goto (tgt := 51) dX9_play_104 (by decide) ?_
  exact Hkh51 _ _ _ _ _ _ _ hL
def J_X9_play_79 (o : wO) (kh51 : Int32 → Int32 → Int32 → Int32 → Int32 → Int32 → wS → Option (wS)) (ke107 : Int32 → Int32 → Int32 → wS → Option (wS)) (x1 : Int32) (x2 : Int32) (x3 : Int32) (x8 : Int32) (x9 : Int32) (y0 : Int32) (y1 : Int32) (w : wS) : Option (wS) :=
  xB2 (L_X1_rangToday o (x2) w) fun v1 w2 => if v1 = 0 then J_X9_play_98 o kh51 ke107 (x1) (x2) (x3) ((y0 + y1)) (x9) (x8) (1) w2 else J_X9_play_98 o kh51 ke107 (x1) (x2) (x3) ((y0 + y1)) (x9) (x8) (0) w2
set_option maxRecDepth 20000 in
theorem J_X9_play_79_ok {G : aG} {Hf : wS → aH} {bx : Nat} {o : wO} {kh51 : Int32 → Int32 → Int32 → Int32 → Int32 → Int32 → wS → Option (wS)} {ke107 : Int32 → Int32 → Int32 → wS → Option (wS)} {x1 : Int32} {x2 : Int32} {x3 : Int32} {x8 : Int32} {x9 : Int32} {y0 : Int32} {y1 : Int32} {w : wS} {r : wS} (hG : aGood G) (E : EX Hf bx o) (hL : J_X9_play_79 o kh51 ke107 x1 x2 x3 x8 x9 y0 y1 w = some r) (Hkh51 : ∀ (z0 : Int32) (z1 : Int32) (z2 : Int32) (z3 : Int32) (z4 : Int32) (z5 : Int32) (w : wS), kh51 z0 z1 z2 z3 z4 z5 w = some r → AG G M_X9_play 51 [some (.ref (bx + 0)), some (.int (z0)), some (.int (z1)), some (.int (z2)), none, none, some (.ref (bx + 30)), some (.int (z3)), some (.int (z4)), some (.int (z5))] [] (Hf w) (.inl none, Hf r)) (Hke107 : ∀ (z0 : Int32) (z1 : Int32) (z2 : Int32) (w : wS), ke107 z0 z1 z2 w = some r → AG G M_X9_play 107 [some (.ref (bx + 0)), none, none, some (.int (z0)), none, none, none, some (.int (z1)), some (.int (z2)), none] [] (Hf w) (.inl none, Hf r)) : AG G M_X9_play 79 [some (.ref (bx + 0)), some (.int (x1)), some (.int (x2)), some (.int (x3)), none, none, some (.ref (bx + 30)), none, some (.int (x8)), some (.int (x9))] [.int (y1), .int (y0)] (Hf w) (.inl none, Hf r) := by
  unfold J_X9_play_79 at hL
  refine g_iadd dX9_play_79 ?_
  refine g_istore (i := 7) dX9_play_80 (by decide) rfl ?_
  refine g_iload dX9_play_82 rfl ?_
  refine g_none 8 ?_
  refine g_aload dX9_play_84 rfl ?_
  refine g_iload_n dX9_play_86 rfl rfl ?_
  obtain ⟨v1, w2, hc, hL⟩ := xB2_some hL
  refine g_callV (M' := M_X1_rangToday) (as := [.int (x2)]) (v := some (.int (v1))) l_X9_237 kV_X1_rangToday (by decide) (C_X1_rangToday hG E hc) rfl (by have := E.1.1; omega) (E.1.2.1 _ 30 _ rfl) ⟨_, _, rfl⟩ (Nat.le_of_ble_eq_true rfl) dX9_play_87 ?_
  refine g_if_eq (tgt := 97) dX9_play_90 (by decide) (fun q3 => ?_) (fun q3 => ?_)
  · rw [if_pos q3] at hL
    refine g_iconst (v := 1) dX9_play_97 (by decide) ?_
    exact J_X9_play_98_ok hG E hL Hkh51 Hke107
  · rw [if_neg q3] at hL
    refine g_iconst (v := 0) dX9_play_93 (by decide) ?_
    refine g_goto (tgt := 98) dX9_play_94 (by decide) ?_
    exact J_X9_play_98_ok hG E hL Hkh51 Hke107
def B_X9_play_51 (o : wO) (kh51 : Int32 → Int32 → Int32 → Int32 → Int32 → Int32 → wS → Option (wS)) (ke107 : Int32 → Int32 → Int32 → wS → Option (wS)) (x1 : Int32) (x2 : Int32) (x3 : Int32) (x7 : Int32) (x8 : Int32) (x9 : Int32) (w : wS) : Option (wS) :=
  if 8 ≤ x9 then ke107 (x3) (x7) (x8) w else xB (L_X1_oneDay o  w) fun w4 => xB2 (L_X1_rangToday o (x1) w4) fun v5 w6 => if v5 = 0 then J_X9_play_79 o kh51 ke107 (x1) (x2) (x3) (x8) (x9) (x7) (1) w6 else J_X9_play_79 o kh51 ke107 (x1) (x2) (x3) (x8) (x9) (x7) (0) w6
set_option maxRecDepth 20000 in
theorem B_X9_play_51_ok {G : aG} {Hf : wS → aH} {bx : Nat} {o : wO} {kh51 : Int32 → Int32 → Int32 → Int32 → Int32 → Int32 → wS → Option (wS)} {ke107 : Int32 → Int32 → Int32 → wS → Option (wS)} {x1 : Int32} {x2 : Int32} {x3 : Int32} {x7 : Int32} {x8 : Int32} {x9 : Int32} {w : wS} {r : wS} (hG : aGood G) (E : EX Hf bx o) (hL : B_X9_play_51 o kh51 ke107 x1 x2 x3 x7 x8 x9 w = some r) (Hkh51 : ∀ (z0 : Int32) (z1 : Int32) (z2 : Int32) (z3 : Int32) (z4 : Int32) (z5 : Int32) (w : wS), kh51 z0 z1 z2 z3 z4 z5 w = some r → AG G M_X9_play 51 [some (.ref (bx + 0)), some (.int (z0)), some (.int (z1)), some (.int (z2)), none, none, some (.ref (bx + 30)), some (.int (z3)), some (.int (z4)), some (.int (z5))] [] (Hf w) (.inl none, Hf r)) (Hke107 : ∀ (z0 : Int32) (z1 : Int32) (z2 : Int32) (w : wS), ke107 z0 z1 z2 w = some r → AG G M_X9_play 107 [some (.ref (bx + 0)), none, none, some (.int (z0)), none, none, none, some (.int (z1)), some (.int (z2)), none] [] (Hf w) (.inl none, Hf r)) : AG G M_X9_play 51 [some (.ref (bx + 0)), some (.int (x1)), some (.int (x2)), some (.int (x3)), none, none, some (.ref (bx + 30)), some (.int (x7)), some (.int (x8)), some (.int (x9))] [] (Hf w) (.inl none, Hf r) := by
  unfold B_X9_play_51 at hL
  refine g_iload dX9_play_51 rfl ?_
  refine g_bipush (v := 8) dX9_play_53 (by decide) ?_
  refine g_icmp_ge (tgt := 107) dX9_play_55 (by decide) (fun q8 => ?_) (fun q8 => ?_)
  · rw [if_pos q8] at hL
    refine g_none 1 ?_
    refine g_none 2 ?_
    refine g_none 6 ?_
    refine g_none 9 ?_
    exact Hke107 _ _ _ _ hL
  · rw [if_neg q8] at hL
    refine g_aload dX9_play_58 rfl ?_
    obtain ⟨w4, hc, hL⟩ := xB_some hL
    refine g_callV (M' := M_X1_oneDay) (as := []) (v := none) l_X9_234 kV_X1_oneDay (by decide) (C_X1_oneDay hG E hc) rfl (by have := E.1.1; omega) (E.1.2.1 _ 30 _ rfl) ⟨_, _, rfl⟩ (Nat.le_of_ble_eq_true rfl) dX9_play_60 ?_
    refine g_iload dX9_play_63 rfl ?_
    refine g_none 7 ?_
    refine g_aload dX9_play_65 rfl ?_
    refine g_iload_n dX9_play_67 rfl rfl ?_
    obtain ⟨v5, w6, hc, hL⟩ := xB2_some hL
    refine g_callV (M' := M_X1_rangToday) (as := [.int (x1)]) (v := some (.int (v5))) l_X9_237 kV_X1_rangToday (by decide) (C_X1_rangToday hG E hc) rfl (by have := E.1.1; omega) (E.1.2.1 _ 30 _ rfl) ⟨_, _, rfl⟩ (Nat.le_of_ble_eq_true rfl) dX9_play_68 ?_
    refine g_if_eq (tgt := 78) dX9_play_71 (by decide) (fun q7 => ?_) (fun q7 => ?_)
    · rw [if_pos q7] at hL
      refine g_iconst (v := 1) dX9_play_78 (by decide) ?_
      exact J_X9_play_79_ok hG E hL Hkh51 Hke107
    · rw [if_neg q7] at hL
      refine g_iconst (v := 0) dX9_play_74 (by decide) ?_
      refine g_goto (tgt := 79) dX9_play_75 (by decide) ?_
      exact J_X9_play_79_ok hG E hL Hkh51 Hke107
def P_X9_play_51 (o : wO) (ke107 : Int32 → Int32 → Int32 → wS → Option (wS)) (n : Nat) (x1 : Int32) (x2 : Int32) (x3 : Int32) (x7 : Int32) (x8 : Int32) (x9 : Int32) (w : wS) : Option (wS) :=
  xLoop (fun (kk : Int32 × Int32 × Int32 × Int32 × Int32 × Int32 × wS → Option (wS)) σ => B_X9_play_51 o (fun x1 x2 x3 x7 x8 x9 w => kk (x1, x2, x3, x7, x8, x9, w)) ke107 (σ.1) (σ.2.1) (σ.2.2.1) (σ.2.2.2.1) (σ.2.2.2.2.1) (σ.2.2.2.2.2.1) (σ.2.2.2.2.2.2)) n (x1, x2, x3, x7, x8, x9, w)
theorem P_X9_play_51_ok {G : aG} {Hf : wS → aH} {bx : Nat} {o : wO} {ke107 : Int32 → Int32 → Int32 → wS → Option (wS)} {n : Nat} {x1 : Int32} {x2 : Int32} {x3 : Int32} {x7 : Int32} {x8 : Int32} {x9 : Int32} {w : wS} {r : wS} (hG : aGood G) (E : EX Hf bx o) (hL : P_X9_play_51 o ke107 n x1 x2 x3 x7 x8 x9 w = some r) (Hke107 : ∀ (z0 : Int32) (z1 : Int32) (z2 : Int32) (w : wS), ke107 z0 z1 z2 w = some r → AG G M_X9_play 107 [some (.ref (bx + 0)), none, none, some (.int (z0)), none, none, none, some (.int (z1)), some (.int (z2)), none] [] (Hf w) (.inl none, Hf r)) : AG G M_X9_play 51 [some (.ref (bx + 0)), some (.int (x1)), some (.int (x2)), some (.int (x3)), none, none, some (.ref (bx + 30)), some (.int (x7)), some (.int (x8)), some (.int (x9))] [] (Hf w) (.inl none, Hf r) :=
  xLoop_ok (Q := fun (σ : Int32 × Int32 × Int32 × Int32 × Int32 × Int32 × wS) => AG G M_X9_play 51 [some (.ref (bx + 0)), some (.int (σ.1)), some (.int (σ.2.1)), some (.int (σ.2.2.1)), none, none, some (.ref (bx + 30)), some (.int (σ.2.2.2.1)), some (.int (σ.2.2.2.2.1)), some (.int (σ.2.2.2.2.2.1))] [] (Hf σ.2.2.2.2.2.2) (.inl none, Hf r)) (fun kk hk σ hσ => B_X9_play_51_ok hG E hσ (fun x1 x2 x3 x7 x8 x9 w h9 => hk (x1, x2, x3, x7, x8, x9, w) h9) Hke107) n (x1, x2, x3, x7, x8, x9, w) hL
def L_X9_play (o : wO) (a1 : Int32) (a2 : Int32) (a3 : Int32) (w : wS) : Option (wS) :=
  xB (L_X9_fromNow o  w) fun w9 => xB (L_X1_hasten o (a1) (((9 : Int32) * (a3 >>> ((1 : Int32) &&& 31)))) w9) fun w10 => xB (L_X1_hasten o (a2) (((9 : Int32) * (a3 &&& (1 : Int32)))) w10) fun w11 => P_X9_play_51 o (fun z12 z13 z14 w15 => xB (xAst w15 51 8 (((2 : Int32) * z12)) (z13)) fun w16 => xB (xAst w16 51 8 ((((2 : Int32) * z12) + (1 : Int32))) (z14)) fun w17 => some w17) 5000 (a1) (a2) (a3) ((-(a3 >>> ((1 : Int32) &&& 31)))) ((-(a3 &&& (1 : Int32)))) (0) w11
set_option maxRecDepth 20000 in
theorem C_X9_play {G : aG} {Hf : wS → aH} {bx : Nat} {o : wO} {a1 : Int32} {a2 : Int32} {a3 : Int32} {w : wS} {r : wS} (hG : aGood G) (E : EX Hf bx o) (hL : L_X9_play o a1 a2 a3 w = some r) : AC G M_X9_play [.ref (bx + 0), .int a1, .int a2, .int a3] (Hf w) (.inl none, Hf r) := by
  unfold L_X9_play at hL
  refine AC.of (by decide) rfl (Nat.le_of_ble_eq_true rfl) ?_
  show AG G M_X9_play 0 [some (.ref (bx + 0)), some (.int (a1)), some (.int (a2)), some (.int (a3)), none, none, none, none, none, none] [] _ _
  refine g_iload_n dX9_play_0 rfl rfl ?_
  refine g_iconst (v := 1) dX9_play_1 (by decide) ?_
  refine g_ishr dX9_play_2 ?_
  refine g_istore (i := 4) dX9_play_3 (by decide) rfl ?_
  refine g_iload_n dX9_play_5 rfl rfl ?_
  refine g_iconst (v := 1) dX9_play_6 (by decide) ?_
  refine g_iand dX9_play_7 ?_
  refine g_istore (i := 5) dX9_play_8 (by decide) rfl ?_
  refine g_aload_n dX9_play_10 rfl rfl ?_
  obtain ⟨w9, hc, hL⟩ := xB_some hL
  refine g_callV (M' := M_X9_fromNow) (as := []) (v := some (.ref (bx + 30))) l_X9_193 kV_X9_fromNow (by decide) (C_X9_fromNow hG E hc) rfl (by have := E.1.1; omega) (E.1.2.1 _ 0 _ rfl) ⟨_, _, rfl⟩ (Nat.le_of_ble_eq_true rfl) dX9_play_11 ?_
  refine g_astore (i := 6) dX9_play_14 (by decide) rfl ?_
  refine g_aload dX9_play_16 rfl ?_
  refine g_iload_n dX9_play_18 rfl rfl ?_
  refine g_bipush (v := 9) dX9_play_19 (by decide) ?_
  refine g_iload dX9_play_21 rfl ?_
  refine g_imul dX9_play_23 ?_
  obtain ⟨w10, hc, hL⟩ := xB_some hL
  refine g_callV (M' := M_X1_hasten) (as := [.int (a1), .int (((9 : Int32) * (a3 >>> ((1 : Int32) &&& 31))))]) (v := none) l_X9_390 kV_X1_hasten (by decide) (C_X1_hasten hG E hc) rfl (by have := E.1.1; omega) (E.1.2.1 _ 30 _ rfl) ⟨_, _, rfl⟩ (Nat.le_of_ble_eq_true rfl) dX9_play_24 ?_
  refine g_aload dX9_play_27 rfl ?_
  refine g_iload_n dX9_play_29 rfl rfl ?_
  refine g_bipush (v := 9) dX9_play_30 (by decide) ?_
  refine g_iload dX9_play_32 rfl ?_
  refine g_imul dX9_play_34 ?_
  obtain ⟨w11, hc, hL⟩ := xB_some hL
  refine g_callV (M' := M_X1_hasten) (as := [.int (a2), .int (((9 : Int32) * (a3 &&& (1 : Int32))))]) (v := none) l_X9_390 kV_X1_hasten (by decide) (C_X1_hasten hG E hc) rfl (by have := E.1.1; omega) (E.1.2.1 _ 30 _ rfl) ⟨_, _, rfl⟩ (Nat.le_of_ble_eq_true rfl) dX9_play_35 ?_
  refine g_iload dX9_play_38 rfl ?_
  refine g_none 4 ?_
  refine g_ineg dX9_play_40 ?_
  refine g_istore (i := 7) dX9_play_41 (by decide) rfl ?_
  refine g_iload dX9_play_43 rfl ?_
  refine g_none 5 ?_
  refine g_ineg dX9_play_45 ?_
  refine g_istore (i := 8) dX9_play_46 (by decide) rfl ?_
  refine g_iconst (v := 0) dX9_play_48 (by decide) ?_
  refine g_istore (i := 9) dX9_play_49 (by decide) rfl ?_
  refine P_X9_play_51_ok hG E hL ?_
  · intro z12 z13 z14 w15 hL
    refine g_aload_n dX9_play_107 rfl rfl ?_
    refine s_getR (k := 0) (j := 7) E.1 rfl rfl f_X9_45 dX9_play_108 ?_
    refine g_iconst (v := 2) dX9_play_111 (by decide) ?_
    refine g_iload_n dX9_play_112 rfl rfl ?_
    refine g_imul dX9_play_113 ?_
    refine g_iload dX9_play_114 rfl ?_
    refine g_none 7 ?_
    refine s_iast (k := 51) E.1 hL rfl dX9_play_116 ?_
    intro w16 hL
    refine g_aload_n dX9_play_117 rfl rfl ?_
    refine g_none 0 ?_
    refine s_getR (k := 0) (j := 7) E.1 rfl rfl f_X9_45 dX9_play_118 ?_
    refine g_iconst (v := 2) dX9_play_121 (by decide) ?_
    refine g_iload_n dX9_play_122 rfl rfl ?_
    refine g_none 3 ?_
    refine g_imul dX9_play_123 ?_
    refine g_iconst (v := 1) dX9_play_124 (by decide) ?_
    refine g_iadd dX9_play_125 ?_
    refine g_iload dX9_play_126 rfl ?_
    refine g_none 8 ?_
    refine s_iast (k := 51) E.1 hL rfl dX9_play_128 ?_
    intro w17 hL
    obtain rfl := Option.some.inj hL
    exact g_vret rfl dX9_play_129
def J_X9_game_164 (o : wO) (y0 : Int32) (w : wS) : Option ((Int32 ⊕ String) × wS) :=
  some (.inl (y0), w)
set_option maxRecDepth 20000 in
theorem J_X9_game_164_ok {G : aG} {Hf : wS → aH} {bx : Nat} {o : wO} {y0 : Int32} {w : wS} {r : (Int32 ⊕ String) × wS} (hG : aGood G) (E : EX Hf bx o) (hL : J_X9_game_164 o  y0 w = some r) : AG G M_X9_game 164 [none, none, none, none, none, none, none] [.int (y0)] (Hf w) (xRv Hf r) := by
  unfold J_X9_game_164 at hL
  obtain rfl := Option.some.inj hL
  exact g_iret rfl dX9_game_164
def J_X9_game_147 (o : wO) (kh63 : Int32 → Int32 → Int32 → Int32 → wS → Option ((Int32 ⊕ String) × wS)) (ke153 : Int32 → Int32 → Int32 → wS → Option ((Int32 ⊕ String) × wS)) (x3 : Int32) (x4 : Int32) (x5 : Int32) (x6 : Int32) (w : wS) : Option ((Int32 ⊕ String) × wS) :=
  kh63 (x3) (x4) (x5) ((x6 + 1)) w
set_option maxRecDepth 20000 in
theorem J_X9_game_147_ok {G : aG} {Hf : wS → aH} {bx : Nat} {o : wO} {kh63 : Int32 → Int32 → Int32 → Int32 → wS → Option ((Int32 ⊕ String) × wS)} {ke153 : Int32 → Int32 → Int32 → wS → Option ((Int32 ⊕ String) × wS)} {x3 : Int32} {x4 : Int32} {x5 : Int32} {x6 : Int32} {w : wS} {r : (Int32 ⊕ String) × wS} (hG : aGood G) (E : EX Hf bx o) (hL : J_X9_game_147 o kh63 ke153 x3 x4 x5 x6 w = some r) (Hkh63 : ∀ (z0 : Int32) (z1 : Int32) (z2 : Int32) (z3 : Int32) (w : wS), kh63 z0 z1 z2 z3 w = some r → AG G M_X9_game 63 [some (.ref (bx + 0)), none, none, some (.int (z0)), some (.int (z1)), some (.int (z2)), some (.int (z3))] [] (Hf w) (xRv Hf r)) (Hke153 : ∀ (z0 : Int32) (z1 : Int32) (z2 : Int32) (w : wS), ke153 z0 z1 z2 w = some r → AG G M_X9_game 153 [none, none, none, some (.int (z0)), some (.int (z1)), some (.int (z2)), none] [] (Hf w) (xRv Hf r)) : AG G M_X9_game 147 [some (.ref (bx + 0)), none, none, some (.int (x3)), some (.int (x4)), some (.int (x5)), some (.int (x6))] [] (Hf w) (xRv Hf r) := by
  unfold J_X9_game_147 at hL
  refine g_iincV (v := (x6 + 1)) dX9_game_147 rfl rfl (by decide) rfl ?_
  refine g_goto (tgt := 63) dX9_game_150 (by decide) ?_
  exact Hkh63 _ _ _ _ _ hL
def J_X9_game_145 (o : wO) (kh63 : Int32 → Int32 → Int32 → Int32 → wS → Option ((Int32 ⊕ String) × wS)) (ke153 : Int32 → Int32 → Int32 → wS → Option ((Int32 ⊕ String) × wS)) (x3 : Int32) (x4 : Int32) (x6 : Int32) (y0 : Int32) (w : wS) : Option ((Int32 ⊕ String) × wS) :=
  J_X9_game_147 o kh63 ke153 (x3) (x4) (y0) (x6) w
set_option maxRecDepth 20000 in
theorem J_X9_game_145_ok {G : aG} {Hf : wS → aH} {bx : Nat} {o : wO} {kh63 : Int32 → Int32 → Int32 → Int32 → wS → Option ((Int32 ⊕ String) × wS)} {ke153 : Int32 → Int32 → Int32 → wS → Option ((Int32 ⊕ String) × wS)} {x3 : Int32} {x4 : Int32} {x6 : Int32} {y0 : Int32} {w : wS} {r : (Int32 ⊕ String) × wS} (hG : aGood G) (E : EX Hf bx o) (hL : J_X9_game_145 o kh63 ke153 x3 x4 x6 y0 w = some r) (Hkh63 : ∀ (z0 : Int32) (z1 : Int32) (z2 : Int32) (z3 : Int32) (w : wS), kh63 z0 z1 z2 z3 w = some r → AG G M_X9_game 63 [some (.ref (bx + 0)), none, none, some (.int (z0)), some (.int (z1)), some (.int (z2)), some (.int (z3))] [] (Hf w) (xRv Hf r)) (Hke153 : ∀ (z0 : Int32) (z1 : Int32) (z2 : Int32) (w : wS), ke153 z0 z1 z2 w = some r → AG G M_X9_game 153 [none, none, none, some (.int (z0)), some (.int (z1)), some (.int (z2)), none] [] (Hf w) (xRv Hf r)) : AG G M_X9_game 145 [some (.ref (bx + 0)), none, none, some (.int (x3)), some (.int (x4)), none, some (.int (x6))] [.int (y0)] (Hf w) (xRv Hf r) := by
  unfold J_X9_game_145 at hL
  refine g_istore (i := 5) dX9_game_145 (by decide) rfl ?_
  exact J_X9_game_147_ok hG E hL Hkh63 Hke153
def B_X9_game_63 (o : wO) (kh63 : Int32 → Int32 → Int32 → Int32 → wS → Option ((Int32 ⊕ String) × wS)) (ke153 : Int32 → Int32 → Int32 → wS → Option ((Int32 ⊕ String) × wS)) (x3 : Int32) (x4 : Int32) (x5 : Int32) (x6 : Int32) (w : wS) : Option ((Int32 ⊕ String) × wS) :=
  if 4 ≤ x6 then ke153 (x3) (x4) (x5) w else xB (xAld w 51 8 (((2 : Int32) * x6))) fun v1 => xB (xAld w 51 8 (((2 : Int32) * (x6 ^^^ (2 : Int32))))) fun v2 => if v1 < v2 then J_X9_game_147 o kh63 ke153 (x3) (x4) (x5) (x6) w else xB (xAld w 51 8 ((((2 : Int32) * x6) + (1 : Int32)))) fun v3 => xB (xAld w 51 8 ((((2 : Int32) * (x6 ^^^ (1 : Int32))) + (1 : Int32)))) fun v4 => if v3 < v4 then J_X9_game_147 o kh63 ke153 (x3) (x4) (x5) (x6) w else if x5 = (-1) then J_X9_game_145 o kh63 ke153 (x3) ((x4 + 1)) (x6) ((((10 : Int32) * (x6 >>> ((1 : Int32) &&& 31))) + (x6 &&& (1 : Int32)))) w else J_X9_game_145 o kh63 ke153 (x3) ((x4 + 1)) (x6) (x5) w
set_option maxRecDepth 20000 in
theorem B_X9_game_63_ok {G : aG} {Hf : wS → aH} {bx : Nat} {o : wO} {kh63 : Int32 → Int32 → Int32 → Int32 → wS → Option ((Int32 ⊕ String) × wS)} {ke153 : Int32 → Int32 → Int32 → wS → Option ((Int32 ⊕ String) × wS)} {x3 : Int32} {x4 : Int32} {x5 : Int32} {x6 : Int32} {w : wS} {r : (Int32 ⊕ String) × wS} (hG : aGood G) (E : EX Hf bx o) (hL : B_X9_game_63 o kh63 ke153 x3 x4 x5 x6 w = some r) (Hkh63 : ∀ (z0 : Int32) (z1 : Int32) (z2 : Int32) (z3 : Int32) (w : wS), kh63 z0 z1 z2 z3 w = some r → AG G M_X9_game 63 [some (.ref (bx + 0)), none, none, some (.int (z0)), some (.int (z1)), some (.int (z2)), some (.int (z3))] [] (Hf w) (xRv Hf r)) (Hke153 : ∀ (z0 : Int32) (z1 : Int32) (z2 : Int32) (w : wS), ke153 z0 z1 z2 w = some r → AG G M_X9_game 153 [none, none, none, some (.int (z0)), some (.int (z1)), some (.int (z2)), none] [] (Hf w) (xRv Hf r)) : AG G M_X9_game 63 [some (.ref (bx + 0)), none, none, some (.int (x3)), some (.int (x4)), some (.int (x5)), some (.int (x6))] [] (Hf w) (xRv Hf r) := by
  unfold B_X9_game_63 at hL
  refine g_iload dX9_game_63 rfl ?_
  refine g_iconst (v := 4) dX9_game_65 (by decide) ?_
  refine g_icmp_ge (tgt := 153) dX9_game_66 (by decide) (fun q8 => ?_) (fun q8 => ?_)
  · rw [if_pos q8] at hL
    refine g_none 0 ?_
    refine g_none 6 ?_
    exact Hke153 _ _ _ _ hL
  · rw [if_neg q8] at hL
    refine g_aload_n dX9_game_69 rfl rfl ?_
    refine s_getR (k := 0) (j := 7) E.1 rfl rfl f_X9_45 dX9_game_70 ?_
    refine g_iconst (v := 2) dX9_game_73 (by decide) ?_
    refine g_iload dX9_game_74 rfl ?_
    refine g_imul dX9_game_76 ?_
    refine s_iald (k := 51) E.1 hL rfl dX9_game_77 ?_
    intro v1 hL
    refine g_aload_n dX9_game_78 rfl rfl ?_
    refine s_getR (k := 0) (j := 7) E.1 rfl rfl f_X9_45 dX9_game_79 ?_
    refine g_iconst (v := 2) dX9_game_82 (by decide) ?_
    refine g_iload dX9_game_83 rfl ?_
    refine g_iconst (v := 2) dX9_game_85 (by decide) ?_
    refine g_ixor dX9_game_86 ?_
    refine g_imul dX9_game_87 ?_
    refine s_iald (k := 51) E.1 hL rfl dX9_game_88 ?_
    intro v2 hL
    refine g_icmp_lt (tgt := 147) dX9_game_89 (by decide) (fun q7 => ?_) (fun q7 => ?_)
    · rw [if_pos q7] at hL
      exact J_X9_game_147_ok hG E hL Hkh63 Hke153
    · rw [if_neg q7] at hL
      refine g_aload_n dX9_game_92 rfl rfl ?_
      refine s_getR (k := 0) (j := 7) E.1 rfl rfl f_X9_45 dX9_game_93 ?_
      refine g_iconst (v := 2) dX9_game_96 (by decide) ?_
      refine g_iload dX9_game_97 rfl ?_
      refine g_imul dX9_game_99 ?_
      refine g_iconst (v := 1) dX9_game_100 (by decide) ?_
      refine g_iadd dX9_game_101 ?_
      refine s_iald (k := 51) E.1 hL rfl dX9_game_102 ?_
      intro v3 hL
      refine g_aload_n dX9_game_103 rfl rfl ?_
      refine s_getR (k := 0) (j := 7) E.1 rfl rfl f_X9_45 dX9_game_104 ?_
      refine g_iconst (v := 2) dX9_game_107 (by decide) ?_
      refine g_iload dX9_game_108 rfl ?_
      refine g_iconst (v := 1) dX9_game_110 (by decide) ?_
      refine g_ixor dX9_game_111 ?_
      refine g_imul dX9_game_112 ?_
      refine g_iconst (v := 1) dX9_game_113 (by decide) ?_
      refine g_iadd dX9_game_114 ?_
      refine s_iald (k := 51) E.1 hL rfl dX9_game_115 ?_
      intro v4 hL
      refine g_icmp_lt (tgt := 147) dX9_game_116 (by decide) (fun q6 => ?_) (fun q6 => ?_)
      · rw [if_pos q6] at hL
        exact J_X9_game_147_ok hG E hL Hkh63 Hke153
      · rw [if_neg q6] at hL
        refine g_iincV (v := (x4 + 1)) dX9_game_119 rfl rfl (by decide) rfl ?_
        refine g_iload dX9_game_122 rfl ?_
        refine g_iconst (v := (-1)) dX9_game_124 (by decide) ?_
        refine g_icmp_ne (tgt := 143) dX9_game_125 (by decide) (fun q5 => ?_) (fun q5 => ?_)
        · rw [if_neg q5] at hL
          refine g_iload dX9_game_143 rfl ?_
          refine g_none 5 ?_
          exact J_X9_game_145_ok hG E hL Hkh63 Hke153
        · rw [if_pos q5] at hL
          refine g_none 5 ?_
          refine g_bipush (v := 10) dX9_game_128 (by decide) ?_
          refine g_iload dX9_game_130 rfl ?_
          refine g_iconst (v := 1) dX9_game_132 (by decide) ?_
          refine g_ishr dX9_game_133 ?_
          refine g_imul dX9_game_134 ?_
          refine g_iload dX9_game_135 rfl ?_
          refine g_iconst (v := 1) dX9_game_137 (by decide) ?_
          refine g_iand dX9_game_138 ?_
          refine g_iadd dX9_game_139 ?_
          refine g_goto (tgt := 145) dX9_game_140 (by decide) ?_
          exact J_X9_game_145_ok hG E hL Hkh63 Hke153
def P_X9_game_63 (o : wO) (ke153 : Int32 → Int32 → Int32 → wS → Option ((Int32 ⊕ String) × wS)) (n : Nat) (x3 : Int32) (x4 : Int32) (x5 : Int32) (x6 : Int32) (w : wS) : Option ((Int32 ⊕ String) × wS) :=
  xLoop (fun (kk : Int32 × Int32 × Int32 × Int32 × wS → Option ((Int32 ⊕ String) × wS)) σ => B_X9_game_63 o (fun x3 x4 x5 x6 w => kk (x3, x4, x5, x6, w)) ke153 (σ.1) (σ.2.1) (σ.2.2.1) (σ.2.2.2.1) (σ.2.2.2.2)) n (x3, x4, x5, x6, w)
theorem P_X9_game_63_ok {G : aG} {Hf : wS → aH} {bx : Nat} {o : wO} {ke153 : Int32 → Int32 → Int32 → wS → Option ((Int32 ⊕ String) × wS)} {n : Nat} {x3 : Int32} {x4 : Int32} {x5 : Int32} {x6 : Int32} {w : wS} {r : (Int32 ⊕ String) × wS} (hG : aGood G) (E : EX Hf bx o) (hL : P_X9_game_63 o ke153 n x3 x4 x5 x6 w = some r) (Hke153 : ∀ (z0 : Int32) (z1 : Int32) (z2 : Int32) (w : wS), ke153 z0 z1 z2 w = some r → AG G M_X9_game 153 [none, none, none, some (.int (z0)), some (.int (z1)), some (.int (z2)), none] [] (Hf w) (xRv Hf r)) : AG G M_X9_game 63 [some (.ref (bx + 0)), none, none, some (.int (x3)), some (.int (x4)), some (.int (x5)), some (.int (x6))] [] (Hf w) (xRv Hf r) :=
  xLoop_ok (Q := fun (σ : Int32 × Int32 × Int32 × Int32 × wS) => AG G M_X9_game 63 [some (.ref (bx + 0)), none, none, some (.int (σ.1)), some (.int (σ.2.1)), some (.int (σ.2.2.1)), some (.int (σ.2.2.2.1))] [] (Hf σ.2.2.2.2) (xRv Hf r)) (fun kk hk σ hσ => B_X9_game_63_ok hG E hσ (fun x3 x4 x5 x6 w h9 => hk (x3, x4, x5, x6, w) h9) Hke153) n (x3, x4, x5, x6, w) hL
def B_X9_game_34 (o : wO) (kh34 : Int32 → Int32 → Int32 → Int32 → wS → Option ((Int32 ⊕ String) × wS)) (ke54 : Int32 → wS → Option ((Int32 ⊕ String) × wS)) (x1 : Int32) (x2 : Int32) (x3 : Int32) (x4 : Int32) (w : wS) : Option ((Int32 ⊕ String) × wS) :=
  if 4 ≤ x4 then ke54 (x3) w else xB (L_X9_play o (x1) (x2) (x4) w) fun w9 => kh34 (x1) (x2) (x3) ((x4 + 1)) w9
set_option maxRecDepth 20000 in
theorem B_X9_game_34_ok {G : aG} {Hf : wS → aH} {bx : Nat} {o : wO} {kh34 : Int32 → Int32 → Int32 → Int32 → wS → Option ((Int32 ⊕ String) × wS)} {ke54 : Int32 → wS → Option ((Int32 ⊕ String) × wS)} {x1 : Int32} {x2 : Int32} {x3 : Int32} {x4 : Int32} {w : wS} {r : (Int32 ⊕ String) × wS} (hG : aGood G) (E : EX Hf bx o) (hL : B_X9_game_34 o kh34 ke54 x1 x2 x3 x4 w = some r) (Hkh34 : ∀ (z0 : Int32) (z1 : Int32) (z2 : Int32) (z3 : Int32) (w : wS), kh34 z0 z1 z2 z3 w = some r → AG G M_X9_game 34 [some (.ref (bx + 0)), some (.int (z0)), some (.int (z1)), some (.int (z2)), some (.int (z3)), none, none] [] (Hf w) (xRv Hf r)) (Hke54 : ∀ (z0 : Int32) (w : wS), ke54 z0 w = some r → AG G M_X9_game 54 [some (.ref (bx + 0)), none, none, some (.int (z0)), none, none, none] [] (Hf w) (xRv Hf r)) : AG G M_X9_game 34 [some (.ref (bx + 0)), some (.int (x1)), some (.int (x2)), some (.int (x3)), some (.int (x4)), none, none] [] (Hf w) (xRv Hf r) := by
  unfold B_X9_game_34 at hL
  refine g_iload dX9_game_34 rfl ?_
  refine g_iconst (v := 4) dX9_game_36 (by decide) ?_
  refine g_icmp_ge (tgt := 54) dX9_game_37 (by decide) (fun q10 => ?_) (fun q10 => ?_)
  · rw [if_pos q10] at hL
    refine g_none 1 ?_
    refine g_none 2 ?_
    refine g_none 4 ?_
    exact Hke54 _ _ hL
  · rw [if_neg q10] at hL
    refine g_aload_n dX9_game_40 rfl rfl ?_
    refine g_iload_n dX9_game_41 rfl rfl ?_
    refine g_iload_n dX9_game_42 rfl rfl ?_
    refine g_iload dX9_game_43 rfl ?_
    obtain ⟨w9, hc, hL⟩ := xB_some hL
    refine g_callV (M' := M_X9_play) (as := [.int (x1), .int (x2), .int (x4)]) (v := none) l_X9_314 kV_X9_play (by decide) (C_X9_play hG E hc) rfl (by have := E.1.1; omega) (E.1.2.1 _ 0 _ rfl) ⟨_, _, rfl⟩ (Nat.le_of_ble_eq_true rfl) dX9_game_45 ?_
    refine g_iincV (v := (x4 + 1)) dX9_game_48 rfl rfl (by decide) rfl ?_
    refine g_goto (tgt := 34) dX9_game_51 (by decide) ?_
    exact Hkh34 _ _ _ _ _ hL
def P_X9_game_34 (o : wO) (ke54 : Int32 → wS → Option ((Int32 ⊕ String) × wS)) (n : Nat) (x1 : Int32) (x2 : Int32) (x3 : Int32) (x4 : Int32) (w : wS) : Option ((Int32 ⊕ String) × wS) :=
  xLoop (fun (kk : Int32 × Int32 × Int32 × Int32 × wS → Option ((Int32 ⊕ String) × wS)) σ => B_X9_game_34 o (fun x1 x2 x3 x4 w => kk (x1, x2, x3, x4, w)) ke54 (σ.1) (σ.2.1) (σ.2.2.1) (σ.2.2.2.1) (σ.2.2.2.2)) n (x1, x2, x3, x4, w)
theorem P_X9_game_34_ok {G : aG} {Hf : wS → aH} {bx : Nat} {o : wO} {ke54 : Int32 → wS → Option ((Int32 ⊕ String) × wS)} {n : Nat} {x1 : Int32} {x2 : Int32} {x3 : Int32} {x4 : Int32} {w : wS} {r : (Int32 ⊕ String) × wS} (hG : aGood G) (E : EX Hf bx o) (hL : P_X9_game_34 o ke54 n x1 x2 x3 x4 w = some r) (Hke54 : ∀ (z0 : Int32) (w : wS), ke54 z0 w = some r → AG G M_X9_game 54 [some (.ref (bx + 0)), none, none, some (.int (z0)), none, none, none] [] (Hf w) (xRv Hf r)) : AG G M_X9_game 34 [some (.ref (bx + 0)), some (.int (x1)), some (.int (x2)), some (.int (x3)), some (.int (x4)), none, none] [] (Hf w) (xRv Hf r) :=
  xLoop_ok (Q := fun (σ : Int32 × Int32 × Int32 × Int32 × wS) => AG G M_X9_game 34 [some (.ref (bx + 0)), some (.int (σ.1)), some (.int (σ.2.1)), some (.int (σ.2.2.1)), some (.int (σ.2.2.2.1)), none, none] [] (Hf σ.2.2.2.2) (xRv Hf r)) (fun kk hk σ hσ => B_X9_game_34_ok hG E hσ (fun x1 x2 x3 x4 w h9 => hk (x1, x2, x3, x4, w) h9) Hke54) n (x1, x2, x3, x4, w) hL
def L_X9_game (o : wO) (a1 : Int32) (a2 : Int32) (a3 : Int32) (w : wS) : Option ((Int32 ⊕ String) × wS) :=
  xBT (L_X9_needPerson o (a1) w) (fun E9 => some (.inr E9, w)) (xBT (L_X9_needPerson o (a2) w) (fun E9 => some (.inr E9, w)) (xBT (L_X9_needWhat (a3) (1)) (fun E9 => some (.inr E9, w)) (if a1 = a2 then some (.inr cIl, w) else P_X9_game_34 o (fun z11 w12 => P_X9_game_63 o (fun z13 z14 z15 w16 => if z13 = 0 then J_X9_game_164 o  (z14) w16 else J_X9_game_164 o  (z15) w16) 5000 (z11) (0) ((-1)) (0) w12) 5000 (a1) (a2) (a3) (0) w)))
set_option maxRecDepth 20000 in
theorem C_X9_game {G : aG} {Hf : wS → aH} {bx : Nat} {o : wO} {a1 : Int32} {a2 : Int32} {a3 : Int32} {w : wS} {r : (Int32 ⊕ String) × wS} (hG : aGood G) (E : EX Hf bx o) (hL : L_X9_game o a1 a2 a3 w = some r) : AC G M_X9_game [.ref (bx + 0), .int a1, .int a2, .int a3] (Hf w) (xRv Hf r) := by
  unfold L_X9_game at hL
  refine AC.of (by decide) rfl (Nat.le_of_ble_eq_true rfl) ?_
  show AG G M_X9_game 0 [some (.ref (bx + 0)), some (.int (a1)), some (.int (a2)), some (.int (a3)), none, none, none] [] _ _
  refine g_aload_n dX9_game_0 rfl rfl ?_
  refine g_iload_n dX9_game_1 rfl rfl ?_
  rcases xBT_some hL with ⟨hc, hL⟩ | ⟨E9, hc, hL⟩
  · refine g_callV (M' := M_X9_needPerson) (as := [.int (a1)]) (v := none) l_X9_147 kV_X9_needPerson (by decide) (C_X9_needPerson hG E hc) rfl (by have := E.1.1; omega) (E.1.2.1 _ 0 _ rfl) ⟨_, _, rfl⟩ (Nat.le_of_ble_eq_true rfl) dX9_game_2 ?_
    refine g_aload_n dX9_game_5 rfl rfl ?_
    refine g_iload_n dX9_game_6 rfl rfl ?_
    rcases xBT_some hL with ⟨hc, hL⟩ | ⟨E9, hc, hL⟩
    · refine g_callV (M' := M_X9_needPerson) (as := [.int (a2)]) (v := none) l_X9_147 kV_X9_needPerson (by decide) (C_X9_needPerson hG E hc) rfl (by have := E.1.1; omega) (E.1.2.1 _ 0 _ rfl) ⟨_, _, rfl⟩ (Nat.le_of_ble_eq_true rfl) dX9_game_7 ?_
      refine g_iload_n dX9_game_10 rfl rfl ?_
      refine g_iconst (v := 1) dX9_game_11 (by decide) ?_
      rcases xBT_some hL with ⟨hc, hL⟩ | ⟨E9, hc, hL⟩
      · refine g_callS (M' := M_X9_needWhat) (as := [.int (a3), .int (1)]) (v := none) l_X9_221 kS_X9_needWhat (by decide) (C_X9_needWhat hG hc) rfl (Nat.le_of_ble_eq_true rfl) dX9_game_12 ?_
        refine g_iload_n dX9_game_15 rfl rfl ?_
        refine g_iload_n dX9_game_16 rfl rfl ?_
        refine g_icmp_ne (tgt := 31) dX9_game_17 (by decide) (fun q18 => ?_) (fun q18 => ?_)
        · rw [if_neg q18] at hL
          refine g_iconst (v := 0) dX9_game_31 (by decide) ?_
          refine g_istore (i := 4) dX9_game_32 (by decide) rfl ?_
          refine P_X9_game_34_ok hG E hL ?_
          · intro z11 w12 hL
            refine g_iconst (v := 0) dX9_game_54 (by decide) ?_
            refine g_istore (i := 4) dX9_game_55 (by decide) rfl ?_
            refine g_iconst (v := (-1)) dX9_game_57 (by decide) ?_
            refine g_istore (i := 5) dX9_game_58 (by decide) rfl ?_
            refine g_iconst (v := 0) dX9_game_60 (by decide) ?_
            refine g_istore (i := 6) dX9_game_61 (by decide) rfl ?_
            refine P_X9_game_63_ok hG E hL ?_
            · intro z13 z14 z15 w16 hL
              refine g_iload_n dX9_game_153 rfl rfl ?_
              refine g_none 3 ?_
              refine g_if_ne (tgt := 162) dX9_game_154 (by decide) (fun q17 => ?_) (fun q17 => ?_)
              · rw [if_neg q17] at hL
                refine g_none 4 ?_
                refine g_iload dX9_game_162 rfl ?_
                refine g_none 5 ?_
                exact J_X9_game_164_ok hG E hL 
              · rw [if_pos q17] at hL
                refine g_none 5 ?_
                refine g_iload dX9_game_157 rfl ?_
                refine g_none 4 ?_
                refine g_goto (tgt := 164) dX9_game_159 (by decide) ?_
                exact J_X9_game_164_ok hG E hL 
        · rw [if_pos q18] at hL
          refine g_none 0 ?_
          refine g_none 1 ?_
          refine g_none 2 ?_
          refine g_none 3 ?_
          obtain rfl := Option.some.inj hL
          exact g_throwSW (k := 24) hG thr_Il rfl rfl (by decide) (Nat.le_of_ble_eq_true rfl) dX9_game_20 dX9_game_23 dX9_game_24 dX9_game_27 dX9_game_30
      · obtain rfl := Option.some.inj hL
        exact g_callSX (M' := M_X9_needWhat) (as := [.int (a3), .int (1)]) (E := E9) (aIn1 1033 (by decide +kernel) rfl) kS_X9_needWhat (by decide) rfl (C_X9_needWhat hG hc) rfl (Nat.le_of_ble_eq_true rfl) dX9_game_12
    · obtain rfl := Option.some.inj hL
      exact g_callVX (M' := M_X9_needPerson) (as := [.int (a2)]) (E := E9) (aIn1 956 (by decide +kernel) rfl) kV_X9_needPerson (by decide) rfl (C_X9_needPerson hG E hc) rfl (by have := E.1.1; omega) (E.1.2.1 _ 0 _ rfl) ⟨_, _, rfl⟩ (Nat.le_of_ble_eq_true rfl) dX9_game_7
  · obtain rfl := Option.some.inj hL
    exact g_callVX (M' := M_X9_needPerson) (as := [.int (a1)]) (E := E9) (aIn1 956 (by decide +kernel) rfl) kV_X9_needPerson (by decide) rfl (C_X9_needPerson hG E hc) rfl (by have := E.1.1; omega) (E.1.2.1 _ 0 _ rfl) ⟨_, _, rfl⟩ (Nat.le_of_ble_eq_true rfl) dX9_game_2
def B_X1_behindToday_4 (o : wO) (kh4 : Int32 → Int32 → wS → Option (Int32 × wS)) (ke30 : Int32 → wS → Option (Int32 × wS)) (x1 : Int32) (x2 : Int32) (w : wS) : Option (Int32 × wS) :=
  xIf (xRef w 3010 (oT o + 0)) (xB (xGet w 100007) fun v1 => if v1 ≤ x2 then ke30 (x1) w else xB (xAld w 38 6 (x2)) fun v2 => kh4 ((x1 + v2)) ((x2 + 1)) w)
set_option maxRecDepth 20000 in
theorem B_X1_behindToday_4_ok {G : aG} {Hf : wS → aH} {bx : Nat} {o : wO} {kh4 : Int32 → Int32 → wS → Option (Int32 × wS)} {ke30 : Int32 → wS → Option (Int32 × wS)} {x1 : Int32} {x2 : Int32} {w : wS} {r : Int32 × wS} (hG : aGood G) (E : EX Hf bx o) (hL : B_X1_behindToday_4 o kh4 ke30 x1 x2 w = some r) (Hkh4 : ∀ (z0 : Int32) (z1 : Int32) (w : wS), kh4 z0 z1 w = some r → AG G M_X1_behindToday 4 [some (.ref (bx + 30)), some (.int (z0)), some (.int (z1))] [] (Hf w) (.inl (some (.int r.1)), Hf r.2)) (Hke30 : ∀ (z0 : Int32) (w : wS), ke30 z0 w = some r → AG G M_X1_behindToday 30 [none, some (.int (z0)), none] [] (Hf w) (.inl (some (.int r.1)), Hf r.2)) : AG G M_X1_behindToday 4 [some (.ref (bx + 30)), some (.int (x1)), some (.int (x2))] [] (Hf w) (.inl (some (.int r.1)), Hf r.2) := by
  unfold B_X1_behindToday_4 at hL
  refine g_iload_n dX1_behindToday_4 rfl rfl ?_
  refine g_aload_n dX1_behindToday_5 rfl rfl ?_
  refine s_getT (k := 30) (j := 10) E.1 hL rfl rfl f_X1_52 dX1_behindToday_6 ?_
  intro hL
  refine s_getI (k := 0) (j := 7) E.2.1 hL rfl rfl f_X1_79 dX1_behindToday_9 ?_
  intro v1 hL
  refine g_icmp_ge (tgt := 30) dX1_behindToday_12 (by decide) (fun q3 => ?_) (fun q3 => ?_)
  · rw [if_pos q3] at hL
    refine g_none 0 ?_
    refine g_none 2 ?_
    exact Hke30 _ _ hL
  · rw [if_neg q3] at hL
    refine g_iload_n dX1_behindToday_15 rfl rfl ?_
    refine g_none 1 ?_
    refine g_aload_n dX1_behindToday_16 rfl rfl ?_
    refine s_getR (k := 30) (j := 6) E.1 rfl rfl f_X1_34 dX1_behindToday_17 ?_
    refine g_iload_n dX1_behindToday_20 rfl rfl ?_
    refine s_iald (k := 38) E.1 hL rfl dX1_behindToday_21 ?_
    intro v2 hL
    refine g_iadd dX1_behindToday_22 ?_
    refine g_istore_n (i := 1) dX1_behindToday_23 rfl (by decide) rfl ?_
    refine g_iincV (v := (x2 + 1)) dX1_behindToday_24 rfl rfl (by decide) rfl ?_
    refine g_goto (tgt := 4) dX1_behindToday_27 (by decide) ?_
    exact Hkh4 _ _ _ hL
def P_X1_behindToday_4 (o : wO) (ke30 : Int32 → wS → Option (Int32 × wS)) (n : Nat) (x1 : Int32) (x2 : Int32) (w : wS) : Option (Int32 × wS) :=
  xLoop (fun (kk : Int32 × Int32 × wS → Option (Int32 × wS)) σ => B_X1_behindToday_4 o (fun x1 x2 w => kk (x1, x2, w)) ke30 (σ.1) (σ.2.1) (σ.2.2)) n (x1, x2, w)
theorem P_X1_behindToday_4_ok {G : aG} {Hf : wS → aH} {bx : Nat} {o : wO} {ke30 : Int32 → wS → Option (Int32 × wS)} {n : Nat} {x1 : Int32} {x2 : Int32} {w : wS} {r : Int32 × wS} (hG : aGood G) (E : EX Hf bx o) (hL : P_X1_behindToday_4 o ke30 n x1 x2 w = some r) (Hke30 : ∀ (z0 : Int32) (w : wS), ke30 z0 w = some r → AG G M_X1_behindToday 30 [none, some (.int (z0)), none] [] (Hf w) (.inl (some (.int r.1)), Hf r.2)) : AG G M_X1_behindToday 4 [some (.ref (bx + 30)), some (.int (x1)), some (.int (x2))] [] (Hf w) (.inl (some (.int r.1)), Hf r.2) :=
  xLoop_ok (Q := fun (σ : Int32 × Int32 × wS) => AG G M_X1_behindToday 4 [some (.ref (bx + 30)), some (.int (σ.1)), some (.int (σ.2.1))] [] (Hf σ.2.2) (.inl (some (.int r.1)), Hf r.2)) (fun kk hk σ hσ => B_X1_behindToday_4_ok hG E hσ (fun x1 x2 w h9 => hk (x1, x2, w) h9) Hke30) n (x1, x2, w) hL
def L_X1_behindToday (o : wO) (w : wS) : Option (Int32 × wS) :=
  P_X1_behindToday_4 o (fun z4 w5 => some (z4, w5)) 5000 (0) (0) w
set_option maxRecDepth 20000 in
theorem C_X1_behindToday {G : aG} {Hf : wS → aH} {bx : Nat} {o : wO} {w : wS} {r : Int32 × wS} (hG : aGood G) (E : EX Hf bx o) (hL : L_X1_behindToday o  w = some r) : AC G M_X1_behindToday [.ref (bx + 30)] (Hf w) (.inl (some (.int r.1)), Hf r.2) := by
  unfold L_X1_behindToday at hL
  refine AC.of (by decide) rfl (Nat.le_of_ble_eq_true rfl) ?_
  show AG G M_X1_behindToday 0 [some (.ref (bx + 30)), none, none] [] _ _
  refine g_iconst (v := 0) dX1_behindToday_0 (by decide) ?_
  refine g_istore_n (i := 1) dX1_behindToday_1 rfl (by decide) rfl ?_
  refine g_iconst (v := 0) dX1_behindToday_2 (by decide) ?_
  refine g_istore_n (i := 2) dX1_behindToday_3 rfl (by decide) rfl ?_
  refine P_X1_behindToday_4_ok hG E hL ?_
  · intro z4 w5 hL
    refine g_iload_n dX1_behindToday_30 rfl rfl ?_
    refine g_none 1 ?_
    obtain rfl := Option.some.inj hL
    exact g_iret rfl dX1_behindToday_31
def L_X9_seedBehind (a1 : Int32) : Option (Int32) :=
  some (((a1 * (1103515245 : Int32)) + (12345 : Int32)))
set_option maxRecDepth 20000 in
theorem C_X9_seedBehind {G : aG} {h : aH} {a1 : Int32} {r : Int32} (hL : L_X9_seedBehind a1 = some r) : AC G M_X9_seedBehind [.int a1] h (.inl (some (.int r)), h) := by
  unfold L_X9_seedBehind at hL
  refine AC.of (by decide) rfl (Nat.le_of_ble_eq_true rfl) ?_
  show AG G M_X9_seedBehind 0 [some (.int (a1))] [] _ _
  refine g_iload_n dX9_seedBehind_0 rfl rfl ?_
  refine g_none 0 ?_
  refine g_ldcw (v := 1103515245) dX9_seedBehind_1 n_X9_393 ?_
  refine g_imul dX9_seedBehind_4 ?_
  refine g_sipush (v := 12345) dX9_seedBehind_5 (by decide) ?_
  refine g_iadd dX9_seedBehind_8 ?_
  obtain rfl := Option.some.inj hL
  exact g_iret rfl dX9_seedBehind_9
def L_X9_bitsOf (a1 : Int32) : Option (Int32) :=
  some (((a1 >>> ((16 : Int32) &&& 31)) &&& (32767 : Int32)))
set_option maxRecDepth 20000 in
theorem C_X9_bitsOf {G : aG} {h : aH} {a1 : Int32} {r : Int32} (hL : L_X9_bitsOf a1 = some r) : AC G M_X9_bitsOf [.int a1] h (.inl (some (.int r)), h) := by
  unfold L_X9_bitsOf at hL
  refine AC.of (by decide) rfl (Nat.le_of_ble_eq_true rfl) ?_
  show AG G M_X9_bitsOf 0 [some (.int (a1))] [] _ _
  refine g_iload_n dX9_bitsOf_0 rfl rfl ?_
  refine g_none 0 ?_
  refine g_bipush (v := 16) dX9_bitsOf_1 (by decide) ?_
  refine g_ishr dX9_bitsOf_3 ?_
  refine g_sipush (v := 32767) dX9_bitsOf_4 (by decide) ?_
  refine g_iand dX9_bitsOf_7 ?_
  obtain rfl := Option.some.inj hL
  exact g_iret rfl dX9_bitsOf_8
def L_X5_turnHealth_x31 (o : wO) (a1 : Int32) (w : wS) : Option (wS) :=
  xB (xAld w 32 33 (32)) fun v1 => xB (xAst w 32 33 (32) ((v1 ^^^ ((1 : Int32) <<< (a1 &&& 31))))) fun w2 => some w2
set_option maxRecDepth 20000 in
theorem C_X5_turnHealth_x31 {G : aG} {Hf : wS → aH} {bx : Nat} {o : wO} {a1 : Int32} {w : wS} {r : wS} (hG : aGood G) (E : EX Hf bx o) (hL : L_X5_turnHealth_x31 o a1 w = some r) : AC G M_X5_turnHealth [.ref (bx + 31), .int a1] (Hf w) (.inl none, Hf r) := by
  unfold L_X5_turnHealth_x31 at hL
  refine AC.of (by decide) rfl (Nat.le_of_ble_eq_true rfl) ?_
  show AG G M_X5_turnHealth 0 [some (.ref (bx + 31)), some (.int (a1))] [] _ _
  refine g_aload_n dX5_turnHealth_0 rfl rfl ?_
  refine g_none 0 ?_
  refine s_getR (k := 31) (j := 0) E.1 rfl rfl f_X5_11 dX5_turnHealth_1 ?_
  refine g_bipush (v := 32) dX5_turnHealth_4 (by decide) ?_
  refine g_dup2 dX5_turnHealth_6 rfl rfl ?_
  refine s_iald (k := 32) E.1 hL rfl dX5_turnHealth_7 ?_
  intro v1 hL
  refine g_iconst (v := 1) dX5_turnHealth_8 (by decide) ?_
  refine g_iload_n dX5_turnHealth_9 rfl rfl ?_
  refine g_none 1 ?_
  refine g_ishl dX5_turnHealth_10 ?_
  refine g_ixor dX5_turnHealth_11 ?_
  refine s_iast (k := 32) E.1 hL rfl dX5_turnHealth_12 ?_
  intro w2 hL
  obtain rfl := Option.some.inj hL
  exact g_vret rfl dX5_turnHealth_13
def J_X1_befall_45 (o : wO) (w : wS) : Option (wS) :=
  some w
set_option maxRecDepth 20000 in
theorem J_X1_befall_45_ok {G : aG} {Hf : wS → aH} {bx : Nat} {o : wO} {w : wS} {r : wS} (hG : aGood G) (E : EX Hf bx o) (hL : J_X1_befall_45 o   w = some r) : AG G M_X1_befall 45 [none, none, none] [] (Hf w) (.inl none, Hf r) := by
  unfold J_X1_befall_45 at hL
  obtain rfl := Option.some.inj hL
  exact g_vret rfl dX1_befall_45
def L_X1_befall (o : wO) (a1 : Int32) (a2 : Int32) (w : wS) : Option (wS) :=
  if a2 = 0 then xB (L_X5_turnHealth_x31 o (a1) w) fun w5 => J_X1_befall_45 o   w5 else if a2 = 1 then xB (L_X5_setHaste_x31 o (a1) (0) w) fun w3 => J_X1_befall_45 o   w3 else if a2 = 2 then xB (L_X5_setRinger_x31 o (a1) w) fun w1 => J_X1_befall_45 o   w1 else J_X1_befall_45 o   w
set_option maxRecDepth 20000 in
theorem C_X1_befall {G : aG} {Hf : wS → aH} {bx : Nat} {o : wO} {a1 : Int32} {a2 : Int32} {w : wS} {r : wS} (hG : aGood G) (E : EX Hf bx o) (hL : L_X1_befall o a1 a2 w = some r) : AC G M_X1_befall [.ref (bx + 30), .int a1, .int a2] (Hf w) (.inl none, Hf r) := by
  unfold L_X1_befall at hL
  refine AC.of (by decide) rfl (Nat.le_of_ble_eq_true rfl) ?_
  show AG G M_X1_befall 0 [some (.ref (bx + 30)), some (.int (a1)), some (.int (a2))] [] _ _
  refine g_iload_n dX1_befall_0 rfl rfl ?_
  refine g_if_ne (tgt := 15) dX1_befall_1 (by decide) (fun q6 => ?_) (fun q6 => ?_)
  · rw [if_neg q6] at hL
    refine g_iload_n dX1_befall_15 rfl rfl ?_
    refine g_iconst (v := 1) dX1_befall_16 (by decide) ?_
    refine g_icmp_ne (tgt := 32) dX1_befall_17 (by decide) (fun q4 => ?_) (fun q4 => ?_)
    · rw [if_neg q4] at hL
      refine g_iload_n dX1_befall_32 rfl rfl ?_
      refine g_none 2 ?_
      refine g_iconst (v := 2) dX1_befall_33 (by decide) ?_
      refine g_icmp_ne (tgt := 45) dX1_befall_34 (by decide) (fun q2 => ?_) (fun q2 => ?_)
      · rw [if_neg q2] at hL
        refine g_none 0 ?_
        refine g_none 1 ?_
        exact J_X1_befall_45_ok hG E hL 
      · rw [if_pos q2] at hL
        refine g_aload_n dX1_befall_37 rfl rfl ?_
        refine g_none 0 ?_
        refine s_getR (k := 30) (j := 0) E.1 rfl rfl f_X1_12 dX1_befall_38 ?_
        refine g_iload_n dX1_befall_41 rfl rfl ?_
        refine g_none 1 ?_
        obtain ⟨w1, hc, hL⟩ := xB_some hL
        refine g_callV (M' := M_X5_setRinger) (as := [.int (a1)]) (v := none) l_X1_119 kV_X5_setRinger (by decide) (C_X5_setRinger_x31 hG E hc) rfl (by have := E.1.1; omega) (E.1.2.1 _ 31 _ rfl) ⟨_, _, rfl⟩ (Nat.le_of_ble_eq_true rfl) dX1_befall_42 ?_
        exact J_X1_befall_45_ok hG E hL 
    · rw [if_pos q4] at hL
      refine g_none 2 ?_
      refine g_aload_n dX1_befall_20 rfl rfl ?_
      refine g_none 0 ?_
      refine s_getR (k := 30) (j := 0) E.1 rfl rfl f_X1_12 dX1_befall_21 ?_
      refine g_iload_n dX1_befall_24 rfl rfl ?_
      refine g_none 1 ?_
      refine g_iconst (v := 0) dX1_befall_25 (by decide) ?_
      obtain ⟨w3, hc, hL⟩ := xB_some hL
      refine g_callV (M' := M_X5_setHaste) (as := [.int (a1), .int (0)]) (v := none) l_X1_103 kV_X5_setHaste (by decide) (C_X5_setHaste_x31 hG E hc) rfl (by have := E.1.1; omega) (E.1.2.1 _ 31 _ rfl) ⟨_, _, rfl⟩ (Nat.le_of_ble_eq_true rfl) dX1_befall_26 ?_
      refine g_goto (tgt := 45) dX1_befall_29 (by decide) ?_
      exact J_X1_befall_45_ok hG E hL 
  · rw [if_pos q6] at hL
    refine g_none 2 ?_
    refine g_aload_n dX1_befall_4 rfl rfl ?_
    refine g_none 0 ?_
    refine s_getR (k := 30) (j := 0) E.1 rfl rfl f_X1_12 dX1_befall_5 ?_
    refine g_iload_n dX1_befall_8 rfl rfl ?_
    refine g_none 1 ?_
    obtain ⟨w5, hc, hL⟩ := xB_some hL
    refine g_callV (M' := M_X5_turnHealth) (as := [.int (a1)]) (v := none) l_X1_184 kV_X5_turnHealth (by decide) (C_X5_turnHealth_x31 hG E hc) rfl (by have := E.1.1; omega) (E.1.2.1 _ 31 _ rfl) ⟨_, _, rfl⟩ (Nat.le_of_ble_eq_true rfl) dX1_befall_9 ?_
    refine g_goto (tgt := 45) dX1_befall_12 (by decide) ?_
    exact J_X1_befall_45_ok hG E hL 
def J_X9_whoHasRungMost_x31_35 (o : wO) (kh4 : Int32 → Int32 → wS → Option (Int32 × wS)) (ke41 : Int32 → wS → Option (Int32 × wS)) (x2 : Int32) (x3 : Int32) (w : wS) : Option (Int32 × wS) :=
  kh4 (x2) ((x3 + 1)) w
set_option maxRecDepth 20000 in
theorem J_X9_whoHasRungMost_x31_35_ok {G : aG} {Hf : wS → aH} {bx : Nat} {o : wO} {kh4 : Int32 → Int32 → wS → Option (Int32 × wS)} {ke41 : Int32 → wS → Option (Int32 × wS)} {x2 : Int32} {x3 : Int32} {w : wS} {r : Int32 × wS} (hG : aGood G) (E : EX Hf bx o) (hL : J_X9_whoHasRungMost_x31_35 o kh4 ke41 x2 x3 w = some r) (Hkh4 : ∀ (z0 : Int32) (z1 : Int32) (w : wS), kh4 z0 z1 w = some r → AG G M_X9_whoHasRungMost 4 [some (.ref (bx + 0)), some (.ref (bx + 31)), some (.int (z0)), some (.int (z1))] [] (Hf w) (.inl (some (.int r.1)), Hf r.2)) (Hke41 : ∀ (z0 : Int32) (w : wS), ke41 z0 w = some r → AG G M_X9_whoHasRungMost 41 [none, none, some (.int (z0)), none] [] (Hf w) (.inl (some (.int r.1)), Hf r.2)) : AG G M_X9_whoHasRungMost 35 [some (.ref (bx + 0)), some (.ref (bx + 31)), some (.int (x2)), some (.int (x3))] [] (Hf w) (.inl (some (.int r.1)), Hf r.2) := by
  unfold J_X9_whoHasRungMost_x31_35 at hL
  refine g_iincV (v := (x3 + 1)) dX9_whoHasRungMost_35 rfl rfl (by decide) rfl ?_
  refine g_goto (tgt := 4) dX9_whoHasRungMost_38 (by decide) ?_
  exact Hkh4 _ _ _ hL
def J_X9_whoHasRungMost_x31_33 (o : wO) (kh4 : Int32 → Int32 → wS → Option (Int32 × wS)) (ke41 : Int32 → wS → Option (Int32 × wS)) (x3 : Int32) (w : wS) : Option (Int32 × wS) :=
  J_X9_whoHasRungMost_x31_35 o kh4 ke41 (x3) (x3) w
set_option maxRecDepth 20000 in
theorem J_X9_whoHasRungMost_x31_33_ok {G : aG} {Hf : wS → aH} {bx : Nat} {o : wO} {kh4 : Int32 → Int32 → wS → Option (Int32 × wS)} {ke41 : Int32 → wS → Option (Int32 × wS)} {x3 : Int32} {w : wS} {r : Int32 × wS} (hG : aGood G) (E : EX Hf bx o) (hL : J_X9_whoHasRungMost_x31_33 o kh4 ke41 x3 w = some r) (Hkh4 : ∀ (z0 : Int32) (z1 : Int32) (w : wS), kh4 z0 z1 w = some r → AG G M_X9_whoHasRungMost 4 [some (.ref (bx + 0)), some (.ref (bx + 31)), some (.int (z0)), some (.int (z1))] [] (Hf w) (.inl (some (.int r.1)), Hf r.2)) (Hke41 : ∀ (z0 : Int32) (w : wS), ke41 z0 w = some r → AG G M_X9_whoHasRungMost 41 [none, none, some (.int (z0)), none] [] (Hf w) (.inl (some (.int r.1)), Hf r.2)) : AG G M_X9_whoHasRungMost 33 [some (.ref (bx + 0)), some (.ref (bx + 31)), none, some (.int (x3))] [] (Hf w) (.inl (some (.int r.1)), Hf r.2) := by
  unfold J_X9_whoHasRungMost_x31_33 at hL
  refine g_iload_n dX9_whoHasRungMost_33 rfl rfl ?_
  refine g_istore_n (i := 2) dX9_whoHasRungMost_34 rfl (by decide) rfl ?_
  exact J_X9_whoHasRungMost_x31_35_ok hG E hL Hkh4 Hke41
def B_X9_whoHasRungMost_x31_4 (o : wO) (kh4 : Int32 → Int32 → wS → Option (Int32 × wS)) (ke41 : Int32 → wS → Option (Int32 × wS)) (x2 : Int32) (x3 : Int32) (w : wS) : Option (Int32 × wS) :=
  xIf (xRef w 9 (oT o + 0)) (xB (xGet w 100006) fun v1 => if v1 ≤ x3 then ke41 (x2) w else if x2 = (-1) then J_X9_whoHasRungMost_x31_33 o kh4 ke41 (x3) w else xB2 (L_X5_rungOf_x31 o (x3) w) fun v2 w3 => xB2 (L_X5_rungOf_x31 o (x2) w3) fun v4 w5 => if v2 ≤ v4 then J_X9_whoHasRungMost_x31_35 o kh4 ke41 (x2) (x3) w5 else J_X9_whoHasRungMost_x31_33 o kh4 ke41 (x3) w5)
set_option maxRecDepth 20000 in
theorem B_X9_whoHasRungMost_x31_4_ok {G : aG} {Hf : wS → aH} {bx : Nat} {o : wO} {kh4 : Int32 → Int32 → wS → Option (Int32 × wS)} {ke41 : Int32 → wS → Option (Int32 × wS)} {x2 : Int32} {x3 : Int32} {w : wS} {r : Int32 × wS} (hG : aGood G) (E : EX Hf bx o) (hL : B_X9_whoHasRungMost_x31_4 o kh4 ke41 x2 x3 w = some r) (Hkh4 : ∀ (z0 : Int32) (z1 : Int32) (w : wS), kh4 z0 z1 w = some r → AG G M_X9_whoHasRungMost 4 [some (.ref (bx + 0)), some (.ref (bx + 31)), some (.int (z0)), some (.int (z1))] [] (Hf w) (.inl (some (.int r.1)), Hf r.2)) (Hke41 : ∀ (z0 : Int32) (w : wS), ke41 z0 w = some r → AG G M_X9_whoHasRungMost 41 [none, none, some (.int (z0)), none] [] (Hf w) (.inl (some (.int r.1)), Hf r.2)) : AG G M_X9_whoHasRungMost 4 [some (.ref (bx + 0)), some (.ref (bx + 31)), some (.int (x2)), some (.int (x3))] [] (Hf w) (.inl (some (.int r.1)), Hf r.2) := by
  unfold B_X9_whoHasRungMost_x31_4 at hL
  refine g_iload_n dX9_whoHasRungMost_4 rfl rfl ?_
  refine g_aload_n dX9_whoHasRungMost_5 rfl rfl ?_
  refine s_getT (k := 0) (j := 9) E.1 hL rfl rfl f_X9_55 dX9_whoHasRungMost_6 ?_
  intro hL
  refine s_getI (k := 0) (j := 6) E.2.1 hL rfl rfl f_X9_99 dX9_whoHasRungMost_9 ?_
  intro v1 hL
  refine g_icmp_ge (tgt := 41) dX9_whoHasRungMost_12 (by decide) (fun q8 => ?_) (fun q8 => ?_)
  · rw [if_pos q8] at hL
    refine g_none 0 ?_
    refine g_none 1 ?_
    refine g_none 3 ?_
    exact Hke41 _ _ hL
  · rw [if_neg q8] at hL
    refine g_iload_n dX9_whoHasRungMost_15 rfl rfl ?_
    refine g_iconst (v := (-1)) dX9_whoHasRungMost_16 (by decide) ?_
    refine g_icmp_eq (tgt := 33) dX9_whoHasRungMost_17 (by decide) (fun q7 => ?_) (fun q7 => ?_)
    · rw [if_pos q7] at hL
      refine g_none 2 ?_
      exact J_X9_whoHasRungMost_x31_33_ok hG E hL Hkh4 Hke41
    · rw [if_neg q7] at hL
      refine g_aload_n dX9_whoHasRungMost_20 rfl rfl ?_
      refine g_iload_n dX9_whoHasRungMost_21 rfl rfl ?_
      obtain ⟨v2, w3, hc, hL⟩ := xB2_some hL
      refine g_callV (M' := M_X5_rungOf) (as := [.int (x3)]) (v := some (.int (v2))) l_X9_163 kV_X5_rungOf (by decide) (C_X5_rungOf_x31 hG E hc) rfl (by have := E.1.1; omega) (E.1.2.1 _ 31 _ rfl) ⟨_, _, rfl⟩ (Nat.le_of_ble_eq_true rfl) dX9_whoHasRungMost_22 ?_
      refine g_aload_n dX9_whoHasRungMost_25 rfl rfl ?_
      refine g_iload_n dX9_whoHasRungMost_26 rfl rfl ?_
      obtain ⟨v4, w5, hc, hL⟩ := xB2_some hL
      refine g_callV (M' := M_X5_rungOf) (as := [.int (x2)]) (v := some (.int (v4))) l_X9_163 kV_X5_rungOf (by decide) (C_X5_rungOf_x31 hG E hc) rfl (by have := E.1.1; omega) (E.1.2.1 _ 31 _ rfl) ⟨_, _, rfl⟩ (Nat.le_of_ble_eq_true rfl) dX9_whoHasRungMost_27 ?_
      refine g_icmp_le (tgt := 35) dX9_whoHasRungMost_30 (by decide) (fun q6 => ?_) (fun q6 => ?_)
      · rw [if_pos q6] at hL
        exact J_X9_whoHasRungMost_x31_35_ok hG E hL Hkh4 Hke41
      · rw [if_neg q6] at hL
        refine g_none 2 ?_
        exact J_X9_whoHasRungMost_x31_33_ok hG E hL Hkh4 Hke41
def P_X9_whoHasRungMost_x31_4 (o : wO) (ke41 : Int32 → wS → Option (Int32 × wS)) (n : Nat) (x2 : Int32) (x3 : Int32) (w : wS) : Option (Int32 × wS) :=
  xLoop (fun (kk : Int32 × Int32 × wS → Option (Int32 × wS)) σ => B_X9_whoHasRungMost_x31_4 o (fun x2 x3 w => kk (x2, x3, w)) ke41 (σ.1) (σ.2.1) (σ.2.2)) n (x2, x3, w)
theorem P_X9_whoHasRungMost_x31_4_ok {G : aG} {Hf : wS → aH} {bx : Nat} {o : wO} {ke41 : Int32 → wS → Option (Int32 × wS)} {n : Nat} {x2 : Int32} {x3 : Int32} {w : wS} {r : Int32 × wS} (hG : aGood G) (E : EX Hf bx o) (hL : P_X9_whoHasRungMost_x31_4 o ke41 n x2 x3 w = some r) (Hke41 : ∀ (z0 : Int32) (w : wS), ke41 z0 w = some r → AG G M_X9_whoHasRungMost 41 [none, none, some (.int (z0)), none] [] (Hf w) (.inl (some (.int r.1)), Hf r.2)) : AG G M_X9_whoHasRungMost 4 [some (.ref (bx + 0)), some (.ref (bx + 31)), some (.int (x2)), some (.int (x3))] [] (Hf w) (.inl (some (.int r.1)), Hf r.2) :=
  xLoop_ok (Q := fun (σ : Int32 × Int32 × wS) => AG G M_X9_whoHasRungMost 4 [some (.ref (bx + 0)), some (.ref (bx + 31)), some (.int (σ.1)), some (.int (σ.2.1))] [] (Hf σ.2.2) (.inl (some (.int r.1)), Hf r.2)) (fun kk hk σ hσ => B_X9_whoHasRungMost_x31_4_ok hG E hσ (fun x2 x3 w h9 => hk (x2, x3, w) h9) Hke41) n (x2, x3, w) hL
def L_X9_whoHasRungMost_x31 (o : wO) (w : wS) : Option (Int32 × wS) :=
  P_X9_whoHasRungMost_x31_4 o (fun z9 w10 => some (z9, w10)) 5000 ((-1)) (0) w
set_option maxRecDepth 20000 in
theorem C_X9_whoHasRungMost_x31 {G : aG} {Hf : wS → aH} {bx : Nat} {o : wO} {w : wS} {r : Int32 × wS} (hG : aGood G) (E : EX Hf bx o) (hL : L_X9_whoHasRungMost_x31 o  w = some r) : AC G M_X9_whoHasRungMost [.ref (bx + 0), .ref (bx + 31)] (Hf w) (.inl (some (.int r.1)), Hf r.2) := by
  unfold L_X9_whoHasRungMost_x31 at hL
  refine AC.of (by decide) rfl (Nat.le_of_ble_eq_true rfl) ?_
  show AG G M_X9_whoHasRungMost 0 [some (.ref (bx + 0)), some (.ref (bx + 31)), none, none] [] _ _
  refine g_iconst (v := (-1)) dX9_whoHasRungMost_0 (by decide) ?_
  refine g_istore_n (i := 2) dX9_whoHasRungMost_1 rfl (by decide) rfl ?_
  refine g_iconst (v := 0) dX9_whoHasRungMost_2 (by decide) ?_
  refine g_istore_n (i := 3) dX9_whoHasRungMost_3 rfl (by decide) rfl ?_
  refine P_X9_whoHasRungMost_x31_4_ok hG E hL ?_
  · intro z9 w10 hL
    refine g_iload_n dX9_whoHasRungMost_41 rfl rfl ?_
    refine g_none 2 ?_
    obtain rfl := Option.some.inj hL
    exact g_iret rfl dX9_whoHasRungMost_42
def B_X9_hasteOfAll_x31_4 (o : wO) (kh4 : Int32 → Int32 → wS → Option (Int32 × wS)) (ke29 : Int32 → wS → Option (Int32 × wS)) (x2 : Int32) (x3 : Int32) (w : wS) : Option (Int32 × wS) :=
  xIf (xRef w 9 (oT o + 0)) (xB (xGet w 100006) fun v1 => if v1 ≤ x3 then ke29 (x2) w else xB2 (L_X5_hasteOf_x31 o (x3) w) fun v2 w3 => kh4 ((x2 + v2)) ((x3 + 1)) w3)
set_option maxRecDepth 20000 in
theorem B_X9_hasteOfAll_x31_4_ok {G : aG} {Hf : wS → aH} {bx : Nat} {o : wO} {kh4 : Int32 → Int32 → wS → Option (Int32 × wS)} {ke29 : Int32 → wS → Option (Int32 × wS)} {x2 : Int32} {x3 : Int32} {w : wS} {r : Int32 × wS} (hG : aGood G) (E : EX Hf bx o) (hL : B_X9_hasteOfAll_x31_4 o kh4 ke29 x2 x3 w = some r) (Hkh4 : ∀ (z0 : Int32) (z1 : Int32) (w : wS), kh4 z0 z1 w = some r → AG G M_X9_hasteOfAll 4 [some (.ref (bx + 0)), some (.ref (bx + 31)), some (.int (z0)), some (.int (z1))] [] (Hf w) (.inl (some (.int r.1)), Hf r.2)) (Hke29 : ∀ (z0 : Int32) (w : wS), ke29 z0 w = some r → AG G M_X9_hasteOfAll 29 [none, none, some (.int (z0)), none] [] (Hf w) (.inl (some (.int r.1)), Hf r.2)) : AG G M_X9_hasteOfAll 4 [some (.ref (bx + 0)), some (.ref (bx + 31)), some (.int (x2)), some (.int (x3))] [] (Hf w) (.inl (some (.int r.1)), Hf r.2) := by
  unfold B_X9_hasteOfAll_x31_4 at hL
  refine g_iload_n dX9_hasteOfAll_4 rfl rfl ?_
  refine g_aload_n dX9_hasteOfAll_5 rfl rfl ?_
  refine s_getT (k := 0) (j := 9) E.1 hL rfl rfl f_X9_55 dX9_hasteOfAll_6 ?_
  intro hL
  refine s_getI (k := 0) (j := 6) E.2.1 hL rfl rfl f_X9_99 dX9_hasteOfAll_9 ?_
  intro v1 hL
  refine g_icmp_ge (tgt := 29) dX9_hasteOfAll_12 (by decide) (fun q4 => ?_) (fun q4 => ?_)
  · rw [if_pos q4] at hL
    refine g_none 0 ?_
    refine g_none 1 ?_
    refine g_none 3 ?_
    exact Hke29 _ _ hL
  · rw [if_neg q4] at hL
    refine g_iload_n dX9_hasteOfAll_15 rfl rfl ?_
    refine g_none 2 ?_
    refine g_aload_n dX9_hasteOfAll_16 rfl rfl ?_
    refine g_iload_n dX9_hasteOfAll_17 rfl rfl ?_
    obtain ⟨v2, w3, hc, hL⟩ := xB2_some hL
    refine g_callV (M' := M_X5_hasteOf) (as := [.int (x3)]) (v := some (.int (v2))) l_X9_153 kV_X5_hasteOf (by decide) (C_X5_hasteOf_x31 hG E hc) rfl (by have := E.1.1; omega) (E.1.2.1 _ 31 _ rfl) ⟨_, _, rfl⟩ (Nat.le_of_ble_eq_true rfl) dX9_hasteOfAll_18 ?_
    refine g_iadd dX9_hasteOfAll_21 ?_
    refine g_istore_n (i := 2) dX9_hasteOfAll_22 rfl (by decide) rfl ?_
    refine g_iincV (v := (x3 + 1)) dX9_hasteOfAll_23 rfl rfl (by decide) rfl ?_
    refine g_goto (tgt := 4) dX9_hasteOfAll_26 (by decide) ?_
    exact Hkh4 _ _ _ hL
def P_X9_hasteOfAll_x31_4 (o : wO) (ke29 : Int32 → wS → Option (Int32 × wS)) (n : Nat) (x2 : Int32) (x3 : Int32) (w : wS) : Option (Int32 × wS) :=
  xLoop (fun (kk : Int32 × Int32 × wS → Option (Int32 × wS)) σ => B_X9_hasteOfAll_x31_4 o (fun x2 x3 w => kk (x2, x3, w)) ke29 (σ.1) (σ.2.1) (σ.2.2)) n (x2, x3, w)
theorem P_X9_hasteOfAll_x31_4_ok {G : aG} {Hf : wS → aH} {bx : Nat} {o : wO} {ke29 : Int32 → wS → Option (Int32 × wS)} {n : Nat} {x2 : Int32} {x3 : Int32} {w : wS} {r : Int32 × wS} (hG : aGood G) (E : EX Hf bx o) (hL : P_X9_hasteOfAll_x31_4 o ke29 n x2 x3 w = some r) (Hke29 : ∀ (z0 : Int32) (w : wS), ke29 z0 w = some r → AG G M_X9_hasteOfAll 29 [none, none, some (.int (z0)), none] [] (Hf w) (.inl (some (.int r.1)), Hf r.2)) : AG G M_X9_hasteOfAll 4 [some (.ref (bx + 0)), some (.ref (bx + 31)), some (.int (x2)), some (.int (x3))] [] (Hf w) (.inl (some (.int r.1)), Hf r.2) :=
  xLoop_ok (Q := fun (σ : Int32 × Int32 × wS) => AG G M_X9_hasteOfAll 4 [some (.ref (bx + 0)), some (.ref (bx + 31)), some (.int (σ.1)), some (.int (σ.2.1))] [] (Hf σ.2.2) (.inl (some (.int r.1)), Hf r.2)) (fun kk hk σ hσ => B_X9_hasteOfAll_x31_4_ok hG E hσ (fun x2 x3 w h9 => hk (x2, x3, w) h9) Hke29) n (x2, x3, w) hL
def L_X9_hasteOfAll_x31 (o : wO) (w : wS) : Option (Int32 × wS) :=
  P_X9_hasteOfAll_x31_4 o (fun z5 w6 => some (z5, w6)) 5000 (0) (0) w
set_option maxRecDepth 20000 in
theorem C_X9_hasteOfAll_x31 {G : aG} {Hf : wS → aH} {bx : Nat} {o : wO} {w : wS} {r : Int32 × wS} (hG : aGood G) (E : EX Hf bx o) (hL : L_X9_hasteOfAll_x31 o  w = some r) : AC G M_X9_hasteOfAll [.ref (bx + 0), .ref (bx + 31)] (Hf w) (.inl (some (.int r.1)), Hf r.2) := by
  unfold L_X9_hasteOfAll_x31 at hL
  refine AC.of (by decide) rfl (Nat.le_of_ble_eq_true rfl) ?_
  show AG G M_X9_hasteOfAll 0 [some (.ref (bx + 0)), some (.ref (bx + 31)), none, none] [] _ _
  refine g_iconst (v := 0) dX9_hasteOfAll_0 (by decide) ?_
  refine g_istore_n (i := 2) dX9_hasteOfAll_1 rfl (by decide) rfl ?_
  refine g_iconst (v := 0) dX9_hasteOfAll_2 (by decide) ?_
  refine g_istore_n (i := 3) dX9_hasteOfAll_3 rfl (by decide) rfl ?_
  refine P_X9_hasteOfAll_x31_4_ok hG E hL ?_
  · intro z5 w6 hL
    refine g_iload_n dX9_hasteOfAll_29 rfl rfl ?_
    refine g_none 2 ?_
    obtain rfl := Option.some.inj hL
    exact g_iret rfl dX9_hasteOfAll_30
def J_X9_years_86 (o : wO) (kh27 : Int32 → Int32 → Int32 → Int32 → Int32 → wS → Option ((Int32 ⊕ String) × wS)) (ke107 : Int32 → Int32 → wS → Option ((Int32 ⊕ String) × wS)) (x2 : Int32) (x3 : Int32) (x5 : Int32) (x6 : Int32) (x7 : Int32) (w : wS) : Option ((Int32 ⊕ String) × wS) :=
  xB (L_X1_oneDay o  w) fun w1 => xB2 (L_X1_behindToday o  w1) fun v2 w3 => kh27 (x2) (x3) (x5) ((x6 + v2)) ((x7 + 1)) w3
set_option maxRecDepth 20000 in
theorem J_X9_years_86_ok {G : aG} {Hf : wS → aH} {bx : Nat} {o : wO} {kh27 : Int32 → Int32 → Int32 → Int32 → Int32 → wS → Option ((Int32 ⊕ String) × wS)} {ke107 : Int32 → Int32 → wS → Option ((Int32 ⊕ String) × wS)} {x2 : Int32} {x3 : Int32} {x5 : Int32} {x6 : Int32} {x7 : Int32} {w : wS} {r : (Int32 ⊕ String) × wS} (hG : aGood G) (E : EX Hf bx o) (hL : J_X9_years_86 o kh27 ke107 x2 x3 x5 x6 x7 w = some r) (Hkh27 : ∀ (z0 : Int32) (z1 : Int32) (z2 : Int32) (z3 : Int32) (z4 : Int32) (w : wS), kh27 z0 z1 z2 z3 z4 w = some r → AG G M_X9_years 27 [some (.ref (bx + 0)), none, some (.int (z0)), some (.int (z1)), some (.ref (bx + 30)), some (.int (z2)), some (.int (z3)), some (.int (z4)), none] [] (Hf w) (xRv Hf r)) (Hke107 : ∀ (z0 : Int32) (z1 : Int32) (w : wS), ke107 z0 z1 w = some r → AG G M_X9_years 107 [some (.ref (bx + 0)), none, none, some (.int (z0)), some (.ref (bx + 30)), none, some (.int (z1)), none, none] [] (Hf w) (xRv Hf r)) : AG G M_X9_years 86 [some (.ref (bx + 0)), none, some (.int (x2)), some (.int (x3)), some (.ref (bx + 30)), some (.int (x5)), some (.int (x6)), some (.int (x7)), none] [] (Hf w) (xRv Hf r) := by
  unfold J_X9_years_86 at hL
  refine g_aload dX9_years_86 rfl ?_
  obtain ⟨w1, hc, hL⟩ := xB_some hL
  refine g_callV (M' := M_X1_oneDay) (as := []) (v := none) l_X9_234 kV_X1_oneDay (by decide) (C_X1_oneDay hG E hc) rfl (by have := E.1.1; omega) (E.1.2.1 _ 30 _ rfl) ⟨_, _, rfl⟩ (Nat.le_of_ble_eq_true rfl) dX9_years_88 ?_
  refine g_iload dX9_years_91 rfl ?_
  refine g_none 6 ?_
  refine g_aload dX9_years_93 rfl ?_
  obtain ⟨v2, w3, hc, hL⟩ := xB2_some hL
  refine g_callV (M' := M_X1_behindToday) (as := []) (v := some (.int (v2))) l_X9_326 kV_X1_behindToday (by decide) (C_X1_behindToday hG E hc) rfl (by have := E.1.1; omega) (E.1.2.1 _ 30 _ rfl) ⟨_, _, rfl⟩ (Nat.le_of_ble_eq_true rfl) dX9_years_95 ?_
  refine g_iadd dX9_years_98 ?_
  refine g_istore (i := 6) dX9_years_99 (by decide) rfl ?_
  refine g_iincV (v := (x7 + 1)) dX9_years_101 rfl rfl (by decide) rfl ?_
  refine g_goto (tgt := 27) dX9_years_104 (by decide) ?_
  exact Hkh27 _ _ _ _ _ _ hL
def B_X9_years_27 (o : wO) (kh27 : Int32 → Int32 → Int32 → Int32 → Int32 → wS → Option ((Int32 ⊕ String) × wS)) (ke107 : Int32 → Int32 → wS → Option ((Int32 ⊕ String) × wS)) (x2 : Int32) (x3 : Int32) (x5 : Int32) (x6 : Int32) (x7 : Int32) (w : wS) : Option ((Int32 ⊕ String) × wS) :=
  if x2 ≤ x7 then ke107 (x3) (x6) w else xIf (xRef w 9 (oT o + 0)) (xB (xGet w 100006) fun v4 => if v4 ≤ 0 then J_X9_years_86 o kh27 ke107 (x2) (x3) (x5) (x6) (x7) w else xB (L_X9_seedBehind (x5)) fun v5 => xB (L_X9_bitsOf (v5)) fun v6 => xIf (xRef w 9 (oT o + 0)) (xB (xGet w 100006) fun v7 => xB (xRem (v6) (v7)) fun v8 => xB (L_X9_seedBehind (v5)) fun v9 => xB (L_X9_bitsOf (v9)) fun v10 => xB (xRem (v10) (5)) fun v11 => xB (L_X1_befall o (v8) (v11) w) fun w12 => J_X9_years_86 o kh27 ke107 (x2) (x3) (v9) (x6) (x7) w12))
set_option maxRecDepth 20000 in
theorem B_X9_years_27_ok {G : aG} {Hf : wS → aH} {bx : Nat} {o : wO} {kh27 : Int32 → Int32 → Int32 → Int32 → Int32 → wS → Option ((Int32 ⊕ String) × wS)} {ke107 : Int32 → Int32 → wS → Option ((Int32 ⊕ String) × wS)} {x2 : Int32} {x3 : Int32} {x5 : Int32} {x6 : Int32} {x7 : Int32} {w : wS} {r : (Int32 ⊕ String) × wS} (hG : aGood G) (E : EX Hf bx o) (hL : B_X9_years_27 o kh27 ke107 x2 x3 x5 x6 x7 w = some r) (Hkh27 : ∀ (z0 : Int32) (z1 : Int32) (z2 : Int32) (z3 : Int32) (z4 : Int32) (w : wS), kh27 z0 z1 z2 z3 z4 w = some r → AG G M_X9_years 27 [some (.ref (bx + 0)), none, some (.int (z0)), some (.int (z1)), some (.ref (bx + 30)), some (.int (z2)), some (.int (z3)), some (.int (z4)), none] [] (Hf w) (xRv Hf r)) (Hke107 : ∀ (z0 : Int32) (z1 : Int32) (w : wS), ke107 z0 z1 w = some r → AG G M_X9_years 107 [some (.ref (bx + 0)), none, none, some (.int (z0)), some (.ref (bx + 30)), none, some (.int (z1)), none, none] [] (Hf w) (xRv Hf r)) : AG G M_X9_years 27 [some (.ref (bx + 0)), none, some (.int (x2)), some (.int (x3)), some (.ref (bx + 30)), some (.int (x5)), some (.int (x6)), some (.int (x7)), none] [] (Hf w) (xRv Hf r) := by
  unfold B_X9_years_27 at hL
  refine g_iload dX9_years_27 rfl ?_
  refine g_iload_n dX9_years_29 rfl rfl ?_
  refine g_icmp_ge (tgt := 107) dX9_years_30 (by decide) (fun q14 => ?_) (fun q14 => ?_)
  · rw [if_pos q14] at hL
    refine g_none 2 ?_
    refine g_none 5 ?_
    refine g_none 7 ?_
    exact Hke107 _ _ _ hL
  · rw [if_neg q14] at hL
    refine g_aload_n dX9_years_33 rfl rfl ?_
    refine s_getT (k := 0) (j := 9) E.1 hL rfl rfl f_X9_55 dX9_years_34 ?_
    intro hL
    refine s_getI (k := 0) (j := 6) E.2.1 hL rfl rfl f_X9_99 dX9_years_37 ?_
    intro v4 hL
    refine g_if_le (tgt := 86) dX9_years_40 (by decide) (fun q13 => ?_) (fun q13 => ?_)
    · rw [if_pos q13] at hL
      exact J_X9_years_86_ok hG E hL Hkh27 Hke107
    · rw [if_neg q13] at hL
      refine g_iload dX9_years_43 rfl ?_
      refine g_none 5 ?_
      obtain ⟨v5, hc, hL⟩ := xB_some hL
      refine g_callS (M' := M_X9_seedBehind) (as := [.int (x5)]) (v := some (.int (v5))) l_X9_317 kS_X9_seedBehind (by decide) (C_X9_seedBehind hc) rfl (Nat.le_of_ble_eq_true rfl) dX9_years_45 ?_
      refine g_istore (i := 5) dX9_years_48 (by decide) rfl ?_
      refine g_iload dX9_years_50 rfl ?_
      obtain ⟨v6, hc, hL⟩ := xB_some hL
      refine g_callS (M' := M_X9_bitsOf) (as := [.int (v5)]) (v := some (.int (v6))) l_X9_320 kS_X9_bitsOf (by decide) (C_X9_bitsOf hc) rfl (Nat.le_of_ble_eq_true rfl) dX9_years_52 ?_
      refine g_aload_n dX9_years_55 rfl rfl ?_
      refine s_getT (k := 0) (j := 9) E.1 hL rfl rfl f_X9_55 dX9_years_56 ?_
      intro hL
      refine s_getI (k := 0) (j := 6) E.2.1 hL rfl rfl f_X9_99 dX9_years_59 ?_
      intro v7 hL
      refine s_irem hL dX9_years_62 ?_
      intro v8 hL
      refine g_istore (i := 8) dX9_years_63 (by decide) rfl ?_
      refine g_iload dX9_years_65 rfl ?_
      refine g_none 5 ?_
      obtain ⟨v9, hc, hL⟩ := xB_some hL
      refine g_callS (M' := M_X9_seedBehind) (as := [.int (v5)]) (v := some (.int (v9))) l_X9_317 kS_X9_seedBehind (by decide) (C_X9_seedBehind hc) rfl (Nat.le_of_ble_eq_true rfl) dX9_years_67 ?_
      refine g_istore (i := 5) dX9_years_70 (by decide) rfl ?_
      refine g_aload dX9_years_72 rfl ?_
      refine g_iload dX9_years_74 rfl ?_
      refine g_none 8 ?_
      refine g_iload dX9_years_76 rfl ?_
      obtain ⟨v10, hc, hL⟩ := xB_some hL
      refine g_callS (M' := M_X9_bitsOf) (as := [.int (v9)]) (v := some (.int (v10))) l_X9_320 kS_X9_bitsOf (by decide) (C_X9_bitsOf hc) rfl (Nat.le_of_ble_eq_true rfl) dX9_years_78 ?_
      refine g_iconst (v := 5) dX9_years_81 (by decide) ?_
      refine s_irem hL dX9_years_82 ?_
      intro v11 hL
      obtain ⟨w12, hc, hL⟩ := xB_some hL
      refine g_callV (M' := M_X1_befall) (as := [.int (v8), .int (v11)]) (v := none) l_X9_323 kV_X1_befall (by decide) (C_X1_befall hG E hc) rfl (by have := E.1.1; omega) (E.1.2.1 _ 30 _ rfl) ⟨_, _, rfl⟩ (Nat.le_of_ble_eq_true rfl) dX9_years_83 ?_
      exact J_X9_years_86_ok hG E hL Hkh27 Hke107
def P_X9_years_27 (o : wO) (ke107 : Int32 → Int32 → wS → Option ((Int32 ⊕ String) × wS)) (n : Nat) (x2 : Int32) (x3 : Int32) (x5 : Int32) (x6 : Int32) (x7 : Int32) (w : wS) : Option ((Int32 ⊕ String) × wS) :=
  xLoop (fun (kk : Int32 × Int32 × Int32 × Int32 × Int32 × wS → Option ((Int32 ⊕ String) × wS)) σ => B_X9_years_27 o (fun x2 x3 x5 x6 x7 w => kk (x2, x3, x5, x6, x7, w)) ke107 (σ.1) (σ.2.1) (σ.2.2.1) (σ.2.2.2.1) (σ.2.2.2.2.1) (σ.2.2.2.2.2)) n (x2, x3, x5, x6, x7, w)
theorem P_X9_years_27_ok {G : aG} {Hf : wS → aH} {bx : Nat} {o : wO} {ke107 : Int32 → Int32 → wS → Option ((Int32 ⊕ String) × wS)} {n : Nat} {x2 : Int32} {x3 : Int32} {x5 : Int32} {x6 : Int32} {x7 : Int32} {w : wS} {r : (Int32 ⊕ String) × wS} (hG : aGood G) (E : EX Hf bx o) (hL : P_X9_years_27 o ke107 n x2 x3 x5 x6 x7 w = some r) (Hke107 : ∀ (z0 : Int32) (z1 : Int32) (w : wS), ke107 z0 z1 w = some r → AG G M_X9_years 107 [some (.ref (bx + 0)), none, none, some (.int (z0)), some (.ref (bx + 30)), none, some (.int (z1)), none, none] [] (Hf w) (xRv Hf r)) : AG G M_X9_years 27 [some (.ref (bx + 0)), none, some (.int (x2)), some (.int (x3)), some (.ref (bx + 30)), some (.int (x5)), some (.int (x6)), some (.int (x7)), none] [] (Hf w) (xRv Hf r) :=
  xLoop_ok (Q := fun (σ : Int32 × Int32 × Int32 × Int32 × Int32 × wS) => AG G M_X9_years 27 [some (.ref (bx + 0)), none, some (.int (σ.1)), some (.int (σ.2.1)), some (.ref (bx + 30)), some (.int (σ.2.2.1)), some (.int (σ.2.2.2.1)), some (.int (σ.2.2.2.2.1)), none] [] (Hf σ.2.2.2.2.2) (xRv Hf r)) (fun kk hk σ hσ => B_X9_years_27_ok hG E hσ (fun x2 x3 x5 x6 x7 w h9 => hk (x2, x3, x5, x6, x7, w) h9) Hke107) n (x2, x3, x5, x6, x7, w) hL
def L_X9_years (o : wO) (a1 : Int32) (a2 : Int32) (a3 : Int32) (w : wS) : Option ((Int32 ⊕ String) × wS) :=
  xBT (L_X9_needWhat (a3) (2)) (fun E9 => some (.inr E9, w)) (xBT (L_X9_needRange (a2) (0) (40)) (fun E9 => some (.inr E9, w)) (xB (L_X9_fromNow o  w) fun w15 => P_X9_years_27 o (fun z16 z17 w18 => if z16 = 0 then xB2 (L_X9_whoHasRungMost_x31 o  w18) fun v20 w21 => some (.inl (v20), w21) else if z16 = 1 then some (.inl (z17), w18) else xB2 (L_X9_hasteOfAll_x31 o  w18) fun v23 w24 => some (.inl (v23), w24)) 5000 (a2) (a3) (a1) (0) (0) w15))
set_option maxRecDepth 20000 in
theorem C_X9_years {G : aG} {Hf : wS → aH} {bx : Nat} {o : wO} {a1 : Int32} {a2 : Int32} {a3 : Int32} {w : wS} {r : (Int32 ⊕ String) × wS} (hG : aGood G) (E : EX Hf bx o) (hL : L_X9_years o a1 a2 a3 w = some r) : AC G M_X9_years [.ref (bx + 0), .int a1, .int a2, .int a3] (Hf w) (xRv Hf r) := by
  unfold L_X9_years at hL
  refine AC.of (by decide) rfl (Nat.le_of_ble_eq_true rfl) ?_
  show AG G M_X9_years 0 [some (.ref (bx + 0)), some (.int (a1)), some (.int (a2)), some (.int (a3)), none, none, none, none, none] [] _ _
  refine g_iload_n dX9_years_0 rfl rfl ?_
  refine g_iconst (v := 2) dX9_years_1 (by decide) ?_
  rcases xBT_some hL with ⟨hc, hL⟩ | ⟨E9, hc, hL⟩
  · refine g_callS (M' := M_X9_needWhat) (as := [.int (a3), .int (2)]) (v := none) l_X9_221 kS_X9_needWhat (by decide) (C_X9_needWhat hG hc) rfl (Nat.le_of_ble_eq_true rfl) dX9_years_2 ?_
    refine g_iload_n dX9_years_5 rfl rfl ?_
    refine g_iconst (v := 0) dX9_years_6 (by decide) ?_
    refine g_bipush (v := 40) dX9_years_7 (by decide) ?_
    rcases xBT_some hL with ⟨hc, hL⟩ | ⟨E9, hc, hL⟩
    · refine g_callS (M' := M_X9_needRange) (as := [.int (a2), .int (0), .int (40)]) (v := none) l_X9_224 kS_X9_needRange (by decide) (C_X9_needRange hG hc) rfl (Nat.le_of_ble_eq_true rfl) dX9_years_9 ?_
      refine g_aload_n dX9_years_12 rfl rfl ?_
      obtain ⟨w15, hc, hL⟩ := xB_some hL
      refine g_callV (M' := M_X9_fromNow) (as := []) (v := some (.ref (bx + 30))) l_X9_193 kV_X9_fromNow (by decide) (C_X9_fromNow hG E hc) rfl (by have := E.1.1; omega) (E.1.2.1 _ 0 _ rfl) ⟨_, _, rfl⟩ (Nat.le_of_ble_eq_true rfl) dX9_years_13 ?_
      refine g_astore (i := 4) dX9_years_16 (by decide) rfl ?_
      refine g_iload_n dX9_years_18 rfl rfl ?_
      refine g_none 1 ?_
      refine g_istore (i := 5) dX9_years_19 (by decide) rfl ?_
      refine g_iconst (v := 0) dX9_years_21 (by decide) ?_
      refine g_istore (i := 6) dX9_years_22 (by decide) rfl ?_
      refine g_iconst (v := 0) dX9_years_24 (by decide) ?_
      refine g_istore (i := 7) dX9_years_25 (by decide) rfl ?_
      refine P_X9_years_27_ok hG E hL ?_
      · intro z16 z17 w18 hL
        refine g_iload_n dX9_years_107 rfl rfl ?_
        refine g_none 3 ?_
        by_cases q19 : z16 = 0
        · rw [if_pos q19] at hL
          refine g_lookup (off := 28) (tgt := 136) dX9_years_108 (by decide +kernel) (by rw [q19]; decide +kernel) (by decide) ?_
          refine g_none 6 ?_
          refine g_aload_n dX9_years_136 rfl rfl ?_
          refine g_none 0 ?_
          refine g_aload dX9_years_137 rfl ?_
          refine g_none 4 ?_
          refine s_getR (k := 30) (j := 0) E.1 rfl rfl f_X9_200 dX9_years_139 ?_
          obtain ⟨v20, w21, hc, hL⟩ := xB2_some hL
          refine g_callV (M' := M_X9_whoHasRungMost) (as := [.ref (bx + 31)]) (v := some (.int (v20))) l_X9_329 kV_X9_whoHasRungMost (by decide) (C_X9_whoHasRungMost_x31 hG E hc) rfl (by have := E.1.1; omega) (E.1.2.1 _ 0 _ rfl) ⟨_, _, rfl⟩ (Nat.le_of_ble_eq_true rfl) dX9_years_142 ?_
          obtain rfl := Option.some.inj hL
          exact g_iret rfl dX9_years_145
        rw [if_neg q19] at hL
        by_cases q22 : z16 = 1
        · rw [if_pos q22] at hL
          refine g_lookup (off := 38) (tgt := 146) dX9_years_108 (by decide +kernel) (by rw [q22]; decide +kernel) (by decide) ?_
          refine g_none 0 ?_
          refine g_none 4 ?_
          refine g_iload dX9_years_146 rfl ?_
          refine g_none 6 ?_
          obtain rfl := Option.some.inj hL
          exact g_iret rfl dX9_years_148
        rw [if_neg q22] at hL
        refine g_lookup (off := 41) (tgt := 149) dX9_years_108 (by decide +kernel) (by show Op.lookupswitch.offset [(0, 28), (1, 38)] (41) _ = _; rw [lv_osw (k := 0) q19 (by decide), lv_osw (k := 1) q22 (by decide)]; rfl) (by decide) ?_
        refine g_none 6 ?_
        refine g_aload_n dX9_years_149 rfl rfl ?_
        refine g_none 0 ?_
        refine g_aload dX9_years_150 rfl ?_
        refine g_none 4 ?_
        refine s_getR (k := 30) (j := 0) E.1 rfl rfl f_X9_200 dX9_years_152 ?_
        obtain ⟨v23, w24, hc, hL⟩ := xB2_some hL
        refine g_callV (M' := M_X9_hasteOfAll) (as := [.ref (bx + 31)]) (v := some (.int (v23))) l_X9_122 kV_X9_hasteOfAll (by decide) (C_X9_hasteOfAll_x31 hG E hc) rfl (by have := E.1.1; omega) (E.1.2.1 _ 0 _ rfl) ⟨_, _, rfl⟩ (Nat.le_of_ble_eq_true rfl) dX9_years_155 ?_
        obtain rfl := Option.some.inj hL
        exact g_iret rfl dX9_years_158
    · obtain rfl := Option.some.inj hL
      exact g_callSX (M' := M_X9_needRange) (as := [.int (a2), .int (0), .int (40)]) (E := E9) (aIn1 1037 (by decide +kernel) rfl) kS_X9_needRange (by decide) rfl (C_X9_needRange hG hc) rfl (Nat.le_of_ble_eq_true rfl) dX9_years_9
  · obtain rfl := Option.some.inj hL
    exact g_callSX (M' := M_X9_needWhat) (as := [.int (a3), .int (2)]) (E := E9) (aIn1 1033 (by decide +kernel) rfl) kS_X9_needWhat (by decide) rfl (C_X9_needWhat hG hc) rfl (Nat.le_of_ble_eq_true rfl) dX9_years_2
