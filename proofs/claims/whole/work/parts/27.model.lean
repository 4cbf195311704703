def J_X10_snow_159 (kh53 : Int32 → Int32 → Int32 → Int32 → Int32 → wS → Option (Int32 × wS)) (ke168 : Int32 → wS → Option (Int32 × wS)) (x1 : Int32) (x2 : Int32) (x3 : Int32) (x5 : Int32) (y0 : Int32) (y1 : Int32) (w : wS) : Option (Int32 × wS) :=
  kh53 (x1) (x2) (x3) ((y0 + y1)) ((x5 + 1)) w
set_option maxRecDepth 20000 in
theorem J_X10_snow_159_ok {G : aG} {Hf : wS → aH} {b : Nat} {kh53 : Int32 → Int32 → Int32 → Int32 → Int32 → wS → Option (Int32 × wS)} {ke168 : Int32 → wS → Option (Int32 × wS)} {x1 : Int32} {x2 : Int32} {x3 : Int32} {x5 : Int32} {y0 : Int32} {y1 : Int32} {w : wS} {r : Int32 × wS} (E : Emb Hf b 0 tbM) (hL : J_X10_snow_159 kh53 ke168 x1 x2 x3 x5 y0 y1 w = some r) (Hkh53 : ∀ (z0 : Int32) (z1 : Int32) (z2 : Int32) (z3 : Int32) (z4 : Int32) (w : wS), kh53 z0 z1 z2 z3 z4 w = some r → AG G M_X10_snow 53 [some (.ref (b + 0)), some (.int (z0)), some (.int (z1)), some (.int (z2)), some (.int (z3)), some (.int (z4)), none, none, none] [] (Hf w) (.inl (some (.int r.1)), Hf r.2)) (Hke168 : ∀ (z0 : Int32) (w : wS), ke168 z0 w = some r → AG G M_X10_snow 168 [some (.ref (b + 0)), none, none, none, some (.int (z0)), none, none, none, none] [] (Hf w) (.inl (some (.int r.1)), Hf r.2)) : AG G M_X10_snow 159 [some (.ref (b + 0)), some (.int (x1)), some (.int (x2)), some (.int (x3)), none, some (.int (x5)), none, none, none] [.int (y1), .int (y0)] (Hf w) (.inl (some (.int r.1)), Hf r.2) := by
  unfold J_X10_snow_159 at hL
  refine g_iadd dX10_snow_159 ?_
  refine g_istore (i := 4) dX10_snow_160 (by decide) rfl ?_
  refine g_iincV (v := (x5 + 1)) dX10_snow_162 rfl rfl (by decide) rfl ?_
  refine g_goto (tgt := 53) dX10_snow_165 (by decide) ?_
  exact Hkh53 _ _ _ _ _ _ hL
def J_X10_snow_125 (kh71 : Int32 → Int32 → Int32 → Int32 → Int32 → Int32 → Int32 → wS → Option (Int32 × wS)) (ke140 : Int32 → Int32 → Int32 → Int32 → Int32 → Int32 → wS → Option (Int32 × wS)) (x1 : Int32) (x2 : Int32) (x3 : Int32) (x4 : Int32) (x5 : Int32) (x6 : Int32) (x7 : Int32) (y1 : Int32) (w : wS) : Option (Int32 × wS) :=
  xB (xPut w 52 (y1)) fun w1 => xB (L_X10_dayGoes (33) w1) fun w2 => kh71 (x1) (x2) (x3) (x4) (x5) (x6) ((x7 + 1)) w2
set_option maxRecDepth 20000 in
theorem J_X10_snow_125_ok {G : aG} {Hf : wS → aH} {b : Nat} {kh71 : Int32 → Int32 → Int32 → Int32 → Int32 → Int32 → Int32 → wS → Option (Int32 × wS)} {ke140 : Int32 → Int32 → Int32 → Int32 → Int32 → Int32 → wS → Option (Int32 × wS)} {x1 : Int32} {x2 : Int32} {x3 : Int32} {x4 : Int32} {x5 : Int32} {x6 : Int32} {x7 : Int32} {y1 : Int32} {w : wS} {r : Int32 × wS} (E : Emb Hf b 0 tbM) (hL : J_X10_snow_125 kh71 ke140 x1 x2 x3 x4 x5 x6 x7 y1 w = some r) (Hkh71 : ∀ (z0 : Int32) (z1 : Int32) (z2 : Int32) (z3 : Int32) (z4 : Int32) (z5 : Int32) (z6 : Int32) (w : wS), kh71 z0 z1 z2 z3 z4 z5 z6 w = some r → AG G M_X10_snow 71 [some (.ref (b + 0)), some (.int (z0)), some (.int (z1)), some (.int (z2)), some (.int (z3)), some (.int (z4)), some (.int (z5)), some (.int (z6)), none] [] (Hf w) (.inl (some (.int r.1)), Hf r.2)) (Hke140 : ∀ (z0 : Int32) (z1 : Int32) (z2 : Int32) (z3 : Int32) (z4 : Int32) (z5 : Int32) (w : wS), ke140 z0 z1 z2 z3 z4 z5 w = some r → AG G M_X10_snow 140 [some (.ref (b + 0)), some (.int (z0)), some (.int (z1)), some (.int (z2)), some (.int (z3)), some (.int (z4)), some (.int (z5)), none, none] [] (Hf w) (.inl (some (.int r.1)), Hf r.2)) : AG G M_X10_snow 125 [some (.ref (b + 0)), some (.int (x1)), some (.int (x2)), some (.int (x3)), some (.int (x4)), some (.int (x5)), some (.int (x6)), some (.int (x7)), none] [.int (y1), .ref (b + 0)] (Hf w) (.inl (some (.int r.1)), Hf r.2) := by
  unfold J_X10_snow_125 at hL
  refine s_putI (k := 0) (j := 52) E hL rfl rfl (by decide) fw_X10_318 rfl rfl dX10_snow_125 ?_
  intro w1 hL
  refine g_aload_n dX10_snow_128 rfl rfl ?_
  refine g_bipush (v := 33) dX10_snow_129 (by decide) ?_
  obtain ⟨w2, hc, hL⟩ := xB_some hL
  refine g_callV (M' := M_X10_dayGoes) (as := [.int (33)]) (v := none) l_X10_358 kV_X10_dayGoes (by decide) (C_X10_dayGoes E hc) rfl (by have := E.1; omega) (E.2.1 _ 0 _ rfl) ⟨_, _, rfl⟩ (Nat.le_of_ble_eq_true rfl) dX10_snow_131 ?_
  refine g_iincV (v := (x7 + 1)) dX10_snow_134 rfl rfl (by decide) rfl ?_
  refine g_goto (tgt := 71) dX10_snow_137 (by decide) ?_
  exact Hkh71 _ _ _ _ _ _ _ _ hL
def J_X10_snow_110 (kh71 : Int32 → Int32 → Int32 → Int32 → Int32 → Int32 → Int32 → wS → Option (Int32 × wS)) (ke140 : Int32 → Int32 → Int32 → Int32 → Int32 → Int32 → wS → Option (Int32 × wS)) (x1 : Int32) (x2 : Int32) (x3 : Int32) (x4 : Int32) (x5 : Int32) (x7 : Int32) (x8 : Int32) (y0 : Int32) (y1 : Int32) (w : wS) : Option (Int32 × wS) :=
  if x8 = 0 then J_X10_snow_125 kh71 ke140 (x1) (x2) (x3) (x4) (x5) ((y0 * y1)) (x7) (0) w else J_X10_snow_125 kh71 ke140 (x1) (x2) (x3) (x4) (x5) ((y0 * y1)) (x7) (15) w
set_option maxRecDepth 20000 in
theorem J_X10_snow_110_ok {G : aG} {Hf : wS → aH} {b : Nat} {kh71 : Int32 → Int32 → Int32 → Int32 → Int32 → Int32 → Int32 → wS → Option (Int32 × wS)} {ke140 : Int32 → Int32 → Int32 → Int32 → Int32 → Int32 → wS → Option (Int32 × wS)} {x1 : Int32} {x2 : Int32} {x3 : Int32} {x4 : Int32} {x5 : Int32} {x7 : Int32} {x8 : Int32} {y0 : Int32} {y1 : Int32} {w : wS} {r : Int32 × wS} (E : Emb Hf b 0 tbM) (hL : J_X10_snow_110 kh71 ke140 x1 x2 x3 x4 x5 x7 x8 y0 y1 w = some r) (Hkh71 : ∀ (z0 : Int32) (z1 : Int32) (z2 : Int32) (z3 : Int32) (z4 : Int32) (z5 : Int32) (z6 : Int32) (w : wS), kh71 z0 z1 z2 z3 z4 z5 z6 w = some r → AG G M_X10_snow 71 [some (.ref (b + 0)), some (.int (z0)), some (.int (z1)), some (.int (z2)), some (.int (z3)), some (.int (z4)), some (.int (z5)), some (.int (z6)), none] [] (Hf w) (.inl (some (.int r.1)), Hf r.2)) (Hke140 : ∀ (z0 : Int32) (z1 : Int32) (z2 : Int32) (z3 : Int32) (z4 : Int32) (z5 : Int32) (w : wS), ke140 z0 z1 z2 z3 z4 z5 w = some r → AG G M_X10_snow 140 [some (.ref (b + 0)), some (.int (z0)), some (.int (z1)), some (.int (z2)), some (.int (z3)), some (.int (z4)), some (.int (z5)), none, none] [] (Hf w) (.inl (some (.int r.1)), Hf r.2)) : AG G M_X10_snow 110 [some (.ref (b + 0)), some (.int (x1)), some (.int (x2)), some (.int (x3)), some (.int (x4)), some (.int (x5)), none, some (.int (x7)), some (.int (x8))] [.int (y1), .int (y0)] (Hf w) (.inl (some (.int r.1)), Hf r.2) := by
  unfold J_X10_snow_110 at hL
  refine g_imul dX10_snow_110 ?_
  refine g_istore (i := 6) dX10_snow_111 (by decide) rfl ?_
  refine g_aload_n dX10_snow_113 rfl rfl ?_
  refine g_iload dX10_snow_114 rfl ?_
  refine g_none 8 ?_
  refine g_if_eq (tgt := 124) dX10_snow_116 (by decide) (fun q3 => ?_) (fun q3 => ?_)
  · rw [if_pos q3] at hL
    refine g_iconst (v := 0) dX10_snow_124 (by decide) ?_
    exact J_X10_snow_125_ok E hL Hkh71 Hke140
  · rw [if_neg q3] at hL
    refine g_bipush (v := 15) dX10_snow_119 (by decide) ?_
    refine g_goto (tgt := 125) dX10_snow_121 (by decide) ?_
    exact J_X10_snow_125_ok E hL Hkh71 Hke140
def J_X10_snow_93 (kh71 : Int32 → Int32 → Int32 → Int32 → Int32 → Int32 → Int32 → wS → Option (Int32 × wS)) (ke140 : Int32 → Int32 → Int32 → Int32 → Int32 → Int32 → wS → Option (Int32 × wS)) (x1 : Int32) (x2 : Int32) (x3 : Int32) (x4 : Int32) (x5 : Int32) (x6 : Int32) (x7 : Int32) (y0 : Int32) (w : wS) : Option (Int32 × wS) :=
  if y0 = 0 then J_X10_snow_110 kh71 ke140 (x1) (x2) (x3) (x4) (x5) (x7) (y0) (x6) ((10 - x3)) w else J_X10_snow_110 kh71 ke140 (x1) (x2) (x3) (x4) (x5) (x7) (y0) (x6) (x3) w
set_option maxRecDepth 20000 in
theorem J_X10_snow_93_ok {G : aG} {Hf : wS → aH} {b : Nat} {kh71 : Int32 → Int32 → Int32 → Int32 → Int32 → Int32 → Int32 → wS → Option (Int32 × wS)} {ke140 : Int32 → Int32 → Int32 → Int32 → Int32 → Int32 → wS → Option (Int32 × wS)} {x1 : Int32} {x2 : Int32} {x3 : Int32} {x4 : Int32} {x5 : Int32} {x6 : Int32} {x7 : Int32} {y0 : Int32} {w : wS} {r : Int32 × wS} (E : Emb Hf b 0 tbM) (hL : J_X10_snow_93 kh71 ke140 x1 x2 x3 x4 x5 x6 x7 y0 w = some r) (Hkh71 : ∀ (z0 : Int32) (z1 : Int32) (z2 : Int32) (z3 : Int32) (z4 : Int32) (z5 : Int32) (z6 : Int32) (w : wS), kh71 z0 z1 z2 z3 z4 z5 z6 w = some r → AG G M_X10_snow 71 [some (.ref (b + 0)), some (.int (z0)), some (.int (z1)), some (.int (z2)), some (.int (z3)), some (.int (z4)), some (.int (z5)), some (.int (z6)), none] [] (Hf w) (.inl (some (.int r.1)), Hf r.2)) (Hke140 : ∀ (z0 : Int32) (z1 : Int32) (z2 : Int32) (z3 : Int32) (z4 : Int32) (z5 : Int32) (w : wS), ke140 z0 z1 z2 z3 z4 z5 w = some r → AG G M_X10_snow 140 [some (.ref (b + 0)), some (.int (z0)), some (.int (z1)), some (.int (z2)), some (.int (z3)), some (.int (z4)), some (.int (z5)), none, none] [] (Hf w) (.inl (some (.int r.1)), Hf r.2)) : AG G M_X10_snow 93 [some (.ref (b + 0)), some (.int (x1)), some (.int (x2)), some (.int (x3)), some (.int (x4)), some (.int (x5)), some (.int (x6)), some (.int (x7)), none] [.int (y0)] (Hf w) (.inl (some (.int r.1)), Hf r.2) := by
  unfold J_X10_snow_93 at hL
  refine g_istore (i := 8) dX10_snow_93 (by decide) rfl ?_
  refine g_iload dX10_snow_95 rfl ?_
  refine g_none 6 ?_
  refine g_iload dX10_snow_97 rfl ?_
  refine g_if_eq (tgt := 106) dX10_snow_99 (by decide) (fun q4 => ?_) (fun q4 => ?_)
  · rw [if_pos q4] at hL
    refine g_bipush (v := 10) dX10_snow_106 (by decide) ?_
    refine g_iload_n dX10_snow_108 rfl rfl ?_
    refine g_isub dX10_snow_109 ?_
    exact J_X10_snow_110_ok E hL Hkh71 Hke140
  · rw [if_neg q4] at hL
    refine g_iload_n dX10_snow_102 rfl rfl ?_
    refine g_goto (tgt := 110) dX10_snow_103 (by decide) ?_
    exact J_X10_snow_110_ok E hL Hkh71 Hke140
def B_X10_snow_71 (kh71 : Int32 → Int32 → Int32 → Int32 → Int32 → Int32 → Int32 → wS → Option (Int32 × wS)) (ke140 : Int32 → Int32 → Int32 → Int32 → Int32 → Int32 → wS → Option (Int32 × wS)) (x1 : Int32) (x2 : Int32) (x3 : Int32) (x4 : Int32) (x5 : Int32) (x6 : Int32) (x7 : Int32) (w : wS) : Option (Int32 × wS) :=
  if x2 ≤ x7 then ke140 (x1) (x2) (x3) (x4) (x5) (x6) w else if ((x5 >>> (x7 &&& 31)) &&& 1) = 1 then J_X10_snow_93 kh71 ke140 (x1) (x2) (x3) (x4) (x5) (x6) (x7) (1) w else J_X10_snow_93 kh71 ke140 (x1) (x2) (x3) (x4) (x5) (x6) (x7) (0) w
set_option maxRecDepth 20000 in
theorem B_X10_snow_71_ok {G : aG} {Hf : wS → aH} {b : Nat} {kh71 : Int32 → Int32 → Int32 → Int32 → Int32 → Int32 → Int32 → wS → Option (Int32 × wS)} {ke140 : Int32 → Int32 → Int32 → Int32 → Int32 → Int32 → wS → Option (Int32 × wS)} {x1 : Int32} {x2 : Int32} {x3 : Int32} {x4 : Int32} {x5 : Int32} {x6 : Int32} {x7 : Int32} {w : wS} {r : Int32 × wS} (E : Emb Hf b 0 tbM) (hL : B_X10_snow_71 kh71 ke140 x1 x2 x3 x4 x5 x6 x7 w = some r) (Hkh71 : ∀ (z0 : Int32) (z1 : Int32) (z2 : Int32) (z3 : Int32) (z4 : Int32) (z5 : Int32) (z6 : Int32) (w : wS), kh71 z0 z1 z2 z3 z4 z5 z6 w = some r → AG G M_X10_snow 71 [some (.ref (b + 0)), some (.int (z0)), some (.int (z1)), some (.int (z2)), some (.int (z3)), some (.int (z4)), some (.int (z5)), some (.int (z6)), none] [] (Hf w) (.inl (some (.int r.1)), Hf r.2)) (Hke140 : ∀ (z0 : Int32) (z1 : Int32) (z2 : Int32) (z3 : Int32) (z4 : Int32) (z5 : Int32) (w : wS), ke140 z0 z1 z2 z3 z4 z5 w = some r → AG G M_X10_snow 140 [some (.ref (b + 0)), some (.int (z0)), some (.int (z1)), some (.int (z2)), some (.int (z3)), some (.int (z4)), some (.int (z5)), none, none] [] (Hf w) (.inl (some (.int r.1)), Hf r.2)) : AG G M_X10_snow 71 [some (.ref (b + 0)), some (.int (x1)), some (.int (x2)), some (.int (x3)), some (.int (x4)), some (.int (x5)), some (.int (x6)), some (.int (x7)), none] [] (Hf w) (.inl (some (.int r.1)), Hf r.2) := by
  unfold B_X10_snow_71 at hL
  refine g_iload dX10_snow_71 rfl ?_
  refine g_iload_n dX10_snow_73 rfl rfl ?_
  refine g_icmp_ge (tgt := 140) dX10_snow_74 (by decide) (fun q6 => ?_) (fun q6 => ?_)
  · rw [if_pos q6] at hL
    refine g_none 7 ?_
    exact Hke140 _ _ _ _ _ _ _ hL
  · rw [if_neg q6] at hL
    refine g_iload dX10_snow_77 rfl ?_
    refine g_iload dX10_snow_79 rfl ?_
    refine g_ishr dX10_snow_81 ?_
    refine g_iconst (v := 1) dX10_snow_82 (by decide) ?_
    refine g_iand dX10_snow_83 ?_
    refine g_iconst (v := 1) dX10_snow_84 (by decide) ?_
    refine g_icmp_ne (tgt := 92) dX10_snow_85 (by decide) (fun q5 => ?_) (fun q5 => ?_)
    · rw [if_neg q5] at hL
      refine g_iconst (v := 0) dX10_snow_92 (by decide) ?_
      exact J_X10_snow_93_ok E hL Hkh71 Hke140
    · rw [if_pos q5] at hL
      refine g_iconst (v := 1) dX10_snow_88 (by decide) ?_
      refine g_goto (tgt := 93) dX10_snow_89 (by decide) ?_
      exact J_X10_snow_93_ok E hL Hkh71 Hke140
def P_X10_snow_71 (ke140 : Int32 → Int32 → Int32 → Int32 → Int32 → Int32 → wS → Option (Int32 × wS)) (n : Nat) (x1 : Int32) (x2 : Int32) (x3 : Int32) (x4 : Int32) (x5 : Int32) (x6 : Int32) (x7 : Int32) (w : wS) : Option (Int32 × wS) :=
  xLoop (fun (kk : Int32 × Int32 × Int32 × Int32 × Int32 × Int32 × Int32 × wS → Option (Int32 × wS)) σ => B_X10_snow_71 (fun x1 x2 x3 x4 x5 x6 x7 w => kk (x1, x2, x3, x4, x5, x6, x7, w)) ke140 (σ.1) (σ.2.1) (σ.2.2.1) (σ.2.2.2.1) (σ.2.2.2.2.1) (σ.2.2.2.2.2.1) (σ.2.2.2.2.2.2.1) (σ.2.2.2.2.2.2.2)) n (x1, x2, x3, x4, x5, x6, x7, w)
theorem P_X10_snow_71_ok {G : aG} {Hf : wS → aH} {b : Nat} {ke140 : Int32 → Int32 → Int32 → Int32 → Int32 → Int32 → wS → Option (Int32 × wS)} {n : Nat} {x1 : Int32} {x2 : Int32} {x3 : Int32} {x4 : Int32} {x5 : Int32} {x6 : Int32} {x7 : Int32} {w : wS} {r : Int32 × wS} (E : Emb Hf b 0 tbM) (hL : P_X10_snow_71 ke140 n x1 x2 x3 x4 x5 x6 x7 w = some r) (Hke140 : ∀ (z0 : Int32) (z1 : Int32) (z2 : Int32) (z3 : Int32) (z4 : Int32) (z5 : Int32) (w : wS), ke140 z0 z1 z2 z3 z4 z5 w = some r → AG G M_X10_snow 140 [some (.ref (b + 0)), some (.int (z0)), some (.int (z1)), some (.int (z2)), some (.int (z3)), some (.int (z4)), some (.int (z5)), none, none] [] (Hf w) (.inl (some (.int r.1)), Hf r.2)) : AG G M_X10_snow 71 [some (.ref (b + 0)), some (.int (x1)), some (.int (x2)), some (.int (x3)), some (.int (x4)), some (.int (x5)), some (.int (x6)), some (.int (x7)), none] [] (Hf w) (.inl (some (.int r.1)), Hf r.2) :=
  xLoop_ok (Q := fun (σ : Int32 × Int32 × Int32 × Int32 × Int32 × Int32 × Int32 × wS) => AG G M_X10_snow 71 [some (.ref (b + 0)), some (.int (σ.1)), some (.int (σ.2.1)), some (.int (σ.2.2.1)), some (.int (σ.2.2.2.1)), some (.int (σ.2.2.2.2.1)), some (.int (σ.2.2.2.2.2.1)), some (.int (σ.2.2.2.2.2.2.1)), none] [] (Hf σ.2.2.2.2.2.2.2) (.inl (some (.int r.1)), Hf r.2)) (fun kk hk σ hσ => B_X10_snow_71_ok E hσ (fun x1 x2 x3 x4 x5 x6 x7 w h9 => hk (x1, x2, x3, x4, x5, x6, x7, w) h9) Hke140) n (x1, x2, x3, x4, x5, x6, x7, w) hL
def B_X10_snow_53 (kh53 : Int32 → Int32 → Int32 → Int32 → Int32 → wS → Option (Int32 × wS)) (ke168 : Int32 → wS → Option (Int32 × wS)) (x1 : Int32) (x2 : Int32) (x3 : Int32) (x4 : Int32) (x5 : Int32) (w : wS) : Option (Int32 × wS) :=
  if (1 <<< (x2 &&& 31)) ≤ x5 then ke168 (x4) w else xB (L_X10_tries  w) fun w7 => P_X10_snow_71 (fun z8 z9 z10 z11 z12 z13 w14 => xB (xAld w14 16 66 (34)) fun v15 => if v15 = z8 then J_X10_snow_159 kh53 ke168 (z8) (z9) (z10) (z12) (z11) (z13) w14 else J_X10_snow_159 kh53 ke168 (z8) (z9) (z10) (z12) (z11) (0) w14) 5000 (x1) (x2) (x3) (x4) (x5) (1) (0) w7
set_option maxRecDepth 20000 in
theorem B_X10_snow_53_ok {G : aG} {Hf : wS → aH} {b : Nat} {kh53 : Int32 → Int32 → Int32 → Int32 → Int32 → wS → Option (Int32 × wS)} {ke168 : Int32 → wS → Option (Int32 × wS)} {x1 : Int32} {x2 : Int32} {x3 : Int32} {x4 : Int32} {x5 : Int32} {w : wS} {r : Int32 × wS} (E : Emb Hf b 0 tbM) (hL : B_X10_snow_53 kh53 ke168 x1 x2 x3 x4 x5 w = some r) (Hkh53 : ∀ (z0 : Int32) (z1 : Int32) (z2 : Int32) (z3 : Int32) (z4 : Int32) (w : wS), kh53 z0 z1 z2 z3 z4 w = some r → AG G M_X10_snow 53 [some (.ref (b + 0)), some (.int (z0)), some (.int (z1)), some (.int (z2)), some (.int (z3)), some (.int (z4)), none, none, none] [] (Hf w) (.inl (some (.int r.1)), Hf r.2)) (Hke168 : ∀ (z0 : Int32) (w : wS), ke168 z0 w = some r → AG G M_X10_snow 168 [some (.ref (b + 0)), none, none, none, some (.int (z0)), none, none, none, none] [] (Hf w) (.inl (some (.int r.1)), Hf r.2)) : AG G M_X10_snow 53 [some (.ref (b + 0)), some (.int (x1)), some (.int (x2)), some (.int (x3)), some (.int (x4)), some (.int (x5)), none, none, none] [] (Hf w) (.inl (some (.int r.1)), Hf r.2) := by
  unfold B_X10_snow_53 at hL
  refine g_iload dX10_snow_53 rfl ?_
  refine g_iconst (v := 1) dX10_snow_55 (by decide) ?_
  refine g_iload_n dX10_snow_56 rfl rfl ?_
  refine g_ishl dX10_snow_57 ?_
  refine g_icmp_ge (tgt := 168) dX10_snow_58 (by decide) (fun q17 => ?_) (fun q17 => ?_)
  · rw [if_pos q17] at hL
    refine g_none 1 ?_
    refine g_none 2 ?_
    refine g_none 3 ?_
    refine g_none 5 ?_
    exact Hke168 _ _ hL
  · rw [if_neg q17] at hL
    refine g_iconst (v := 1) dX10_snow_61 (by decide) ?_
    refine g_istore (i := 6) dX10_snow_62 (by decide) rfl ?_
    refine g_aload_n dX10_snow_64 rfl rfl ?_
    obtain ⟨w7, hc, hL⟩ := xB_some hL
    refine g_callV (M' := M_X10_tries) (as := []) (v := none) l_X10_388 kV_X10_tries (by decide) (C_X10_tries E hc) rfl (by have := E.1; omega) (E.2.1 _ 0 _ rfl) ⟨_, _, rfl⟩ (Nat.le_of_ble_eq_true rfl) dX10_snow_65 ?_
    refine g_iconst (v := 0) dX10_snow_68 (by decide) ?_
    refine g_istore (i := 7) dX10_snow_69 (by decide) rfl ?_
    refine P_X10_snow_71_ok E hL ?_
    · intro z8 z9 z10 z11 z12 z13 w14 hL
      refine g_iload dX10_snow_140 rfl ?_
      refine g_none 4 ?_
      refine g_aload_n dX10_snow_142 rfl rfl ?_
      refine s_getR (j := 41) E rfl rfl f_X10_69 dX10_snow_143 ?_
      refine g_bipush (v := 34) dX10_snow_146 (by decide) ?_
      refine s_iald (k := 16) E hL rfl dX10_snow_148 ?_
      intro v15 hL
      refine g_iload_n dX10_snow_149 rfl rfl ?_
      refine g_icmp_ne (tgt := 158) dX10_snow_150 (by decide) (fun q16 => ?_) (fun q16 => ?_)
      · rw [if_neg q16] at hL
        refine g_none 6 ?_
        refine g_iconst (v := 0) dX10_snow_158 (by decide) ?_
        exact J_X10_snow_159_ok E hL Hkh53 Hke168
      · rw [if_pos q16] at hL
        refine g_iload dX10_snow_153 rfl ?_
        refine g_none 6 ?_
        refine g_goto (tgt := 159) dX10_snow_155 (by decide) ?_
        exact J_X10_snow_159_ok E hL Hkh53 Hke168
def P_X10_snow_53 (ke168 : Int32 → wS → Option (Int32 × wS)) (n : Nat) (x1 : Int32) (x2 : Int32) (x3 : Int32) (x4 : Int32) (x5 : Int32) (w : wS) : Option (Int32 × wS) :=
  xLoop (fun (kk : Int32 × Int32 × Int32 × Int32 × Int32 × wS → Option (Int32 × wS)) σ => B_X10_snow_53 (fun x1 x2 x3 x4 x5 w => kk (x1, x2, x3, x4, x5, w)) ke168 (σ.1) (σ.2.1) (σ.2.2.1) (σ.2.2.2.1) (σ.2.2.2.2.1) (σ.2.2.2.2.2)) n (x1, x2, x3, x4, x5, w)
theorem P_X10_snow_53_ok {G : aG} {Hf : wS → aH} {b : Nat} {ke168 : Int32 → wS → Option (Int32 × wS)} {n : Nat} {x1 : Int32} {x2 : Int32} {x3 : Int32} {x4 : Int32} {x5 : Int32} {w : wS} {r : Int32 × wS} (E : Emb Hf b 0 tbM) (hL : P_X10_snow_53 ke168 n x1 x2 x3 x4 x5 w = some r) (Hke168 : ∀ (z0 : Int32) (w : wS), ke168 z0 w = some r → AG G M_X10_snow 168 [some (.ref (b + 0)), none, none, none, some (.int (z0)), none, none, none, none] [] (Hf w) (.inl (some (.int r.1)), Hf r.2)) : AG G M_X10_snow 53 [some (.ref (b + 0)), some (.int (x1)), some (.int (x2)), some (.int (x3)), some (.int (x4)), some (.int (x5)), none, none, none] [] (Hf w) (.inl (some (.int r.1)), Hf r.2) :=
  xLoop_ok (Q := fun (σ : Int32 × Int32 × Int32 × Int32 × Int32 × wS) => AG G M_X10_snow 53 [some (.ref (b + 0)), some (.int (σ.1)), some (.int (σ.2.1)), some (.int (σ.2.2.1)), some (.int (σ.2.2.2.1)), some (.int (σ.2.2.2.2.1)), none, none, none] [] (Hf σ.2.2.2.2.2) (.inl (some (.int r.1)), Hf r.2)) (fun kk hk σ hσ => B_X10_snow_53_ok E hσ (fun x1 x2 x3 x4 x5 w h9 => hk (x1, x2, x3, x4, x5, w) h9) Hke168) n (x1, x2, x3, x4, x5, w) hL
def J_X10_snow_45 (w : wS) : Option (Int32 × wS) :=
  some (0, w)
set_option maxRecDepth 20000 in
theorem J_X10_snow_45_ok {G : aG} {Hf : wS → aH} {b : Nat} {w : wS} {r : Int32 × wS} (E : Emb Hf b 0 tbM) (hL : J_X10_snow_45   w = some r) : AG G M_X10_snow 45 [none, none, none, none, none, none, none, none, none] [] (Hf w) (.inl (some (.int r.1)), Hf r.2) := by
  unfold J_X10_snow_45 at hL
  refine g_iconst (v := 0) dX10_snow_45 (by decide) ?_
  obtain rfl := Option.some.inj hL
  exact g_iret rfl dX10_snow_46
def J_X10_snow_38 (x1 : Int32) (x2 : Int32) (x3 : Int32) (y1 : Int32) (w : wS) : Option (Int32 × wS) :=
  xB2 (L_X10_right (y1) (2) w) fun v18 w19 => if v18 = 0 then J_X10_snow_45   w19 else P_X10_snow_53 (fun z20 w21 => xB (xPut w21 52 (0)) fun w22 => some (z20, w22)) 5000 (x1) (x2) (x3) (0) (0) w19
set_option maxRecDepth 20000 in
theorem J_X10_snow_38_ok {G : aG} {Hf : wS → aH} {b : Nat} {x1 : Int32} {x2 : Int32} {x3 : Int32} {y1 : Int32} {w : wS} {r : Int32 × wS} (E : Emb Hf b 0 tbM) (hL : J_X10_snow_38  x1 x2 x3 y1 w = some r) : AG G M_X10_snow 38 [some (.ref (b + 0)), some (.int (x1)), some (.int (x2)), some (.int (x3)), none, none, none, none, none] [.int (y1), .ref (b + 0)] (Hf w) (.inl (some (.int r.1)), Hf r.2) := by
  unfold J_X10_snow_38 at hL
  refine g_iconst (v := 2) dX10_snow_38 (by decide) ?_
  obtain ⟨v18, w19, hc, hL⟩ := xB2_some hL
  refine g_callV (M' := M_X10_right) (as := [.int (y1), .int (2)]) (v := some (.int (v18))) l_X10_271 kV_X10_right (by decide) (C_X10_right E hc) rfl (by have := E.1; omega) (E.2.1 _ 0 _ rfl) ⟨_, _, rfl⟩ (Nat.le_of_ble_eq_true rfl) dX10_snow_39 ?_
  refine g_if_ne (tgt := 47) dX10_snow_42 (by decide) (fun q23 => ?_) (fun q23 => ?_)
  · rw [if_neg q23] at hL
    refine g_iconst (v := 0) dX10_snow_47 (by decide) ?_
    refine g_istore (i := 4) dX10_snow_48 (by decide) rfl ?_
    refine g_iconst (v := 0) dX10_snow_50 (by decide) ?_
    refine g_istore (i := 5) dX10_snow_51 (by decide) rfl ?_
    refine P_X10_snow_53_ok E hL ?_
    · intro z20 w21 hL
      refine g_aload_n dX10_snow_168 rfl rfl ?_
      refine g_none 0 ?_
      refine g_iconst (v := 0) dX10_snow_169 (by decide) ?_
      refine s_putI (k := 0) (j := 52) E hL rfl rfl (by decide) fw_X10_318 rfl rfl dX10_snow_170 ?_
      intro w22 hL
      refine g_iload dX10_snow_173 rfl ?_
      refine g_none 4 ?_
      obtain rfl := Option.some.inj hL
      exact g_iret rfl dX10_snow_175
  · rw [if_pos q23] at hL
    refine g_none 0 ?_
    refine g_none 1 ?_
    refine g_none 2 ?_
    refine g_none 3 ?_
    exact J_X10_snow_45_ok E hL 
def J_X10_snow_37 (x1 : Int32) (x2 : Int32) (x3 : Int32) (w : wS) : Option (Int32 × wS) :=
  J_X10_snow_38  (x1) (x2) (x3) (0) w
set_option maxRecDepth 20000 in
theorem J_X10_snow_37_ok {G : aG} {Hf : wS → aH} {b : Nat} {x1 : Int32} {x2 : Int32} {x3 : Int32} {w : wS} {r : Int32 × wS} (E : Emb Hf b 0 tbM) (hL : J_X10_snow_37  x1 x2 x3 w = some r) : AG G M_X10_snow 37 [some (.ref (b + 0)), some (.int (x1)), some (.int (x2)), some (.int (x3)), none, none, none, none, none] [.ref (b + 0)] (Hf w) (.inl (some (.int r.1)), Hf r.2) := by
  unfold J_X10_snow_37 at hL
  refine g_iconst (v := 0) dX10_snow_37 (by decide) ?_
  exact J_X10_snow_38_ok E hL 
def L_X10_snow (a1 : Int32) (a2 : Int32) (a3 : Int32) (w : wS) : Option (Int32 × wS) :=
  xB (xPut w 0 (0)) fun w24 => xB2 (L_X10_isPerson (a1) w24) fun v25 w26 => if v25 = 0 then J_X10_snow_45   w26 else xB (L_X10_within (a2) (1) (5)) fun v27 => if v27 = 0 then J_X10_snow_37  (a1) (a2) (a3) w26 else xB (L_X10_within (a3) (0) (10)) fun v28 => if v28 = 0 then J_X10_snow_37  (a1) (a2) (a3) w26 else J_X10_snow_38  (a1) (a2) (a3) (1) w26
set_option maxRecDepth 20000 in
theorem C_X10_snow {G : aG} {Hf : wS → aH} {b : Nat} {a1 : Int32} {a2 : Int32} {a3 : Int32} {w : wS} {r : Int32 × wS} (E : Emb Hf b 0 tbM) (hL : L_X10_snow a1 a2 a3 w = some r) : AC G M_X10_snow [.ref (b + 0), .int a1, .int a2, .int a3] (Hf w) (.inl (some (.int r.1)), Hf r.2) := by
  unfold L_X10_snow at hL
  refine AC.of (by decide) rfl (Nat.le_of_ble_eq_true rfl) ?_
  show AG G M_X10_snow 0 [some (.ref (b + 0)), some (.int (a1)), some (.int (a2)), some (.int (a3)), none, none, none, none, none] [] _ _
  refine g_aload_n dX10_snow_0 rfl rfl ?_
  refine g_iconst (v := 0) dX10_snow_1 (by decide) ?_
  refine s_putI (k := 0) (j := 0) E hL rfl rfl (by decide) fw_X10_120 rfl rfl dX10_snow_2 ?_
  intro w24 hL
  refine g_aload_n dX10_snow_5 rfl rfl ?_
  refine g_iload_n dX10_snow_6 rfl rfl ?_
  obtain ⟨v25, w26, hc, hL⟩ := xB2_some hL
  refine g_callV (M' := M_X10_isPerson) (as := [.int (a1)]) (v := some (.int (v25))) l_X10_370 kV_X10_isPerson (by decide) (C_X10_isPerson E hc) rfl (by have := E.1; omega) (E.2.1 _ 0 _ rfl) ⟨_, _, rfl⟩ (Nat.le_of_ble_eq_true rfl) dX10_snow_7 ?_
  refine g_if_eq (tgt := 45) dX10_snow_10 (by decide) (fun q31 => ?_) (fun q31 => ?_)
  · rw [if_pos q31] at hL
    refine g_none 0 ?_
    refine g_none 1 ?_
    refine g_none 2 ?_
    refine g_none 3 ?_
    exact J_X10_snow_45_ok E hL 
  · rw [if_neg q31] at hL
    refine g_aload_n dX10_snow_13 rfl rfl ?_
    refine g_iload_n dX10_snow_14 rfl rfl ?_
    refine g_iconst (v := 1) dX10_snow_15 (by decide) ?_
    refine g_iconst (v := 5) dX10_snow_16 (by decide) ?_
    obtain ⟨v27, hc, hL⟩ := xB_some hL
    refine g_callS (M' := M_X10_within) (as := [.int (a2), .int (1), .int (5)]) (v := some (.int (v27))) l_X10_361 kS_X10_within (by decide) (C_X10_within hc) rfl (Nat.le_of_ble_eq_true rfl) dX10_snow_17 ?_
    refine g_if_eq (tgt := 37) dX10_snow_20 (by decide) (fun q30 => ?_) (fun q30 => ?_)
    · rw [if_pos q30] at hL
      exact J_X10_snow_37_ok E hL 
    · rw [if_neg q30] at hL
      refine g_iload_n dX10_snow_23 rfl rfl ?_
      refine g_iconst (v := 0) dX10_snow_24 (by decide) ?_
      refine g_bipush (v := 10) dX10_snow_25 (by decide) ?_
      obtain ⟨v28, hc, hL⟩ := xB_some hL
      refine g_callS (M' := M_X10_within) (as := [.int (a3), .int (0), .int (10)]) (v := some (.int (v28))) l_X10_361 kS_X10_within (by decide) (C_X10_within hc) rfl (Nat.le_of_ble_eq_true rfl) dX10_snow_27 ?_
      refine g_if_eq (tgt := 37) dX10_snow_30 (by decide) (fun q29 => ?_) (fun q29 => ?_)
      · rw [if_pos q29] at hL
        exact J_X10_snow_37_ok E hL 
      · rw [if_neg q29] at hL
        refine g_iconst (v := 1) dX10_snow_33 (by decide) ?_
        refine g_goto (tgt := 38) dX10_snow_34 (by decide) ?_
        exact J_X10_snow_38_ok E hL 
def B_X10_gains_75 (kh75 : Int32 → Int32 → Int32 → wS → Option (Int32 × wS)) (ke109 : Int32 → wS → Option (Int32 × wS)) (x1 : Int32) (x5 : Int32) (x6 : Int32) (w : wS) : Option (Int32 × wS) :=
  if 8 ≤ x6 then ke109 (x5) w else xB (L_X10_dayGoes (33) w) fun w1 => xB (xGet w1 49) fun v2 => kh75 (x1) ((x5 + (1 - ((v2 >>> (x1 &&& 31)) &&& 1)))) ((x6 + 1)) w1
set_option maxRecDepth 20000 in
theorem B_X10_gains_75_ok {G : aG} {Hf : wS → aH} {b : Nat} {kh75 : Int32 → Int32 → Int32 → wS → Option (Int32 × wS)} {ke109 : Int32 → wS → Option (Int32 × wS)} {x1 : Int32} {x5 : Int32} {x6 : Int32} {w : wS} {r : Int32 × wS} (E : Emb Hf b 0 tbM) (hL : B_X10_gains_75 kh75 ke109 x1 x5 x6 w = some r) (Hkh75 : ∀ (z0 : Int32) (z1 : Int32) (z2 : Int32) (w : wS), kh75 z0 z1 z2 w = some r → AG G M_X10_gains 75 [some (.ref (b + 0)), some (.int (z0)), none, none, none, some (.int (z1)), some (.int (z2))] [] (Hf w) (.inl (some (.int r.1)), Hf r.2)) (Hke109 : ∀ (z0 : Int32) (w : wS), ke109 z0 w = some r → AG G M_X10_gains 109 [none, none, none, none, none, some (.int (z0)), none] [] (Hf w) (.inl (some (.int r.1)), Hf r.2)) : AG G M_X10_gains 75 [some (.ref (b + 0)), some (.int (x1)), none, none, none, some (.int (x5)), some (.int (x6))] [] (Hf w) (.inl (some (.int r.1)), Hf r.2) := by
  unfold B_X10_gains_75 at hL
  refine g_iload dX10_gains_75 rfl ?_
  refine g_bipush (v := 8) dX10_gains_77 (by decide) ?_
  refine g_icmp_ge (tgt := 109) dX10_gains_79 (by decide) (fun q3 => ?_) (fun q3 => ?_)
  · rw [if_pos q3] at hL
    refine g_none 0 ?_
    refine g_none 1 ?_
    refine g_none 6 ?_
    exact Hke109 _ _ hL
  · rw [if_neg q3] at hL
    refine g_aload_n dX10_gains_82 rfl rfl ?_
    refine g_bipush (v := 33) dX10_gains_83 (by decide) ?_
    obtain ⟨w1, hc, hL⟩ := xB_some hL
    refine g_callV (M' := M_X10_dayGoes) (as := [.int (33)]) (v := none) l_X10_358 kV_X10_dayGoes (by decide) (C_X10_dayGoes E hc) rfl (by have := E.1; omega) (E.2.1 _ 0 _ rfl) ⟨_, _, rfl⟩ (Nat.le_of_ble_eq_true rfl) dX10_gains_85 ?_
    refine g_iload dX10_gains_88 rfl ?_
    refine g_none 5 ?_
    refine g_iconst (v := 1) dX10_gains_90 (by decide) ?_
    refine g_aload_n dX10_gains_91 rfl rfl ?_
    refine s_getI (k := 0) (j := 49) E hL rfl rfl f_X10_334 dX10_gains_92 ?_
    intro v2 hL
    refine g_iload_n dX10_gains_95 rfl rfl ?_
    refine g_ishr dX10_gains_96 ?_
    refine g_iconst (v := 1) dX10_gains_97 (by decide) ?_
    refine g_iand dX10_gains_98 ?_
    refine g_isub dX10_gains_99 ?_
    refine g_iadd dX10_gains_100 ?_
    refine g_istore (i := 5) dX10_gains_101 (by decide) rfl ?_
    refine g_iincV (v := (x6 + 1)) dX10_gains_103 rfl rfl (by decide) rfl ?_
    refine g_goto (tgt := 75) dX10_gains_106 (by decide) ?_
    exact Hkh75 _ _ _ _ hL
def P_X10_gains_75 (ke109 : Int32 → wS → Option (Int32 × wS)) (n : Nat) (x1 : Int32) (x5 : Int32) (x6 : Int32) (w : wS) : Option (Int32 × wS) :=
  xLoop (fun (kk : Int32 × Int32 × Int32 × wS → Option (Int32 × wS)) σ => B_X10_gains_75 (fun x1 x5 x6 w => kk (x1, x5, x6, w)) ke109 (σ.1) (σ.2.1) (σ.2.2.1) (σ.2.2.2)) n (x1, x5, x6, w)
theorem P_X10_gains_75_ok {G : aG} {Hf : wS → aH} {b : Nat} {ke109 : Int32 → wS → Option (Int32 × wS)} {n : Nat} {x1 : Int32} {x5 : Int32} {x6 : Int32} {w : wS} {r : Int32 × wS} (E : Emb Hf b 0 tbM) (hL : P_X10_gains_75 ke109 n x1 x5 x6 w = some r) (Hke109 : ∀ (z0 : Int32) (w : wS), ke109 z0 w = some r → AG G M_X10_gains 109 [none, none, none, none, none, some (.int (z0)), none] [] (Hf w) (.inl (some (.int r.1)), Hf r.2)) : AG G M_X10_gains 75 [some (.ref (b + 0)), some (.int (x1)), none, none, none, some (.int (x5)), some (.int (x6))] [] (Hf w) (.inl (some (.int r.1)), Hf r.2) :=
  xLoop_ok (Q := fun (σ : Int32 × Int32 × Int32 × wS) => AG G M_X10_gains 75 [some (.ref (b + 0)), some (.int (σ.1)), none, none, none, some (.int (σ.2.1)), some (.int (σ.2.2.1))] [] (Hf σ.2.2.2) (.inl (some (.int r.1)), Hf r.2)) (fun kk hk σ hσ => B_X10_gains_75_ok E hσ (fun x1 x5 x6 w h9 => hk (x1, x5, x6, w) h9) Hke109) n (x1, x5, x6, w) hL
def J_X10_gains_67 (x1 : Int32) (x3 : Int32) (w : wS) : Option (Int32 × wS) :=
  P_X10_gains_75 (fun z4 w5 => some (z4, w5)) 5000 (x1) ((0 - x3)) (0) w
set_option maxRecDepth 20000 in
theorem J_X10_gains_67_ok {G : aG} {Hf : wS → aH} {b : Nat} {x1 : Int32} {x3 : Int32} {w : wS} {r : Int32 × wS} (E : Emb Hf b 0 tbM) (hL : J_X10_gains_67  x1 x3 w = some r) : AG G M_X10_gains 67 [some (.ref (b + 0)), some (.int (x1)), none, some (.int (x3)), none, none, none] [] (Hf w) (.inl (some (.int r.1)), Hf r.2) := by
  unfold J_X10_gains_67 at hL
  refine g_iconst (v := 0) dX10_gains_67 (by decide) ?_
  refine g_iload_n dX10_gains_68 rfl rfl ?_
  refine g_none 3 ?_
  refine g_isub dX10_gains_69 ?_
  refine g_istore (i := 5) dX10_gains_70 (by decide) rfl ?_
  refine g_iconst (v := 0) dX10_gains_72 (by decide) ?_
  refine g_istore (i := 6) dX10_gains_73 (by decide) rfl ?_
  refine P_X10_gains_75_ok E hL ?_
  · intro z4 w5 hL
    refine g_iload dX10_gains_109 rfl ?_
    refine g_none 5 ?_
    obtain rfl := Option.some.inj hL
    exact g_iret rfl dX10_gains_111
def J_X10_gains_35 (x1 : Int32) (x2 : Int32) (x3 : Int32) (x4 : Int32) (w : wS) : Option (Int32 × wS) :=
  if x4 = 1 then xB (xAld w 16 66 ((36 + x2))) fun v6 => xB (L_X10_lesser (60) ((v6 + 9))) fun v7 => xB (xAst w 16 66 ((36 + x2)) (v7)) fun w8 => J_X10_gains_67  (x1) (x3) w8 else J_X10_gains_67  (x1) (x3) w
set_option maxRecDepth 20000 in
theorem J_X10_gains_35_ok {G : aG} {Hf : wS → aH} {b : Nat} {x1 : Int32} {x2 : Int32} {x3 : Int32} {x4 : Int32} {w : wS} {r : Int32 × wS} (E : Emb Hf b 0 tbM) (hL : J_X10_gains_35  x1 x2 x3 x4 w = some r) : AG G M_X10_gains 35 [some (.ref (b + 0)), some (.int (x1)), some (.int (x2)), some (.int (x3)), some (.int (x4)), none, none] [] (Hf w) (.inl (some (.int r.1)), Hf r.2) := by
  unfold J_X10_gains_35 at hL
  refine g_iload dX10_gains_35 rfl ?_
  refine g_none 4 ?_
  refine g_iconst (v := 1) dX10_gains_37 (by decide) ?_
  refine g_icmp_ne (tgt := 67) dX10_gains_38 (by decide) (fun q9 => ?_) (fun q9 => ?_)
  · rw [if_neg q9] at hL
    refine g_none 2 ?_
    exact J_X10_gains_67_ok E hL 
  · rw [if_pos q9] at hL
    refine g_aload_n dX10_gains_41 rfl rfl ?_
    refine s_getR (j := 41) E rfl rfl f_X10_69 dX10_gains_42 ?_
    refine g_bipush (v := 36) dX10_gains_45 (by decide) ?_
    refine g_iload_n dX10_gains_47 rfl rfl ?_
    refine g_iadd dX10_gains_48 ?_
    refine g_bipush (v := 60) dX10_gains_49 (by decide) ?_
    refine g_aload_n dX10_gains_51 rfl rfl ?_
    refine s_getR (j := 41) E rfl rfl f_X10_69 dX10_gains_52 ?_
    refine g_bipush (v := 36) dX10_gains_55 (by decide) ?_
    refine g_iload_n dX10_gains_57 rfl rfl ?_
    refine g_none 2 ?_
    refine g_iadd dX10_gains_58 ?_
    refine s_iald (k := 16) E hL rfl dX10_gains_59 ?_
    intro v6 hL
    refine g_bipush (v := 9) dX10_gains_60 (by decide) ?_
    refine g_iadd dX10_gains_62 ?_
    obtain ⟨v7, hc, hL⟩ := xB_some hL
    refine g_callS (M' := M_X10_lesser) (as := [.int (60), .int ((v6 + 9))]) (v := some (.int (v7))) l_X10_331 kS_X10_lesser (by decide) (C_X10_lesser hc) rfl (Nat.le_of_ble_eq_true rfl) dX10_gains_63 ?_
    refine s_iast (k := 16) E hL rfl dX10_gains_66 ?_
    intro w8 hL
    exact J_X10_gains_67_ok E hL 
def L_X10_gains (a1 : Int32) (a2 : Int32) (a3 : Int32) (a4 : Int32) (w : wS) : Option (Int32 × wS) :=
  xB (L_X10_tries  w) fun w10 => if a3 = 1 then xB (xAld w10 16 66 ((36 + a1))) fun v11 => xB (L_X10_lesser (60) ((v11 + 9))) fun v12 => xB (xAst w10 16 66 ((36 + a1)) (v12)) fun w13 => J_X10_gains_35  (a1) (a2) (a3) (a4) w13 else J_X10_gains_35  (a1) (a2) (a3) (a4) w10
set_option maxRecDepth 20000 in
theorem C_X10_gains {G : aG} {Hf : wS → aH} {b : Nat} {a1 : Int32} {a2 : Int32} {a3 : Int32} {a4 : Int32} {w : wS} {r : Int32 × wS} (E : Emb Hf b 0 tbM) (hL : L_X10_gains a1 a2 a3 a4 w = some r) : AC G M_X10_gains [.ref (b + 0), .int a1, .int a2, .int a3, .int a4] (Hf w) (.inl (some (.int r.1)), Hf r.2) := by
  unfold L_X10_gains at hL
  refine AC.of (by decide) rfl (Nat.le_of_ble_eq_true rfl) ?_
  show AG G M_X10_gains 0 [some (.ref (b + 0)), some (.int (a1)), some (.int (a2)), some (.int (a3)), some (.int (a4)), none, none] [] _ _
  refine g_aload_n dX10_gains_0 rfl rfl ?_
  obtain ⟨w10, hc, hL⟩ := xB_some hL
  refine g_callV (M' := M_X10_tries) (as := []) (v := none) l_X10_388 kV_X10_tries (by decide) (C_X10_tries E hc) rfl (by have := E.1; omega) (E.2.1 _ 0 _ rfl) ⟨_, _, rfl⟩ (Nat.le_of_ble_eq_true rfl) dX10_gains_1 ?_
  refine g_iload_n dX10_gains_4 rfl rfl ?_
  refine g_iconst (v := 1) dX10_gains_5 (by decide) ?_
  refine g_icmp_ne (tgt := 35) dX10_gains_6 (by decide) (fun q14 => ?_) (fun q14 => ?_)
  · rw [if_neg q14] at hL
    exact J_X10_gains_35_ok E hL 
  · rw [if_pos q14] at hL
    refine g_aload_n dX10_gains_9 rfl rfl ?_
    refine s_getR (j := 41) E rfl rfl f_X10_69 dX10_gains_10 ?_
    refine g_bipush (v := 36) dX10_gains_13 (by decide) ?_
    refine g_iload_n dX10_gains_15 rfl rfl ?_
    refine g_iadd dX10_gains_16 ?_
    refine g_bipush (v := 60) dX10_gains_17 (by decide) ?_
    refine g_aload_n dX10_gains_19 rfl rfl ?_
    refine s_getR (j := 41) E rfl rfl f_X10_69 dX10_gains_20 ?_
    refine g_bipush (v := 36) dX10_gains_23 (by decide) ?_
    refine g_iload_n dX10_gains_25 rfl rfl ?_
    refine g_iadd dX10_gains_26 ?_
    refine s_iald (k := 16) E hL rfl dX10_gains_27 ?_
    intro v11 hL
    refine g_bipush (v := 9) dX10_gains_28 (by decide) ?_
    refine g_iadd dX10_gains_30 ?_
    obtain ⟨v12, hc, hL⟩ := xB_some hL
    refine g_callS (M' := M_X10_lesser) (as := [.int (60), .int ((v11 + 9))]) (v := some (.int (v12))) l_X10_331 kS_X10_lesser (by decide) (C_X10_lesser hc) rfl (Nat.le_of_ble_eq_true rfl) dX10_gains_31 ?_
    refine s_iast (k := 16) E hL rfl dX10_gains_34 ?_
    intro w13 hL
    exact J_X10_gains_35_ok E hL 
def J_X10_game_166 (y0 : Int32) (w : wS) : Option (Int32 × wS) :=
  some (y0, w)
set_option maxRecDepth 20000 in
theorem J_X10_game_166_ok {G : aG} {Hf : wS → aH} {b : Nat} {y0 : Int32} {w : wS} {r : Int32 × wS} (E : Emb Hf b 0 tbM) (hL : J_X10_game_166  y0 w = some r) : AG G M_X10_game 166 [none, none, none, none, none, none, none, none, none] [.int (y0)] (Hf w) (.inl (some (.int r.1)), Hf r.2) := by
  unfold J_X10_game_166 at hL
  obtain rfl := Option.some.inj hL
  exact g_iret rfl dX10_game_166
def J_X10_game_149 (kh59 : Int32 → Int32 → Int32 → Int32 → Int32 → Int32 → wS → Option (Int32 × wS)) (ke155 : Int32 → Int32 → Int32 → wS → Option (Int32 × wS)) (x1 : Int32) (x2 : Int32) (x3 : Int32) (x4 : Int32) (x5 : Int32) (x6 : Int32) (w : wS) : Option (Int32 × wS) :=
  kh59 (x1) (x2) (x3) (x4) (x5) ((x6 + 1)) w
set_option maxRecDepth 20000 in
theorem J_X10_game_149_ok {G : aG} {Hf : wS → aH} {b : Nat} {kh59 : Int32 → Int32 → Int32 → Int32 → Int32 → Int32 → wS → Option (Int32 × wS)} {ke155 : Int32 → Int32 → Int32 → wS → Option (Int32 × wS)} {x1 : Int32} {x2 : Int32} {x3 : Int32} {x4 : Int32} {x5 : Int32} {x6 : Int32} {w : wS} {r : Int32 × wS} (E : Emb Hf b 0 tbM) (hL : J_X10_game_149 kh59 ke155 x1 x2 x3 x4 x5 x6 w = some r) (Hkh59 : ∀ (z0 : Int32) (z1 : Int32) (z2 : Int32) (z3 : Int32) (z4 : Int32) (z5 : Int32) (w : wS), kh59 z0 z1 z2 z3 z4 z5 w = some r → AG G M_X10_game 59 [some (.ref (b + 0)), some (.int (z0)), some (.int (z1)), some (.int (z2)), some (.int (z3)), some (.int (z4)), some (.int (z5)), none, none] [] (Hf w) (.inl (some (.int r.1)), Hf r.2)) (Hke155 : ∀ (z0 : Int32) (z1 : Int32) (z2 : Int32) (w : wS), ke155 z0 z1 z2 w = some r → AG G M_X10_game 155 [none, none, none, some (.int (z0)), some (.int (z1)), some (.int (z2)), none, none, none] [] (Hf w) (.inl (some (.int r.1)), Hf r.2)) : AG G M_X10_game 149 [some (.ref (b + 0)), some (.int (x1)), some (.int (x2)), some (.int (x3)), some (.int (x4)), some (.int (x5)), some (.int (x6)), none, none] [] (Hf w) (.inl (some (.int r.1)), Hf r.2) := by
  unfold J_X10_game_149 at hL
  refine g_iincV (v := (x6 + 1)) dX10_game_149 rfl rfl (by decide) rfl ?_
  refine g_goto (tgt := 59) dX10_game_152 (by decide) ?_
  exact Hkh59 _ _ _ _ _ _ _ hL
def B_X10_game_59 (kh59 : Int32 → Int32 → Int32 → Int32 → Int32 → Int32 → wS → Option (Int32 × wS)) (ke155 : Int32 → Int32 → Int32 → wS → Option (Int32 × wS)) (x1 : Int32) (x2 : Int32) (x3 : Int32) (x4 : Int32) (x5 : Int32) (x6 : Int32) (w : wS) : Option (Int32 × wS) :=
  if 4 ≤ x6 then ke155 (x3) (x4) (x5) w else xB (xDiv (x6) (2)) fun v1 => xB (xRem (x6) (2)) fun v2 => xB2 (L_X10_gains (x1) (x2) ((1 - v1)) (v2) w) fun v3 w4 => xB2 (L_X10_gains (x1) (x2) (v1) (v2) w4) fun v5 w6 => if v5 < v3 then J_X10_game_149 kh59 ke155 (x1) (x2) (x3) (x4) (x5) (x6) w6 else xB2 (L_X10_gains (x2) (x1) ((1 - v2)) (v1) w6) fun v7 w8 => xB2 (L_X10_gains (x2) (x1) (v2) (v1) w8) fun v9 w10 => if v7 ≤ v9 then if x5 = (-1) then J_X10_game_149 kh59 ke155 (x1) (x2) (x3) ((x4 + 1)) (((10 * v1) + v2)) (x6) w10 else J_X10_game_149 kh59 ke155 (x1) (x2) (x3) ((x4 + 1)) (x5) (x6) w10 else J_X10_game_149 kh59 ke155 (x1) (x2) (x3) (x4) (x5) (x6) w10
set_option maxRecDepth 20000 in
theorem B_X10_game_59_ok {G : aG} {Hf : wS → aH} {b : Nat} {kh59 : Int32 → Int32 → Int32 → Int32 → Int32 → Int32 → wS → Option (Int32 × wS)} {ke155 : Int32 → Int32 → Int32 → wS → Option (Int32 × wS)} {x1 : Int32} {x2 : Int32} {x3 : Int32} {x4 : Int32} {x5 : Int32} {x6 : Int32} {w : wS} {r : Int32 × wS} (E : Emb Hf b 0 tbM) (hL : B_X10_game_59 kh59 ke155 x1 x2 x3 x4 x5 x6 w = some r) (Hkh59 : ∀ (z0 : Int32) (z1 : Int32) (z2 : Int32) (z3 : Int32) (z4 : Int32) (z5 : Int32) (w : wS), kh59 z0 z1 z2 z3 z4 z5 w = some r → AG G M_X10_game 59 [some (.ref (b + 0)), some (.int (z0)), some (.int (z1)), some (.int (z2)), some (.int (z3)), some (.int (z4)), some (.int (z5)), none, none] [] (Hf w) (.inl (some (.int r.1)), Hf r.2)) (Hke155 : ∀ (z0 : Int32) (z1 : Int32) (z2 : Int32) (w : wS), ke155 z0 z1 z2 w = some r → AG G M_X10_game 155 [none, none, none, some (.int (z0)), some (.int (z1)), some (.int (z2)), none, none, none] [] (Hf w) (.inl (some (.int r.1)), Hf r.2)) : AG G M_X10_game 59 [some (.ref (b + 0)), some (.int (x1)), some (.int (x2)), some (.int (x3)), some (.int (x4)), some (.int (x5)), some (.int (x6)), none, none] [] (Hf w) (.inl (some (.int r.1)), Hf r.2) := by
  unfold B_X10_game_59 at hL
  refine g_iload dX10_game_59 rfl ?_
  refine g_iconst (v := 4) dX10_game_61 (by decide) ?_
  refine g_icmp_ge (tgt := 155) dX10_game_62 (by decide) (fun q14 => ?_) (fun q14 => ?_)
  · rw [if_pos q14] at hL
    refine g_none 0 ?_
    refine g_none 1 ?_
    refine g_none 2 ?_
    refine g_none 6 ?_
    exact Hke155 _ _ _ _ hL
  · rw [if_neg q14] at hL
    refine g_iload dX10_game_65 rfl ?_
    refine g_iconst (v := 2) dX10_game_67 (by decide) ?_
    refine s_idiv hL dX10_game_68 ?_
    intro v1 hL
    refine g_istore (i := 7) dX10_game_69 (by decide) rfl ?_
    refine g_iload dX10_game_71 rfl ?_
    refine g_iconst (v := 2) dX10_game_73 (by decide) ?_
    refine s_irem hL dX10_game_74 ?_
    intro v2 hL
    refine g_istore (i := 8) dX10_game_75 (by decide) rfl ?_
    refine g_aload_n dX10_game_77 rfl rfl ?_
    refine g_iload_n dX10_game_78 rfl rfl ?_
    refine g_iload_n dX10_game_79 rfl rfl ?_
    refine g_iconst (v := 1) dX10_game_80 (by decide) ?_
    refine g_iload dX10_game_81 rfl ?_
    refine g_isub dX10_game_83 ?_
    refine g_iload dX10_game_84 rfl ?_
    obtain ⟨v3, w4, hc, hL⟩ := xB2_some hL
    refine g_callV (M' := M_X10_gains) (as := [.int (x1), .int (x2), .int ((1 - v1)), .int (v2)]) (v := some (.int (v3))) l_X10_415 kV_X10_gains (by decide) (C_X10_gains E hc) rfl (by have := E.1; omega) (E.2.1 _ 0 _ rfl) ⟨_, _, rfl⟩ (Nat.le_of_ble_eq_true rfl) dX10_game_86 ?_
    refine g_aload_n dX10_game_89 rfl rfl ?_
    refine g_iload_n dX10_game_90 rfl rfl ?_
    refine g_iload_n dX10_game_91 rfl rfl ?_
    refine g_iload dX10_game_92 rfl ?_
    refine g_iload dX10_game_94 rfl ?_
    obtain ⟨v5, w6, hc, hL⟩ := xB2_some hL
    refine g_callV (M' := M_X10_gains) (as := [.int (x1), .int (x2), .int (v1), .int (v2)]) (v := some (.int (v5))) l_X10_415 kV_X10_gains (by decide) (C_X10_gains E hc) rfl (by have := E.1; omega) (E.2.1 _ 0 _ rfl) ⟨_, _, rfl⟩ (Nat.le_of_ble_eq_true rfl) dX10_game_96 ?_
    refine g_icmp_gt (tgt := 149) dX10_game_99 (by decide) (fun q13 => ?_) (fun q13 => ?_)
    · rw [if_pos q13] at hL
      refine g_none 7 ?_
      refine g_none 8 ?_
      exact J_X10_game_149_ok E hL Hkh59 Hke155
    · rw [if_neg q13] at hL
      refine g_aload_n dX10_game_102 rfl rfl ?_
      refine g_iload_n dX10_game_103 rfl rfl ?_
      refine g_iload_n dX10_game_104 rfl rfl ?_
      refine g_iconst (v := 1) dX10_game_105 (by decide) ?_
      refine g_iload dX10_game_106 rfl ?_
      refine g_isub dX10_game_108 ?_
      refine g_iload dX10_game_109 rfl ?_
      obtain ⟨v7, w8, hc, hL⟩ := xB2_some hL
      refine g_callV (M' := M_X10_gains) (as := [.int (x2), .int (x1), .int ((1 - v2)), .int (v1)]) (v := some (.int (v7))) l_X10_415 kV_X10_gains (by decide) (C_X10_gains E hc) rfl (by have := E.1; omega) (E.2.1 _ 0 _ rfl) ⟨_, _, rfl⟩ (Nat.le_of_ble_eq_true rfl) dX10_game_111 ?_
      refine g_aload_n dX10_game_114 rfl rfl ?_
      refine g_iload_n dX10_game_115 rfl rfl ?_
      refine g_iload_n dX10_game_116 rfl rfl ?_
      refine g_iload dX10_game_117 rfl ?_
      refine g_iload dX10_game_119 rfl ?_
      obtain ⟨v9, w10, hc, hL⟩ := xB2_some hL
      refine g_callV (M' := M_X10_gains) (as := [.int (x2), .int (x1), .int (v2), .int (v1)]) (v := some (.int (v9))) l_X10_415 kV_X10_gains (by decide) (C_X10_gains E hc) rfl (by have := E.1; omega) (E.2.1 _ 0 _ rfl) ⟨_, _, rfl⟩ (Nat.le_of_ble_eq_true rfl) dX10_game_121 ?_
      refine g_icmp_le (tgt := 130) dX10_game_124 (by decide) (fun q12 => ?_) (fun q12 => ?_)
      · rw [if_pos q12] at hL
        refine g_iincV (v := (x4 + 1)) dX10_game_130 rfl rfl (by decide) rfl ?_
        refine g_iload dX10_game_133 rfl ?_
        refine g_iconst (v := (-1)) dX10_game_135 (by decide) ?_
        refine g_icmp_ne (tgt := 149) dX10_game_136 (by decide) (fun q11 => ?_) (fun q11 => ?_)
        · rw [if_neg q11] at hL
          refine g_none 7 ?_
          refine g_none 8 ?_
          exact J_X10_game_149_ok E hL Hkh59 Hke155
        · rw [if_pos q11] at hL
          refine g_none 5 ?_
          refine g_bipush (v := 10) dX10_game_139 (by decide) ?_
          refine g_iload dX10_game_141 rfl ?_
          refine g_none 7 ?_
          refine g_imul dX10_game_143 ?_
          refine g_iload dX10_game_144 rfl ?_
          refine g_none 8 ?_
          refine g_iadd dX10_game_146 ?_
          refine g_istore (i := 5) dX10_game_147 (by decide) rfl ?_
          exact J_X10_game_149_ok E hL Hkh59 Hke155
      · rw [if_neg q12] at hL
        refine g_none 7 ?_
        refine g_none 8 ?_
        refine g_goto (tgt := 149) dX10_game_127 (by decide) ?_
        exact J_X10_game_149_ok E hL Hkh59 Hke155
def P_X10_game_59 (ke155 : Int32 → Int32 → Int32 → wS → Option (Int32 × wS)) (n : Nat) (x1 : Int32) (x2 : Int32) (x3 : Int32) (x4 : Int32) (x5 : Int32) (x6 : Int32) (w : wS) : Option (Int32 × wS) :=
  xLoop (fun (kk : Int32 × Int32 × Int32 × Int32 × Int32 × Int32 × wS → Option (Int32 × wS)) σ => B_X10_game_59 (fun x1 x2 x3 x4 x5 x6 w => kk (x1, x2, x3, x4, x5, x6, w)) ke155 (σ.1) (σ.2.1) (σ.2.2.1) (σ.2.2.2.1) (σ.2.2.2.2.1) (σ.2.2.2.2.2.1) (σ.2.2.2.2.2.2)) n (x1, x2, x3, x4, x5, x6, w)
theorem P_X10_game_59_ok {G : aG} {Hf : wS → aH} {b : Nat} {ke155 : Int32 → Int32 → Int32 → wS → Option (Int32 × wS)} {n : Nat} {x1 : Int32} {x2 : Int32} {x3 : Int32} {x4 : Int32} {x5 : Int32} {x6 : Int32} {w : wS} {r : Int32 × wS} (E : Emb Hf b 0 tbM) (hL : P_X10_game_59 ke155 n x1 x2 x3 x4 x5 x6 w = some r) (Hke155 : ∀ (z0 : Int32) (z1 : Int32) (z2 : Int32) (w : wS), ke155 z0 z1 z2 w = some r → AG G M_X10_game 155 [none, none, none, some (.int (z0)), some (.int (z1)), some (.int (z2)), none, none, none] [] (Hf w) (.inl (some (.int r.1)), Hf r.2)) : AG G M_X10_game 59 [some (.ref (b + 0)), some (.int (x1)), some (.int (x2)), some (.int (x3)), some (.int (x4)), some (.int (x5)), some (.int (x6)), none, none] [] (Hf w) (.inl (some (.int r.1)), Hf r.2) :=
  xLoop_ok (Q := fun (σ : Int32 × Int32 × Int32 × Int32 × Int32 × Int32 × wS) => AG G M_X10_game 59 [some (.ref (b + 0)), some (.int (σ.1)), some (.int (σ.2.1)), some (.int (σ.2.2.1)), some (.int (σ.2.2.2.1)), some (.int (σ.2.2.2.2.1)), some (.int (σ.2.2.2.2.2.1)), none, none] [] (Hf σ.2.2.2.2.2.2) (.inl (some (.int r.1)), Hf r.2)) (fun kk hk σ hσ => B_X10_game_59_ok E hσ (fun x1 x2 x3 x4 x5 x6 w h9 => hk (x1, x2, x3, x4, x5, x6, w) h9) Hke155) n (x1, x2, x3, x4, x5, x6, w) hL
def J_X10_game_48 (w : wS) : Option (Int32 × wS) :=
  some (0, w)
set_option maxRecDepth 20000 in
theorem J_X10_game_48_ok {G : aG} {Hf : wS → aH} {b : Nat} {w : wS} {r : Int32 × wS} (E : Emb Hf b 0 tbM) (hL : J_X10_game_48   w = some r) : AG G M_X10_game 48 [none, none, none, none, none, none, none, none, none] [] (Hf w) (.inl (some (.int r.1)), Hf r.2) := by
  unfold J_X10_game_48 at hL
  refine g_iconst (v := 0) dX10_game_48 (by decide) ?_
  obtain rfl := Option.some.inj hL
  exact g_iret rfl dX10_game_49
def J_X10_game_41 (x1 : Int32) (x2 : Int32) (x3 : Int32) (y1 : Int32) (w : wS) : Option (Int32 × wS) :=
  xB2 (L_X10_right (y1) (2) w) fun v15 w16 => if v15 = 0 then J_X10_game_48   w16 else P_X10_game_59 (fun z17 z18 z19 w20 => if z17 = 0 then J_X10_game_166  (z18) w20 else J_X10_game_166  (z19) w20) 5000 (x1) (x2) (x3) (0) ((-1)) (0) w16
set_option maxRecDepth 20000 in
theorem J_X10_game_41_ok {G : aG} {Hf : wS → aH} {b : Nat} {x1 : Int32} {x2 : Int32} {x3 : Int32} {y1 : Int32} {w : wS} {r : Int32 × wS} (E : Emb Hf b 0 tbM) (hL : J_X10_game_41  x1 x2 x3 y1 w = some r) : AG G M_X10_game 41 [some (.ref (b + 0)), some (.int (x1)), some (.int (x2)), some (.int (x3)), none, none, none, none, none] [.int (y1), .ref (b + 0)] (Hf w) (.inl (some (.int r.1)), Hf r.2) := by
  unfold J_X10_game_41 at hL
  refine g_iconst (v := 2) dX10_game_41 (by decide) ?_
  obtain ⟨v15, w16, hc, hL⟩ := xB2_some hL
  refine g_callV (M' := M_X10_right) (as := [.int (y1), .int (2)]) (v := some (.int (v15))) l_X10_271 kV_X10_right (by decide) (C_X10_right E hc) rfl (by have := E.1; omega) (E.2.1 _ 0 _ rfl) ⟨_, _, rfl⟩ (Nat.le_of_ble_eq_true rfl) dX10_game_42 ?_
  refine g_if_ne (tgt := 50) dX10_game_45 (by decide) (fun q22 => ?_) (fun q22 => ?_)
  · rw [if_neg q22] at hL
    refine g_iconst (v := 0) dX10_game_50 (by decide) ?_
    refine g_istore (i := 4) dX10_game_51 (by decide) rfl ?_
    refine g_iconst (v := (-1)) dX10_game_53 (by decide) ?_
    refine g_istore (i := 5) dX10_game_54 (by decide) rfl ?_
    refine g_iconst (v := 0) dX10_game_56 (by decide) ?_
    refine g_istore (i := 6) dX10_game_57 (by decide) rfl ?_
    refine P_X10_game_59_ok E hL ?_
    · intro z17 z18 z19 w20 hL
      refine g_iload_n dX10_game_155 rfl rfl ?_
      refine g_none 3 ?_
      refine g_if_ne (tgt := 164) dX10_game_156 (by decide) (fun q21 => ?_) (fun q21 => ?_)
      · rw [if_neg q21] at hL
        refine g_none 4 ?_
        refine g_iload dX10_game_164 rfl ?_
        refine g_none 5 ?_
        exact J_X10_game_166_ok E hL 
      · rw [if_pos q21] at hL
        refine g_none 5 ?_
        refine g_iload dX10_game_159 rfl ?_
        refine g_none 4 ?_
        refine g_goto (tgt := 166) dX10_game_161 (by decide) ?_
        exact J_X10_game_166_ok E hL 
  · rw [if_pos q22] at hL
    refine g_none 0 ?_
    refine g_none 1 ?_
    refine g_none 2 ?_
    refine g_none 3 ?_
    exact J_X10_game_48_ok E hL 
def L_X10_game (a1 : Int32) (a2 : Int32) (a3 : Int32) (w : wS) : Option (Int32 × wS) :=
  xB (xPut w 0 (0)) fun w23 => xB2 (L_X10_isPerson (a1) w23) fun v24 w25 => if v24 = 0 then J_X10_game_48   w25 else xB2 (L_X10_isPerson (a2) w25) fun v26 w27 => if v26 = 0 then J_X10_game_48   w27 else xB2 (L_X10_isWhat (a3) (1) w27) fun v28 w29 => if v28 = 0 then J_X10_game_48   w29 else if a1 = a2 then J_X10_game_41  (a1) (a2) (a3) (0) w29 else J_X10_game_41  (a1) (a2) (a3) (1) w29
set_option maxRecDepth 20000 in
theorem C_X10_game {G : aG} {Hf : wS → aH} {b : Nat} {a1 : Int32} {a2 : Int32} {a3 : Int32} {w : wS} {r : Int32 × wS} (E : Emb Hf b 0 tbM) (hL : L_X10_game a1 a2 a3 w = some r) : AC G M_X10_game [.ref (b + 0), .int a1, .int a2, .int a3] (Hf w) (.inl (some (.int r.1)), Hf r.2) := by
  unfold L_X10_game at hL
  refine AC.of (by decide) rfl (Nat.le_of_ble_eq_true rfl) ?_
  show AG G M_X10_game 0 [some (.ref (b + 0)), some (.int (a1)), some (.int (a2)), some (.int (a3)), none, none, none, none, none] [] _ _
  refine g_aload_n dX10_game_0 rfl rfl ?_
  refine g_iconst (v := 0) dX10_game_1 (by decide) ?_
  refine s_putI (k := 0) (j := 0) E hL rfl rfl (by decide) fw_X10_120 rfl rfl dX10_game_2 ?_
  intro w23 hL
  refine g_aload_n dX10_game_5 rfl rfl ?_
  refine g_iload_n dX10_game_6 rfl rfl ?_
  obtain ⟨v24, w25, hc, hL⟩ := xB2_some hL
  refine g_callV (M' := M_X10_isPerson) (as := [.int (a1)]) (v := some (.int (v24))) l_X10_370 kV_X10_isPerson (by decide) (C_X10_isPerson E hc) rfl (by have := E.1; omega) (E.2.1 _ 0 _ rfl) ⟨_, _, rfl⟩ (Nat.le_of_ble_eq_true rfl) dX10_game_7 ?_
  refine g_if_eq (tgt := 48) dX10_game_10 (by decide) (fun q33 => ?_) (fun q33 => ?_)
  · rw [if_pos q33] at hL
    refine g_none 0 ?_
    refine g_none 1 ?_
    refine g_none 2 ?_
    refine g_none 3 ?_
    exact J_X10_game_48_ok E hL 
  · rw [if_neg q33] at hL
    refine g_aload_n dX10_game_13 rfl rfl ?_
    refine g_iload_n dX10_game_14 rfl rfl ?_
    obtain ⟨v26, w27, hc, hL⟩ := xB2_some hL
    refine g_callV (M' := M_X10_isPerson) (as := [.int (a2)]) (v := some (.int (v26))) l_X10_370 kV_X10_isPerson (by decide) (C_X10_isPerson E hc) rfl (by have := E.1; omega) (E.2.1 _ 0 _ rfl) ⟨_, _, rfl⟩ (Nat.le_of_ble_eq_true rfl) dX10_game_15 ?_
    refine g_if_eq (tgt := 48) dX10_game_18 (by decide) (fun q32 => ?_) (fun q32 => ?_)
    · rw [if_pos q32] at hL
      refine g_none 0 ?_
      refine g_none 1 ?_
      refine g_none 2 ?_
      refine g_none 3 ?_
      exact J_X10_game_48_ok E hL 
    · rw [if_neg q32] at hL
      refine g_aload_n dX10_game_21 rfl rfl ?_
      refine g_iload_n dX10_game_22 rfl rfl ?_
      refine g_iconst (v := 1) dX10_game_23 (by decide) ?_
      obtain ⟨v28, w29, hc, hL⟩ := xB2_some hL
      refine g_callV (M' := M_X10_isWhat) (as := [.int (a3), .int (1)]) (v := some (.int (v28))) l_X10_373 kV_X10_isWhat (by decide) (C_X10_isWhat E hc) rfl (by have := E.1; omega) (E.2.1 _ 0 _ rfl) ⟨_, _, rfl⟩ (Nat.le_of_ble_eq_true rfl) dX10_game_24 ?_
      refine g_if_eq (tgt := 48) dX10_game_27 (by decide) (fun q31 => ?_) (fun q31 => ?_)
      · rw [if_pos q31] at hL
        refine g_none 0 ?_
        refine g_none 1 ?_
        refine g_none 2 ?_
        refine g_none 3 ?_
        exact J_X10_game_48_ok E hL 
      · rw [if_neg q31] at hL
        refine g_aload_n dX10_game_30 rfl rfl ?_
        refine g_iload_n dX10_game_31 rfl rfl ?_
        refine g_iload_n dX10_game_32 rfl rfl ?_
        refine g_icmp_eq (tgt := 40) dX10_game_33 (by decide) (fun q30 => ?_) (fun q30 => ?_)
        · rw [if_pos q30] at hL
          refine g_iconst (v := 0) dX10_game_40 (by decide) ?_
          exact J_X10_game_41_ok E hL 
        · rw [if_neg q30] at hL
          refine g_iconst (v := 1) dX10_game_36 (by decide) ?_
          refine g_goto (tgt := 41) dX10_game_37 (by decide) ?_
          exact J_X10_game_41_ok E hL 
def L_X10_draw (a1 : Int32) (w : wS) : Option (Int32 × wS) :=
  xB (xGet w 62) fun v1 => xB (xPut w 62 (((v1 * 1103515245) + 12345))) fun w2 => xB (xGet w2 62) fun v3 => xB (xRem (((v3 >>> (16 &&& 31)) &&& 32767)) (a1)) fun v4 => some (v4, w2)
set_option maxRecDepth 20000 in
theorem C_X10_draw {G : aG} {Hf : wS → aH} {b : Nat} {a1 : Int32} {w : wS} {r : Int32 × wS} (E : Emb Hf b 0 tbM) (hL : L_X10_draw a1 w = some r) : AC G M_X10_draw [.ref (b + 0), .int a1] (Hf w) (.inl (some (.int r.1)), Hf r.2) := by
  unfold L_X10_draw at hL
  refine AC.of (by decide) rfl (Nat.le_of_ble_eq_true rfl) ?_
  show AG G M_X10_draw 0 [some (.ref (b + 0)), some (.int (a1))] [] _ _
  refine g_aload_n dX10_draw_0 rfl rfl ?_
  refine g_aload_n dX10_draw_1 rfl rfl ?_
  refine s_getI (k := 0) (j := 62) E hL rfl rfl f_X10_418 dX10_draw_2 ?_
  intro v1 hL
  refine g_ldcw (v := 1103515245) dX10_draw_5 n_X10_421 ?_
  refine g_imul dX10_draw_8 ?_
  refine g_sipush (v := 12345) dX10_draw_9 (by decide) ?_
  refine g_iadd dX10_draw_12 ?_
  refine s_putI (k := 0) (j := 62) E hL rfl rfl (by decide) fw_X10_418 rfl rfl dX10_draw_13 ?_
  intro w2 hL
  refine g_aload_n dX10_draw_16 rfl rfl ?_
  refine g_none 0 ?_
  refine s_getI (k := 0) (j := 62) E hL rfl rfl f_X10_418 dX10_draw_17 ?_
  intro v3 hL
  refine g_bipush (v := 16) dX10_draw_20 (by decide) ?_
  refine g_ishr dX10_draw_22 ?_
  refine g_sipush (v := 32767) dX10_draw_23 (by decide) ?_
  refine g_iand dX10_draw_26 ?_
  refine g_iload_n dX10_draw_27 rfl rfl ?_
  refine g_none 1 ?_
  refine s_irem hL dX10_draw_28 ?_
  intro v4 hL
  obtain rfl := Option.some.inj hL
  exact g_iret rfl dX10_draw_29
def J_X10_happens_66 (w : wS) : Option (wS) :=
  some w
set_option maxRecDepth 20000 in
theorem J_X10_happens_66_ok {G : aG} {Hf : wS → aH} {b : Nat} {w : wS} {r : wS} (E : Emb Hf b 0 tbM) (hL : J_X10_happens_66   w = some r) : AG G M_X10_happens 66 [none, none, none] [] (Hf w) (.inl none, Hf r) := by
  unfold J_X10_happens_66 at hL
  obtain rfl := Option.some.inj hL
  exact g_vret rfl dX10_happens_66
def L_X10_happens (w : wS) : Option (wS) :=
  xB (xGet w 1) fun v1 => xB2 (L_X10_draw (v1) w) fun v2 w3 => xB2 (L_X10_draw (5) w3) fun v4 w5 => if v4 = 0 then xB (xAld w5 16 66 (35)) fun v10 => xB (xAst w5 16 66 (35) ((v10 ^^^ (1 <<< (v2 &&& 31))))) fun w11 => J_X10_happens_66   w11 else if v4 = 1 then xB (xAst w5 16 66 ((36 + v2)) (0)) fun w8 => J_X10_happens_66   w8 else if v4 = 2 then xB (xAst w5 16 66 (34) (v2)) fun w6 => J_X10_happens_66   w6 else J_X10_happens_66   w5
set_option maxRecDepth 20000 in
theorem C_X10_happens {G : aG} {Hf : wS → aH} {b : Nat} {w : wS} {r : wS} (E : Emb Hf b 0 tbM) (hL : L_X10_happens  w = some r) : AC G M_X10_happens [.ref (b + 0)] (Hf w) (.inl none, Hf r) := by
  unfold L_X10_happens at hL
  refine AC.of (by decide) rfl (Nat.le_of_ble_eq_true rfl) ?_
  show AG G M_X10_happens 0 [some (.ref (b + 0)), none, none] [] _ _
  refine g_aload_n dX10_happens_0 rfl rfl ?_
  refine g_aload_n dX10_happens_1 rfl rfl ?_
  refine s_getI (k := 0) (j := 1) E hL rfl rfl f_X10_278 dX10_happens_2 ?_
  intro v1 hL
  obtain ⟨v2, w3, hc, hL⟩ := xB2_some hL
  refine g_callV (M' := M_X10_draw) (as := [.int (v1)]) (v := some (.int (v2))) l_X10_422 kV_X10_draw (by decide) (C_X10_draw E hc) rfl (by have := E.1; omega) (E.2.1 _ 0 _ rfl) ⟨_, _, rfl⟩ (Nat.le_of_ble_eq_true rfl) dX10_happens_5 ?_
  refine g_istore_n (i := 1) dX10_happens_8 rfl (by decide) rfl ?_
  refine g_aload_n dX10_happens_9 rfl rfl ?_
  refine g_iconst (v := 5) dX10_happens_10 (by decide) ?_
  obtain ⟨v4, w5, hc, hL⟩ := xB2_some hL
  refine g_callV (M' := M_X10_draw) (as := [.int (5)]) (v := some (.int (v4))) l_X10_422 kV_X10_draw (by decide) (C_X10_draw E hc) rfl (by have := E.1; omega) (E.2.1 _ 0 _ rfl) ⟨_, _, rfl⟩ (Nat.le_of_ble_eq_true rfl) dX10_happens_11 ?_
  refine g_istore_n (i := 2) dX10_happens_14 rfl (by decide) rfl ?_
  refine g_iload_n dX10_happens_15 rfl rfl ?_
  refine g_if_ne (tgt := 35) dX10_happens_16 (by decide) (fun q12 => ?_) (fun q12 => ?_)
  · rw [if_neg q12] at hL
    refine g_iload_n dX10_happens_35 rfl rfl ?_
    refine g_iconst (v := 1) dX10_happens_36 (by decide) ?_
    refine g_icmp_ne (tgt := 53) dX10_happens_37 (by decide) (fun q9 => ?_) (fun q9 => ?_)
    · rw [if_neg q9] at hL
      refine g_iload_n dX10_happens_53 rfl rfl ?_
      refine g_none 2 ?_
      refine g_iconst (v := 2) dX10_happens_54 (by decide) ?_
      refine g_icmp_ne (tgt := 66) dX10_happens_55 (by decide) (fun q7 => ?_) (fun q7 => ?_)
      · rw [if_neg q7] at hL
        refine g_none 0 ?_
        refine g_none 1 ?_
        exact J_X10_happens_66_ok E hL 
      · rw [if_pos q7] at hL
        refine g_aload_n dX10_happens_58 rfl rfl ?_
        refine g_none 0 ?_
        refine s_getR (j := 41) E rfl rfl f_X10_69 dX10_happens_59 ?_
        refine g_bipush (v := 34) dX10_happens_62 (by decide) ?_
        refine g_iload_n dX10_happens_64 rfl rfl ?_
        refine g_none 1 ?_
        refine s_iast (k := 16) E hL rfl dX10_happens_65 ?_
        intro w6 hL
        exact J_X10_happens_66_ok E hL 
    · rw [if_pos q9] at hL
      refine g_none 2 ?_
      refine g_aload_n dX10_happens_40 rfl rfl ?_
      refine g_none 0 ?_
      refine s_getR (j := 41) E rfl rfl f_X10_69 dX10_happens_41 ?_
      refine g_bipush (v := 36) dX10_happens_44 (by decide) ?_
      refine g_iload_n dX10_happens_46 rfl rfl ?_
      refine g_none 1 ?_
      refine g_iadd dX10_happens_47 ?_
      refine g_iconst (v := 0) dX10_happens_48 (by decide) ?_
      refine s_iast (k := 16) E hL rfl dX10_happens_49 ?_
      intro w8 hL
      refine g_goto (tgt := 66) dX10_happens_50 (by decide) ?_
      exact J_X10_happens_66_ok E hL 
  · rw [if_pos q12] at hL
    refine g_none 2 ?_
    refine g_aload_n dX10_happens_19 rfl rfl ?_
    refine g_none 0 ?_
    refine s_getR (j := 41) E rfl rfl f_X10_69 dX10_happens_20 ?_
    refine g_bipush (v := 35) dX10_happens_23 (by decide) ?_
    refine g_dup2 dX10_happens_25 rfl rfl ?_
    refine s_iald (k := 16) E hL rfl dX10_happens_26 ?_
    intro v10 hL
    refine g_iconst (v := 1) dX10_happens_27 (by decide) ?_
    refine g_iload_n dX10_happens_28 rfl rfl ?_
    refine g_none 1 ?_
    refine g_ishl dX10_happens_29 ?_
    refine g_ixor dX10_happens_30 ?_
    refine s_iast (k := 16) E hL rfl dX10_happens_31 ?_
    intro w11 hL
    refine g_goto (tgt := 66) dX10_happens_32 (by decide) ?_
    exact J_X10_happens_66_ok E hL 
def J_X10_years_158 (y0 : Int32) (w : wS) : Option (Int32 × wS) :=
  some (y0, w)
set_option maxRecDepth 20000 in
theorem J_X10_years_158_ok {G : aG} {Hf : wS → aH} {b : Nat} {y0 : Int32} {w : wS} {r : Int32 × wS} (E : Emb Hf b 0 tbM) (hL : J_X10_years_158  y0 w = some r) : AG G M_X10_years 158 [none, none, none, none, none, none, none] [.int (y0)] (Hf w) (.inl (some (.int r.1)), Hf r.2) := by
  unfold J_X10_years_158 at hL
  obtain rfl := Option.some.inj hL
  exact g_iret rfl dX10_years_158
def J_X10_years_127 (kh85 : Int32 → Int32 → Int32 → Int32 → wS → Option (Int32 × wS)) (ke133 : Int32 → Int32 → Int32 → wS → Option (Int32 × wS)) (x3 : Int32) (x4 : Int32) (x5 : Int32) (x6 : Int32) (w : wS) : Option (Int32 × wS) :=
  kh85 (x3) (x4) (x5) ((x6 + 1)) w
set_option maxRecDepth 20000 in
theorem J_X10_years_127_ok {G : aG} {Hf : wS → aH} {b : Nat} {kh85 : Int32 → Int32 → Int32 → Int32 → wS → Option (Int32 × wS)} {ke133 : Int32 → Int32 → Int32 → wS → Option (Int32 × wS)} {x3 : Int32} {x4 : Int32} {x5 : Int32} {x6 : Int32} {w : wS} {r : Int32 × wS} (E : Emb Hf b 0 tbM) (hL : J_X10_years_127 kh85 ke133 x3 x4 x5 x6 w = some r) (Hkh85 : ∀ (z0 : Int32) (z1 : Int32) (z2 : Int32) (z3 : Int32) (w : wS), kh85 z0 z1 z2 z3 w = some r → AG G M_X10_years 85 [some (.ref (b + 0)), none, none, some (.int (z0)), some (.int (z1)), some (.int (z2)), some (.int (z3))] [] (Hf w) (.inl (some (.int r.1)), Hf r.2)) (Hke133 : ∀ (z0 : Int32) (z1 : Int32) (z2 : Int32) (w : wS), ke133 z0 z1 z2 w = some r → AG G M_X10_years 133 [some (.ref (b + 0)), none, none, some (.int (z0)), some (.int (z1)), some (.int (z2)), none] [] (Hf w) (.inl (some (.int r.1)), Hf r.2)) : AG G M_X10_years 127 [some (.ref (b + 0)), none, none, some (.int (x3)), some (.int (x4)), some (.int (x5)), some (.int (x6))] [] (Hf w) (.inl (some (.int r.1)), Hf r.2) := by
  unfold J_X10_years_127 at hL
  refine g_iincV (v := (x6 + 1)) dX10_years_127 rfl rfl (by decide) rfl ?_
  refine g_goto (tgt := 85) dX10_years_130 (by decide) ?_
  exact Hkh85 _ _ _ _ _ hL
def J_X10_years_123 (kh85 : Int32 → Int32 → Int32 → Int32 → wS → Option (Int32 × wS)) (ke133 : Int32 → Int32 → Int32 → wS → Option (Int32 × wS)) (x3 : Int32) (x4 : Int32) (x6 : Int32) (w : wS) : Option (Int32 × wS) :=
  J_X10_years_127 kh85 ke133 (x3) (x4) (x6) (x6) w
set_option maxRecDepth 20000 in
theorem J_X10_years_123_ok {G : aG} {Hf : wS → aH} {b : Nat} {kh85 : Int32 → Int32 → Int32 → Int32 → wS → Option (Int32 × wS)} {ke133 : Int32 → Int32 → Int32 → wS → Option (Int32 × wS)} {x3 : Int32} {x4 : Int32} {x6 : Int32} {w : wS} {r : Int32 × wS} (E : Emb Hf b 0 tbM) (hL : J_X10_years_123 kh85 ke133 x3 x4 x6 w = some r) (Hkh85 : ∀ (z0 : Int32) (z1 : Int32) (z2 : Int32) (z3 : Int32) (w : wS), kh85 z0 z1 z2 z3 w = some r → AG G M_X10_years 85 [some (.ref (b + 0)), none, none, some (.int (z0)), some (.int (z1)), some (.int (z2)), some (.int (z3))] [] (Hf w) (.inl (some (.int r.1)), Hf r.2)) (Hke133 : ∀ (z0 : Int32) (z1 : Int32) (z2 : Int32) (w : wS), ke133 z0 z1 z2 w = some r → AG G M_X10_years 133 [some (.ref (b + 0)), none, none, some (.int (z0)), some (.int (z1)), some (.int (z2)), none] [] (Hf w) (.inl (some (.int r.1)), Hf r.2)) : AG G M_X10_years 123 [some (.ref (b + 0)), none, none, some (.int (x3)), some (.int (x4)), none, some (.int (x6))] [] (Hf w) (.inl (some (.int r.1)), Hf r.2) := by
  unfold J_X10_years_123 at hL
  refine g_iload dX10_years_123 rfl ?_
  refine g_istore (i := 5) dX10_years_125 (by decide) rfl ?_
  exact J_X10_years_127_ok E hL Hkh85 Hke133
def B_X10_years_85 (kh85 : Int32 → Int32 → Int32 → Int32 → wS → Option (Int32 × wS)) (ke133 : Int32 → Int32 → Int32 → wS → Option (Int32 × wS)) (x3 : Int32) (x4 : Int32) (x5 : Int32) (x6 : Int32) (w : wS) : Option (Int32 × wS) :=
  xB (xGet w 1) fun v1 => if v1 ≤ x6 then ke133 (x3) (x4) (x5) w else if x5 = (-1) then J_X10_years_123 kh85 ke133 (x3) (x4) (x6) w else xB (xAld w 16 66 ((52 + x6))) fun v2 => xB (xAld w 16 66 ((52 + x5))) fun v3 => if v2 ≤ v3 then J_X10_years_127 kh85 ke133 (x3) (x4) (x5) (x6) w else J_X10_years_123 kh85 ke133 (x3) (x4) (x6) w
set_option maxRecDepth 20000 in
theorem B_X10_years_85_ok {G : aG} {Hf : wS → aH} {b : Nat} {kh85 : Int32 → Int32 → Int32 → Int32 → wS → Option (Int32 × wS)} {ke133 : Int32 → Int32 → Int32 → wS → Option (Int32 × wS)} {x3 : Int32} {x4 : Int32} {x5 : Int32} {x6 : Int32} {w : wS} {r : Int32 × wS} (E : Emb Hf b 0 tbM) (hL : B_X10_years_85 kh85 ke133 x3 x4 x5 x6 w = some r) (Hkh85 : ∀ (z0 : Int32) (z1 : Int32) (z2 : Int32) (z3 : Int32) (w : wS), kh85 z0 z1 z2 z3 w = some r → AG G M_X10_years 85 [some (.ref (b + 0)), none, none, some (.int (z0)), some (.int (z1)), some (.int (z2)), some (.int (z3))] [] (Hf w) (.inl (some (.int r.1)), Hf r.2)) (Hke133 : ∀ (z0 : Int32) (z1 : Int32) (z2 : Int32) (w : wS), ke133 z0 z1 z2 w = some r → AG G M_X10_years 133 [some (.ref (b + 0)), none, none, some (.int (z0)), some (.int (z1)), some (.int (z2)), none] [] (Hf w) (.inl (some (.int r.1)), Hf r.2)) : AG G M_X10_years 85 [some (.ref (b + 0)), none, none, some (.int (x3)), some (.int (x4)), some (.int (x5)), some (.int (x6))] [] (Hf w) (.inl (some (.int r.1)), Hf r.2) := by
  unfold B_X10_years_85 at hL
  refine g_iload dX10_years_85 rfl ?_
  refine g_aload_n dX10_years_87 rfl rfl ?_
  refine s_getI (k := 0) (j := 1) E hL rfl rfl f_X10_278 dX10_years_88 ?_
  intro v1 hL
  refine g_icmp_ge (tgt := 133) dX10_years_91 (by decide) (fun q6 => ?_) (fun q6 => ?_)
  · rw [if_pos q6] at hL
    refine g_none 6 ?_
    exact Hke133 _ _ _ _ hL
  · rw [if_neg q6] at hL
    refine g_iload dX10_years_94 rfl ?_
    refine g_iconst (v := (-1)) dX10_years_96 (by decide) ?_
    refine g_icmp_eq (tgt := 123) dX10_years_97 (by decide) (fun q5 => ?_) (fun q5 => ?_)
    · rw [if_pos q5] at hL
      refine g_none 5 ?_
      exact J_X10_years_123_ok E hL Hkh85 Hke133
    · rw [if_neg q5] at hL
      refine g_aload_n dX10_years_100 rfl rfl ?_
      refine s_getR (j := 41) E rfl rfl f_X10_69 dX10_years_101 ?_
      refine g_bipush (v := 52) dX10_years_104 (by decide) ?_
      refine g_iload dX10_years_106 rfl ?_
      refine g_iadd dX10_years_108 ?_
      refine s_iald (k := 16) E hL rfl dX10_years_109 ?_
      intro v2 hL
      refine g_aload_n dX10_years_110 rfl rfl ?_
      refine s_getR (j := 41) E rfl rfl f_X10_69 dX10_years_111 ?_
      refine g_bipush (v := 52) dX10_years_114 (by decide) ?_
      refine g_iload dX10_years_116 rfl ?_
      refine g_iadd dX10_years_118 ?_
      refine s_iald (k := 16) E hL rfl dX10_years_119 ?_
      intro v3 hL
      refine g_icmp_le (tgt := 127) dX10_years_120 (by decide) (fun q4 => ?_) (fun q4 => ?_)
      · rw [if_pos q4] at hL
        exact J_X10_years_127_ok E hL Hkh85 Hke133
      · rw [if_neg q4] at hL
        refine g_none 5 ?_
        exact J_X10_years_123_ok E hL Hkh85 Hke133
def P_X10_years_85 (ke133 : Int32 → Int32 → Int32 → wS → Option (Int32 × wS)) (n : Nat) (x3 : Int32) (x4 : Int32) (x5 : Int32) (x6 : Int32) (w : wS) : Option (Int32 × wS) :=
  xLoop (fun (kk : Int32 × Int32 × Int32 × Int32 × wS → Option (Int32 × wS)) σ => B_X10_years_85 (fun x3 x4 x5 x6 w => kk (x3, x4, x5, x6, w)) ke133 (σ.1) (σ.2.1) (σ.2.2.1) (σ.2.2.2.1) (σ.2.2.2.2)) n (x3, x4, x5, x6, w)
theorem P_X10_years_85_ok {G : aG} {Hf : wS → aH} {b : Nat} {ke133 : Int32 → Int32 → Int32 → wS → Option (Int32 × wS)} {n : Nat} {x3 : Int32} {x4 : Int32} {x5 : Int32} {x6 : Int32} {w : wS} {r : Int32 × wS} (E : Emb Hf b 0 tbM) (hL : P_X10_years_85 ke133 n x3 x4 x5 x6 w = some r) (Hke133 : ∀ (z0 : Int32) (z1 : Int32) (z2 : Int32) (w : wS), ke133 z0 z1 z2 w = some r → AG G M_X10_years 133 [some (.ref (b + 0)), none, none, some (.int (z0)), some (.int (z1)), some (.int (z2)), none] [] (Hf w) (.inl (some (.int r.1)), Hf r.2)) : AG G M_X10_years 85 [some (.ref (b + 0)), none, none, some (.int (x3)), some (.int (x4)), some (.int (x5)), some (.int (x6))] [] (Hf w) (.inl (some (.int r.1)), Hf r.2) :=
  xLoop_ok (Q := fun (σ : Int32 × Int32 × Int32 × Int32 × wS) => AG G M_X10_years 85 [some (.ref (b + 0)), none, none, some (.int (σ.1)), some (.int (σ.2.1)), some (.int (σ.2.2.1)), some (.int (σ.2.2.2.1))] [] (Hf σ.2.2.2.2) (.inl (some (.int r.1)), Hf r.2)) (fun kk hk σ hσ => B_X10_years_85_ok E hσ (fun x3 x4 x5 x6 w h9 => hk (x3, x4, x5, x6, w) h9) Hke133) n (x3, x4, x5, x6, w) hL
def J_X10_years_58 (kh41 : Int32 → Int32 → Int32 → Int32 → wS → Option (Int32 × wS)) (ke79 : Int32 → Int32 → wS → Option (Int32 × wS)) (x2 : Int32) (x3 : Int32) (x4 : Int32) (x5 : Int32) (w : wS) : Option (Int32 × wS) :=
  xB (L_X10_dayGoes (33) w) fun w7 => xB (xGet w7 51) fun v8 => kh41 (x2) (x3) ((x4 + v8)) ((x5 + 1)) w7
set_option maxRecDepth 20000 in
theorem J_X10_years_58_ok {G : aG} {Hf : wS → aH} {b : Nat} {kh41 : Int32 → Int32 → Int32 → Int32 → wS → Option (Int32 × wS)} {ke79 : Int32 → Int32 → wS → Option (Int32 × wS)} {x2 : Int32} {x3 : Int32} {x4 : Int32} {x5 : Int32} {w : wS} {r : Int32 × wS} (E : Emb Hf b 0 tbM) (hL : J_X10_years_58 kh41 ke79 x2 x3 x4 x5 w = some r) (Hkh41 : ∀ (z0 : Int32) (z1 : Int32) (z2 : Int32) (z3 : Int32) (w : wS), kh41 z0 z1 z2 z3 w = some r → AG G M_X10_years 41 [some (.ref (b + 0)), none, some (.int (z0)), some (.int (z1)), some (.int (z2)), some (.int (z3)), none] [] (Hf w) (.inl (some (.int r.1)), Hf r.2)) (Hke79 : ∀ (z0 : Int32) (z1 : Int32) (w : wS), ke79 z0 z1 w = some r → AG G M_X10_years 79 [some (.ref (b + 0)), none, none, some (.int (z0)), some (.int (z1)), none, none] [] (Hf w) (.inl (some (.int r.1)), Hf r.2)) : AG G M_X10_years 58 [some (.ref (b + 0)), none, some (.int (x2)), some (.int (x3)), some (.int (x4)), some (.int (x5)), none] [] (Hf w) (.inl (some (.int r.1)), Hf r.2) := by
  unfold J_X10_years_58 at hL
  refine g_aload_n dX10_years_58 rfl rfl ?_
  refine g_bipush (v := 33) dX10_years_59 (by decide) ?_
  obtain ⟨w7, hc, hL⟩ := xB_some hL
  refine g_callV (M' := M_X10_dayGoes) (as := [.int (33)]) (v := none) l_X10_358 kV_X10_dayGoes (by decide) (C_X10_dayGoes E hc) rfl (by have := E.1; omega) (E.2.1 _ 0 _ rfl) ⟨_, _, rfl⟩ (Nat.le_of_ble_eq_true rfl) dX10_years_61 ?_
  refine g_iload dX10_years_64 rfl ?_
  refine g_none 4 ?_
  refine g_aload_n dX10_years_66 rfl rfl ?_
  refine s_getI (k := 0) (j := 51) E hL rfl rfl f_X10_337 dX10_years_67 ?_
  intro v8 hL
  refine g_iadd dX10_years_70 ?_
  refine g_istore (i := 4) dX10_years_71 (by decide) rfl ?_
  refine g_iincV (v := (x5 + 1)) dX10_years_73 rfl rfl (by decide) rfl ?_
  refine g_goto (tgt := 41) dX10_years_76 (by decide) ?_
  exact Hkh41 _ _ _ _ _ hL
def B_X10_years_41 (kh41 : Int32 → Int32 → Int32 → Int32 → wS → Option (Int32 × wS)) (ke79 : Int32 → Int32 → wS → Option (Int32 × wS)) (x2 : Int32) (x3 : Int32) (x4 : Int32) (x5 : Int32) (w : wS) : Option (Int32 × wS) :=
  if x2 ≤ x5 then ke79 (x3) (x4) w else xB (xGet w 1) fun v9 => if v9 ≤ 0 then J_X10_years_58 kh41 ke79 (x2) (x3) (x4) (x5) w else xB (L_X10_happens  w) fun w10 => J_X10_years_58 kh41 ke79 (x2) (x3) (x4) (x5) w10
set_option maxRecDepth 20000 in
theorem B_X10_years_41_ok {G : aG} {Hf : wS → aH} {b : Nat} {kh41 : Int32 → Int32 → Int32 → Int32 → wS → Option (Int32 × wS)} {ke79 : Int32 → Int32 → wS → Option (Int32 × wS)} {x2 : Int32} {x3 : Int32} {x4 : Int32} {x5 : Int32} {w : wS} {r : Int32 × wS} (E : Emb Hf b 0 tbM) (hL : B_X10_years_41 kh41 ke79 x2 x3 x4 x5 w = some r) (Hkh41 : ∀ (z0 : Int32) (z1 : Int32) (z2 : Int32) (z3 : Int32) (w : wS), kh41 z0 z1 z2 z3 w = some r → AG G M_X10_years 41 [some (.ref (b + 0)), none, some (.int (z0)), some (.int (z1)), some (.int (z2)), some (.int (z3)), none] [] (Hf w) (.inl (some (.int r.1)), Hf r.2)) (Hke79 : ∀ (z0 : Int32) (z1 : Int32) (w : wS), ke79 z0 z1 w = some r → AG G M_X10_years 79 [some (.ref (b + 0)), none, none, some (.int (z0)), some (.int (z1)), none, none] [] (Hf w) (.inl (some (.int r.1)), Hf r.2)) : AG G M_X10_years 41 [some (.ref (b + 0)), none, some (.int (x2)), some (.int (x3)), some (.int (x4)), some (.int (x5)), none] [] (Hf w) (.inl (some (.int r.1)), Hf r.2) := by
  unfold B_X10_years_41 at hL
  refine g_iload dX10_years_41 rfl ?_
  refine g_iload_n dX10_years_43 rfl rfl ?_
  refine g_icmp_ge (tgt := 79) dX10_years_44 (by decide) (fun q12 => ?_) (fun q12 => ?_)
  · rw [if_pos q12] at hL
    refine g_none 2 ?_
    refine g_none 5 ?_
    exact Hke79 _ _ _ hL
  · rw [if_neg q12] at hL
    refine g_aload_n dX10_years_47 rfl rfl ?_
    refine s_getI (k := 0) (j := 1) E hL rfl rfl f_X10_278 dX10_years_48 ?_
    intro v9 hL
    refine g_if_le (tgt := 58) dX10_years_51 (by decide) (fun q11 => ?_) (fun q11 => ?_)
    · rw [if_pos q11] at hL
      exact J_X10_years_58_ok E hL Hkh41 Hke79
    · rw [if_neg q11] at hL
      refine g_aload_n dX10_years_54 rfl rfl ?_
      obtain ⟨w10, hc, hL⟩ := xB_some hL
      refine g_callV (M' := M_X10_happens) (as := []) (v := none) l_X10_425 kV_X10_happens (by decide) (C_X10_happens E hc) rfl (by have := E.1; omega) (E.2.1 _ 0 _ rfl) ⟨_, _, rfl⟩ (Nat.le_of_ble_eq_true rfl) dX10_years_55 ?_
      exact J_X10_years_58_ok E hL Hkh41 Hke79
def P_X10_years_41 (ke79 : Int32 → Int32 → wS → Option (Int32 × wS)) (n : Nat) (x2 : Int32) (x3 : Int32) (x4 : Int32) (x5 : Int32) (w : wS) : Option (Int32 × wS) :=
  xLoop (fun (kk : Int32 × Int32 × Int32 × Int32 × wS → Option (Int32 × wS)) σ => B_X10_years_41 (fun x2 x3 x4 x5 w => kk (x2, x3, x4, x5, w)) ke79 (σ.1) (σ.2.1) (σ.2.2.1) (σ.2.2.2.1) (σ.2.2.2.2)) n (x2, x3, x4, x5, w)
theorem P_X10_years_41_ok {G : aG} {Hf : wS → aH} {b : Nat} {ke79 : Int32 → Int32 → wS → Option (Int32 × wS)} {n : Nat} {x2 : Int32} {x3 : Int32} {x4 : Int32} {x5 : Int32} {w : wS} {r : Int32 × wS} (E : Emb Hf b 0 tbM) (hL : P_X10_years_41 ke79 n x2 x3 x4 x5 w = some r) (Hke79 : ∀ (z0 : Int32) (z1 : Int32) (w : wS), ke79 z0 z1 w = some r → AG G M_X10_years 79 [some (.ref (b + 0)), none, none, some (.int (z0)), some (.int (z1)), none, none] [] (Hf w) (.inl (some (.int r.1)), Hf r.2)) : AG G M_X10_years 41 [some (.ref (b + 0)), none, some (.int (x2)), some (.int (x3)), some (.int (x4)), some (.int (x5)), none] [] (Hf w) (.inl (some (.int r.1)), Hf r.2) :=
  xLoop_ok (Q := fun (σ : Int32 × Int32 × Int32 × Int32 × wS) => AG G M_X10_years 41 [some (.ref (b + 0)), none, some (.int (σ.1)), some (.int (σ.2.1)), some (.int (σ.2.2.1)), some (.int (σ.2.2.2.1)), none] [] (Hf σ.2.2.2.2) (.inl (some (.int r.1)), Hf r.2)) (fun kk hk σ hσ => B_X10_years_41_ok E hσ (fun x2 x3 x4 x5 w h9 => hk (x2, x3, x4, x5, w) h9) Hke79) n (x2, x3, x4, x5, w) hL
def J_X10_years_24 (w : wS) : Option (Int32 × wS) :=
  some (0, w)
set_option maxRecDepth 20000 in
theorem J_X10_years_24_ok {G : aG} {Hf : wS → aH} {b : Nat} {w : wS} {r : Int32 × wS} (E : Emb Hf b 0 tbM) (hL : J_X10_years_24   w = some r) : AG G M_X10_years 24 [none, none, none, none, none, none, none] [] (Hf w) (.inl (some (.int r.1)), Hf r.2) := by
  unfold J_X10_years_24 at hL
  refine g_iconst (v := 0) dX10_years_24 (by decide) ?_
  obtain rfl := Option.some.inj hL
  exact g_iret rfl dX10_years_25
def L_X10_years (a1 : Int32) (a2 : Int32) (a3 : Int32) (w : wS) : Option (Int32 × wS) :=
  xB (xPut w 0 (0)) fun w13 => xB2 (L_X10_isWhat (a3) (2) w13) fun v14 w15 => if v14 = 0 then J_X10_years_24   w15 else xB2 (L_X10_isDays (a2) (0) (2) w15) fun v16 w17 => if v16 = 0 then J_X10_years_24   w17 else xB (L_X10_tries  w17) fun w18 => xB (xPut w18 62 (a1)) fun w19 => P_X10_years_41 (fun z20 z21 w22 => P_X10_years_85 (fun z23 z24 z25 w26 => if z23 = 0 then J_X10_years_158  (z25) w26 else if z23 = 1 then J_X10_years_158  (z24) w26 else xB2 (L_X10_hasteOf (33) w26) fun v27 w28 => J_X10_years_158  (v27) w28) 5000 (z20) (z21) ((-1)) (0) w22) 5000 (a2) (a3) (0) (0) w19
set_option maxRecDepth 20000 in
theorem C_X10_years {G : aG} {Hf : wS → aH} {b : Nat} {a1 : Int32} {a2 : Int32} {a3 : Int32} {w : wS} {r : Int32 × wS} (E : Emb Hf b 0 tbM) (hL : L_X10_years a1 a2 a3 w = some r) : AC G M_X10_years [.ref (b + 0), .int a1, .int a2, .int a3] (Hf w) (.inl (some (.int r.1)), Hf r.2) := by
  unfold L_X10_years at hL
  refine AC.of (by decide) rfl (Nat.le_of_ble_eq_true rfl) ?_
  show AG G M_X10_years 0 [some (.ref (b + 0)), some (.int (a1)), some (.int (a2)), some (.int (a3)), none, none, none] [] _ _
  refine g_aload_n dX10_years_0 rfl rfl ?_
  refine g_iconst (v := 0) dX10_years_1 (by decide) ?_
  refine s_putI (k := 0) (j := 0) E hL rfl rfl (by decide) fw_X10_120 rfl rfl dX10_years_2 ?_
  intro w13 hL
  refine g_aload_n dX10_years_5 rfl rfl ?_
  refine g_iload_n dX10_years_6 rfl rfl ?_
  refine g_iconst (v := 2) dX10_years_7 (by decide) ?_
  obtain ⟨v14, w15, hc, hL⟩ := xB2_some hL
  refine g_callV (M' := M_X10_isWhat) (as := [.int (a3), .int (2)]) (v := some (.int (v14))) l_X10_373 kV_X10_isWhat (by decide) (C_X10_isWhat E hc) rfl (by have := E.1; omega) (E.2.1 _ 0 _ rfl) ⟨_, _, rfl⟩ (Nat.le_of_ble_eq_true rfl) dX10_years_8 ?_
  refine g_if_eq (tgt := 24) dX10_years_11 (by decide) (fun q32 => ?_) (fun q32 => ?_)
  · rw [if_pos q32] at hL
    refine g_none 0 ?_
    refine g_none 1 ?_
    refine g_none 2 ?_
    refine g_none 3 ?_
    exact J_X10_years_24_ok E hL 
  · rw [if_neg q32] at hL
    refine g_aload_n dX10_years_14 rfl rfl ?_
    refine g_iload_n dX10_years_15 rfl rfl ?_
    refine g_iconst (v := 0) dX10_years_16 (by decide) ?_
    refine g_iconst (v := 2) dX10_years_17 (by decide) ?_
    obtain ⟨v16, w17, hc, hL⟩ := xB2_some hL
    refine g_callV (M' := M_X10_isDays) (as := [.int (a2), .int (0), .int (2)]) (v := some (.int (v16))) l_X10_394 kV_X10_isDays (by decide) (C_X10_isDays E hc) rfl (by have := E.1; omega) (E.2.1 _ 0 _ rfl) ⟨_, _, rfl⟩ (Nat.le_of_ble_eq_true rfl) dX10_years_18 ?_
    refine g_if_ne (tgt := 26) dX10_years_21 (by decide) (fun q31 => ?_) (fun q31 => ?_)
    · rw [if_neg q31] at hL
      refine g_aload_n dX10_years_26 rfl rfl ?_
      obtain ⟨w18, hc, hL⟩ := xB_some hL
      refine g_callV (M' := M_X10_tries) (as := []) (v := none) l_X10_388 kV_X10_tries (by decide) (C_X10_tries E hc) rfl (by have := E.1; omega) (E.2.1 _ 0 _ rfl) ⟨_, _, rfl⟩ (Nat.le_of_ble_eq_true rfl) dX10_years_27 ?_
      refine g_aload_n dX10_years_30 rfl rfl ?_
      refine g_iload_n dX10_years_31 rfl rfl ?_
      refine g_none 1 ?_
      refine s_putI (k := 0) (j := 62) E hL rfl rfl (by decide) fw_X10_418 rfl rfl dX10_years_32 ?_
      intro w19 hL
      refine g_iconst (v := 0) dX10_years_35 (by decide) ?_
      refine g_istore (i := 4) dX10_years_36 (by decide) rfl ?_
      refine g_iconst (v := 0) dX10_years_38 (by decide) ?_
      refine g_istore (i := 5) dX10_years_39 (by decide) rfl ?_
      refine P_X10_years_41_ok E hL ?_
      · intro z20 z21 w22 hL
        refine g_iconst (v := (-1)) dX10_years_79 (by decide) ?_
        refine g_istore (i := 5) dX10_years_80 (by decide) rfl ?_
        refine g_iconst (v := 0) dX10_years_82 (by decide) ?_
        refine g_istore (i := 6) dX10_years_83 (by decide) rfl ?_
        refine P_X10_years_85_ok E hL ?_
        · intro z23 z24 z25 w26 hL
          refine g_iload_n dX10_years_133 rfl rfl ?_
          refine g_if_ne (tgt := 142) dX10_years_134 (by decide) (fun q30 => ?_) (fun q30 => ?_)
          · rw [if_neg q30] at hL
            refine g_none 5 ?_
            refine g_iload_n dX10_years_142 rfl rfl ?_
            refine g_none 3 ?_
            refine g_iconst (v := 1) dX10_years_143 (by decide) ?_
            refine g_icmp_ne (tgt := 152) dX10_years_144 (by decide) (fun q29 => ?_) (fun q29 => ?_)
            · rw [if_neg q29] at hL
              refine g_none 4 ?_
              refine g_aload_n dX10_years_152 rfl rfl ?_
              refine g_none 0 ?_
              refine g_bipush (v := 33) dX10_years_153 (by decide) ?_
              obtain ⟨v27, w28, hc, hL⟩ := xB2_some hL
              refine g_callV (M' := M_X10_hasteOf) (as := [.int (33)]) (v := some (.int (v27))) l_X10_364 kV_X10_hasteOf (by decide) (C_X10_hasteOf E hc) rfl (by have := E.1; omega) (E.2.1 _ 0 _ rfl) ⟨_, _, rfl⟩ (Nat.le_of_ble_eq_true rfl) dX10_years_155 ?_
              exact J_X10_years_158_ok E hL 
            · rw [if_pos q29] at hL
              refine g_none 0 ?_
              refine g_iload dX10_years_147 rfl ?_
              refine g_none 4 ?_
              refine g_goto (tgt := 158) dX10_years_149 (by decide) ?_
              exact J_X10_years_158_ok E hL 
          · rw [if_pos q30] at hL
            refine g_none 0 ?_
            refine g_none 3 ?_
            refine g_none 4 ?_
            refine g_iload dX10_years_137 rfl ?_
            refine g_none 5 ?_
            refine g_goto (tgt := 158) dX10_years_139 (by decide) ?_
            exact J_X10_years_158_ok E hL 
    · rw [if_pos q31] at hL
      refine g_none 0 ?_
      refine g_none 1 ?_
      refine g_none 2 ?_
      refine g_none 3 ?_
      exact J_X10_years_24_ok E hL 
def J_X10_coming_236 (kh49 : Int32 → Int32 → Int32 → Int32 → wS → Option (Int32 × wS)) (ke214 : Int32 → Int32 → Int32 → wS → Option (Int32 × wS)) (ke242 : wS → Option (Int32 × wS)) (x1 : Int32) (x2 : Int32) (x3 : Int32) (x4 : Int32) (w : wS) : Option (Int32 × wS) :=
  kh49 (x1) (x2) (x3) ((x4 + 1)) w
set_option maxRecDepth 20000 in
theorem J_X10_coming_236_ok {G : aG} {Hf : wS → aH} {b : Nat} {kh49 : Int32 → Int32 → Int32 → Int32 → wS → Option (Int32 × wS)} {ke214 : Int32 → Int32 → Int32 → wS → Option (Int32 × wS)} {ke242 : wS → Option (Int32 × wS)} {x1 : Int32} {x2 : Int32} {x3 : Int32} {x4 : Int32} {w : wS} {r : Int32 × wS} (E : Emb Hf b 0 tbM) (hL : J_X10_coming_236 kh49 ke214 ke242 x1 x2 x3 x4 w = some r) (Hkh49 : ∀ (z0 : Int32) (z1 : Int32) (z2 : Int32) (z3 : Int32) (w : wS), kh49 z0 z1 z2 z3 w = some r → AG G M_X10_coming 49 [some (.ref (b + 0)), some (.int (z0)), some (.int (z1)), some (.int (z2)), some (.int (z3)), none, none, none] [] (Hf w) (.inl (some (.int r.1)), Hf r.2)) (Hke214 : ∀ (z0 : Int32) (z1 : Int32) (z2 : Int32) (w : wS), ke214 z0 z1 z2 w = some r → AG G M_X10_coming 214 [some (.ref (b + 0)), some (.int (z0)), none, some (.int (z1)), some (.int (z2)), none, none, none] [] (Hf w) (.inl (some (.int r.1)), Hf r.2)) (Hke242 : ∀ (w : wS), ke242  w = some r → AG G M_X10_coming 242 [none, none, none, none, none, none, none, none] [] (Hf w) (.inl (some (.int r.1)), Hf r.2)) : AG G M_X10_coming 236 [some (.ref (b + 0)), some (.int (x1)), some (.int (x2)), some (.int (x3)), some (.int (x4)), none, none, none] [] (Hf w) (.inl (some (.int r.1)), Hf r.2) := by
  unfold J_X10_coming_236 at hL
  refine g_iincV (v := (x4 + 1)) dX10_coming_236 rfl rfl (by decide) rfl ?_
  refine g_goto (tgt := 49) dX10_coming_239 (by decide) ?_
  exact Hkh49 _ _ _ _ _ hL
def J_X10_coming_235 (y0 : Int32) (w : wS) : Option (Int32 × wS) :=
  some (y0, w)
set_option maxRecDepth 20000 in
theorem J_X10_coming_235_ok {G : aG} {Hf : wS → aH} {b : Nat} {y0 : Int32} {w : wS} {r : Int32 × wS} (E : Emb Hf b 0 tbM) (hL : J_X10_coming_235  y0 w = some r) : AG G M_X10_coming 235 [none, none, none, none, none, none, none, none] [.int (y0)] (Hf w) (.inl (some (.int r.1)), Hf r.2) := by
  unfold J_X10_coming_235 at hL
  obtain rfl := Option.some.inj hL
  exact g_iret rfl dX10_coming_235
def J_X10_coming_202 (kh77 : Int32 → Int32 → Int32 → Int32 → Int32 → Int32 → wS → Option (Int32 × wS)) (ke208 : Int32 → Int32 → Int32 → Int32 → Int32 → wS → Option (Int32 × wS)) (x1 : Int32) (x2 : Int32) (x3 : Int32) (x4 : Int32) (x5 : Int32) (x6 : Int32) (w : wS) : Option (Int32 × wS) :=
  kh77 (x1) (x2) (x3) (x4) (x5) ((x6 + 1)) w
set_option maxRecDepth 20000 in
theorem J_X10_coming_202_ok {G : aG} {Hf : wS → aH} {b : Nat} {kh77 : Int32 → Int32 → Int32 → Int32 → Int32 → Int32 → wS → Option (Int32 × wS)} {ke208 : Int32 → Int32 → Int32 → Int32 → Int32 → wS → Option (Int32 × wS)} {x1 : Int32} {x2 : Int32} {x3 : Int32} {x4 : Int32} {x5 : Int32} {x6 : Int32} {w : wS} {r : Int32 × wS} (E : Emb Hf b 0 tbM) (hL : J_X10_coming_202 kh77 ke208 x1 x2 x3 x4 x5 x6 w = some r) (Hkh77 : ∀ (z0 : Int32) (z1 : Int32) (z2 : Int32) (z3 : Int32) (z4 : Int32) (z5 : Int32) (w : wS), kh77 z0 z1 z2 z3 z4 z5 w = some r → AG G M_X10_coming 77 [some (.ref (b + 0)), some (.int (z0)), some (.int (z1)), some (.int (z2)), some (.int (z3)), some (.int (z4)), some (.int (z5)), none] [] (Hf w) (.inl (some (.int r.1)), Hf r.2)) (Hke208 : ∀ (z0 : Int32) (z1 : Int32) (z2 : Int32) (z3 : Int32) (z4 : Int32) (w : wS), ke208 z0 z1 z2 z3 z4 w = some r → AG G M_X10_coming 208 [some (.ref (b + 0)), some (.int (z0)), some (.int (z1)), some (.int (z2)), some (.int (z3)), some (.int (z4)), none, none] [] (Hf w) (.inl (some (.int r.1)), Hf r.2)) : AG G M_X10_coming 202 [some (.ref (b + 0)), some (.int (x1)), some (.int (x2)), some (.int (x3)), some (.int (x4)), some (.int (x5)), some (.int (x6)), none] [] (Hf w) (.inl (some (.int r.1)), Hf r.2) := by
  unfold J_X10_coming_202 at hL
  refine g_iincV (v := (x6 + 1)) dX10_coming_202 rfl rfl (by decide) rfl ?_
  refine g_goto (tgt := 77) dX10_coming_205 (by decide) ?_
  exact Hkh77 _ _ _ _ _ _ _ hL
def J_X10_coming_199 (kh77 : Int32 → Int32 → Int32 → Int32 → Int32 → Int32 → wS → Option (Int32 × wS)) (ke208 : Int32 → Int32 → Int32 → Int32 → Int32 → wS → Option (Int32 × wS)) (x1 : Int32) (x2 : Int32) (x3 : Int32) (x4 : Int32) (x6 : Int32) (y0 : Int32) (y1 : Int32) (w : wS) : Option (Int32 × wS) :=
  J_X10_coming_202 kh77 ke208 (x1) (x2) (x3) (x4) ((y0 + y1)) (x6) w
set_option maxRecDepth 20000 in
theorem J_X10_coming_199_ok {G : aG} {Hf : wS → aH} {b : Nat} {kh77 : Int32 → Int32 → Int32 → Int32 → Int32 → Int32 → wS → Option (Int32 × wS)} {ke208 : Int32 → Int32 → Int32 → Int32 → Int32 → wS → Option (Int32 × wS)} {x1 : Int32} {x2 : Int32} {x3 : Int32} {x4 : Int32} {x6 : Int32} {y0 : Int32} {y1 : Int32} {w : wS} {r : Int32 × wS} (E : Emb Hf b 0 tbM) (hL : J_X10_coming_199 kh77 ke208 x1 x2 x3 x4 x6 y0 y1 w = some r) (Hkh77 : ∀ (z0 : Int32) (z1 : Int32) (z2 : Int32) (z3 : Int32) (z4 : Int32) (z5 : Int32) (w : wS), kh77 z0 z1 z2 z3 z4 z5 w = some r → AG G M_X10_coming 77 [some (.ref (b + 0)), some (.int (z0)), some (.int (z1)), some (.int (z2)), some (.int (z3)), some (.int (z4)), some (.int (z5)), none] [] (Hf w) (.inl (some (.int r.1)), Hf r.2)) (Hke208 : ∀ (z0 : Int32) (z1 : Int32) (z2 : Int32) (z3 : Int32) (z4 : Int32) (w : wS), ke208 z0 z1 z2 z3 z4 w = some r → AG G M_X10_coming 208 [some (.ref (b + 0)), some (.int (z0)), some (.int (z1)), some (.int (z2)), some (.int (z3)), some (.int (z4)), none, none] [] (Hf w) (.inl (some (.int r.1)), Hf r.2)) : AG G M_X10_coming 199 [some (.ref (b + 0)), some (.int (x1)), some (.int (x2)), some (.int (x3)), some (.int (x4)), none, some (.int (x6)), none] [.int (y1), .int (y0)] (Hf w) (.inl (some (.int r.1)), Hf r.2) := by
  unfold J_X10_coming_199 at hL
  refine g_iadd dX10_coming_199 ?_
  refine g_istore (i := 5) dX10_coming_200 (by decide) rfl ?_
  exact J_X10_coming_202_ok E hL Hkh77 Hke208
def J_X10_coming_138 (kh77 : Int32 → Int32 → Int32 → Int32 → Int32 → Int32 → wS → Option (Int32 × wS)) (ke208 : Int32 → Int32 → Int32 → Int32 → Int32 → wS → Option (Int32 × wS)) (x1 : Int32) (x2 : Int32) (x3 : Int32) (x4 : Int32) (x5 : Int32) (x6 : Int32) (y0 : Int32) (w : wS) : Option (Int32 × wS) :=
  if y0 = 0 then xB (xAld w 22 48 (((8 * x1) + x6))) fun v1 => xB (xAld w 22 48 (((8 * x1) + x4))) fun v2 => if v2 ≤ v1 then J_X10_coming_199 kh77 ke208 (x1) (x2) (x3) (x4) (x6) (x5) (0) w else J_X10_coming_199 kh77 ke208 (x1) (x2) (x3) (x4) (x6) (x5) (1) w else xB2 (L_X10_isLater (x1) (x6) (x4) w) fun v4 w5 => if v4 = 0 then J_X10_coming_199 kh77 ke208 (x1) (x2) (x3) (x4) (x6) (x5) (0) w5 else J_X10_coming_199 kh77 ke208 (x1) (x2) (x3) (x4) (x6) (x5) (1) w5
set_option maxRecDepth 20000 in
theorem J_X10_coming_138_ok {G : aG} {Hf : wS → aH} {b : Nat} {kh77 : Int32 → Int32 → Int32 → Int32 → Int32 → Int32 → wS → Option (Int32 × wS)} {ke208 : Int32 → Int32 → Int32 → Int32 → Int32 → wS → Option (Int32 × wS)} {x1 : Int32} {x2 : Int32} {x3 : Int32} {x4 : Int32} {x5 : Int32} {x6 : Int32} {y0 : Int32} {w : wS} {r : Int32 × wS} (E : Emb Hf b 0 tbM) (hL : J_X10_coming_138 kh77 ke208 x1 x2 x3 x4 x5 x6 y0 w = some r) (Hkh77 : ∀ (z0 : Int32) (z1 : Int32) (z2 : Int32) (z3 : Int32) (z4 : Int32) (z5 : Int32) (w : wS), kh77 z0 z1 z2 z3 z4 z5 w = some r → AG G M_X10_coming 77 [some (.ref (b + 0)), some (.int (z0)), some (.int (z1)), some (.int (z2)), some (.int (z3)), some (.int (z4)), some (.int (z5)), none] [] (Hf w) (.inl (some (.int r.1)), Hf r.2)) (Hke208 : ∀ (z0 : Int32) (z1 : Int32) (z2 : Int32) (z3 : Int32) (z4 : Int32) (w : wS), ke208 z0 z1 z2 z3 z4 w = some r → AG G M_X10_coming 208 [some (.ref (b + 0)), some (.int (z0)), some (.int (z1)), some (.int (z2)), some (.int (z3)), some (.int (z4)), none, none] [] (Hf w) (.inl (some (.int r.1)), Hf r.2)) : AG G M_X10_coming 138 [some (.ref (b + 0)), some (.int (x1)), some (.int (x2)), some (.int (x3)), some (.int (x4)), some (.int (x5)), some (.int (x6)), none] [.int (y0)] (Hf w) (.inl (some (.int r.1)), Hf r.2) := by
  unfold J_X10_coming_138 at hL
  refine g_istore (i := 7) dX10_coming_138 (by decide) rfl ?_
  refine g_iload dX10_coming_140 rfl ?_
  refine g_none 5 ?_
  refine g_iload dX10_coming_142 rfl ?_
  refine g_none 7 ?_
  refine g_if_eq (tgt := 167) dX10_coming_144 (by decide) (fun q7 => ?_) (fun q7 => ?_)
  · rw [if_pos q7] at hL
    refine g_aload_n dX10_coming_167 rfl rfl ?_
    refine s_getR (j := 48) E rfl rfl f_X10_87 dX10_coming_168 ?_
    refine g_bipush (v := 8) dX10_coming_171 (by decide) ?_
    refine g_iload_n dX10_coming_173 rfl rfl ?_
    refine g_imul dX10_coming_174 ?_
    refine g_iload dX10_coming_175 rfl ?_
    refine g_iadd dX10_coming_177 ?_
    refine s_iald (k := 22) E hL rfl dX10_coming_178 ?_
    intro v1 hL
    refine g_aload_n dX10_coming_179 rfl rfl ?_
    refine s_getR (j := 48) E rfl rfl f_X10_87 dX10_coming_180 ?_
    refine g_bipush (v := 8) dX10_coming_183 (by decide) ?_
    refine g_iload_n dX10_coming_185 rfl rfl ?_
    refine g_imul dX10_coming_186 ?_
    refine g_iload dX10_coming_187 rfl ?_
    refine g_iadd dX10_coming_189 ?_
    refine s_iald (k := 22) E hL rfl dX10_coming_190 ?_
    intro v2 hL
    refine g_icmp_ge (tgt := 198) dX10_coming_191 (by decide) (fun q3 => ?_) (fun q3 => ?_)
    · rw [if_pos q3] at hL
      refine g_iconst (v := 0) dX10_coming_198 (by decide) ?_
      exact J_X10_coming_199_ok E hL Hkh77 Hke208
    · rw [if_neg q3] at hL
      refine g_iconst (v := 1) dX10_coming_194 (by decide) ?_
      refine g_goto (tgt := 199) dX10_coming_195 (by decide) ?_
      exact J_X10_coming_199_ok E hL Hkh77 Hke208
  · rw [if_neg q7] at hL
    refine g_aload_n dX10_coming_147 rfl rfl ?_
    refine g_iload_n dX10_coming_148 rfl rfl ?_
    refine g_iload dX10_coming_149 rfl ?_
    refine g_iload dX10_coming_151 rfl ?_
    obtain ⟨v4, w5, hc, hL⟩ := xB2_some hL
    refine g_callV (M' := M_X10_isLater) (as := [.int (x1), .int (x6), .int (x4)]) (v := some (.int (v4))) l_X10_347 kV_X10_isLater (by decide) (C_X10_isLater E hc) rfl (by have := E.1; omega) (E.2.1 _ 0 _ rfl) ⟨_, _, rfl⟩ (Nat.le_of_ble_eq_true rfl) dX10_coming_153 ?_
    refine g_if_eq (tgt := 163) dX10_coming_156 (by decide) (fun q6 => ?_) (fun q6 => ?_)
    · rw [if_pos q6] at hL
      refine g_iconst (v := 0) dX10_coming_163 (by decide) ?_
      refine g_goto (tgt := 199) dX10_coming_164 (by decide) ?_
      exact J_X10_coming_199_ok E hL Hkh77 Hke208
    · rw [if_neg q6] at hL
      refine g_iconst (v := 1) dX10_coming_159 (by decide) ?_
      refine g_goto (tgt := 199) dX10_coming_160 (by decide) ?_
      exact J_X10_coming_199_ok E hL Hkh77 Hke208
def B_X10_coming_77 (kh77 : Int32 → Int32 → Int32 → Int32 → Int32 → Int32 → wS → Option (Int32 × wS)) (ke208 : Int32 → Int32 → Int32 → Int32 → Int32 → wS → Option (Int32 × wS)) (x1 : Int32) (x2 : Int32) (x3 : Int32) (x4 : Int32) (x5 : Int32) (x6 : Int32) (w : wS) : Option (Int32 × wS) :=
  xB (xGet w 1) fun v8 => if v8 ≤ x6 then ke208 (x1) (x2) (x3) (x4) (x5) w else if x6 = x4 then J_X10_coming_202 kh77 ke208 (x1) (x2) (x3) (x4) (x5) (x6) w else xB2 (L_X10_doesCome (0) (x6) w) fun v9 w10 => if v9 = 0 then J_X10_coming_202 kh77 ke208 (x1) (x2) (x3) (x4) (x5) (x6) w10 else xB (xAld w10 22 48 (((8 * x1) + x6))) fun v11 => xB (xAld w10 22 48 (((8 * x1) + x4))) fun v12 => if v11 = v12 then J_X10_coming_138 kh77 ke208 (x1) (x2) (x3) (x4) (x5) (x6) (1) w10 else J_X10_coming_138 kh77 ke208 (x1) (x2) (x3) (x4) (x5) (x6) (0) w10
set_option maxRecDepth 20000 in
theorem B_X10_coming_77_ok {G : aG} {Hf : wS → aH} {b : Nat} {kh77 : Int32 → Int32 → Int32 → Int32 → Int32 → Int32 → wS → Option (Int32 × wS)} {ke208 : Int32 → Int32 → Int32 → Int32 → Int32 → wS → Option (Int32 × wS)} {x1 : Int32} {x2 : Int32} {x3 : Int32} {x4 : Int32} {x5 : Int32} {x6 : Int32} {w : wS} {r : Int32 × wS} (E : Emb Hf b 0 tbM) (hL : B_X10_coming_77 kh77 ke208 x1 x2 x3 x4 x5 x6 w = some r) (Hkh77 : ∀ (z0 : Int32) (z1 : Int32) (z2 : Int32) (z3 : Int32) (z4 : Int32) (z5 : Int32) (w : wS), kh77 z0 z1 z2 z3 z4 z5 w = some r → AG G M_X10_coming 77 [some (.ref (b + 0)), some (.int (z0)), some (.int (z1)), some (.int (z2)), some (.int (z3)), some (.int (z4)), some (.int (z5)), none] [] (Hf w) (.inl (some (.int r.1)), Hf r.2)) (Hke208 : ∀ (z0 : Int32) (z1 : Int32) (z2 : Int32) (z3 : Int32) (z4 : Int32) (w : wS), ke208 z0 z1 z2 z3 z4 w = some r → AG G M_X10_coming 208 [some (.ref (b + 0)), some (.int (z0)), some (.int (z1)), some (.int (z2)), some (.int (z3)), some (.int (z4)), none, none] [] (Hf w) (.inl (some (.int r.1)), Hf r.2)) : AG G M_X10_coming 77 [some (.ref (b + 0)), some (.int (x1)), some (.int (x2)), some (.int (x3)), some (.int (x4)), some (.int (x5)), some (.int (x6)), none] [] (Hf w) (.inl (some (.int r.1)), Hf r.2) := by
  unfold B_X10_coming_77 at hL
  refine g_iload dX10_coming_77 rfl ?_
  refine g_aload_n dX10_coming_79 rfl rfl ?_
  refine s_getI (k := 0) (j := 1) E hL rfl rfl f_X10_278 dX10_coming_80 ?_
  intro v8 hL
  refine g_icmp_ge (tgt := 208) dX10_coming_83 (by decide) (fun q16 => ?_) (fun q16 => ?_)
  · rw [if_pos q16] at hL
    refine g_none 6 ?_
    exact Hke208 _ _ _ _ _ _ hL
  · rw [if_neg q16] at hL
    refine g_iload dX10_coming_86 rfl ?_
    refine g_iload dX10_coming_88 rfl ?_
    refine g_icmp_eq (tgt := 202) dX10_coming_90 (by decide) (fun q15 => ?_) (fun q15 => ?_)
    · rw [if_pos q15] at hL
      exact J_X10_coming_202_ok E hL Hkh77 Hke208
    · rw [if_neg q15] at hL
      refine g_aload_n dX10_coming_93 rfl rfl ?_
      refine g_iconst (v := 0) dX10_coming_94 (by decide) ?_
      refine g_iload dX10_coming_95 rfl ?_
      obtain ⟨v9, w10, hc, hL⟩ := xB2_some hL
      refine g_callV (M' := M_X10_doesCome) (as := [.int (0), .int (x6)]) (v := some (.int (v9))) l_X10_340 kV_X10_doesCome (by decide) (C_X10_doesCome E hc) rfl (by have := E.1; omega) (E.2.1 _ 0 _ rfl) ⟨_, _, rfl⟩ (Nat.le_of_ble_eq_true rfl) dX10_coming_97 ?_
      refine g_if_ne (tgt := 106) dX10_coming_100 (by decide) (fun q14 => ?_) (fun q14 => ?_)
      · rw [if_neg q14] at hL
        refine g_aload_n dX10_coming_106 rfl rfl ?_
        refine s_getR (j := 48) E rfl rfl f_X10_87 dX10_coming_107 ?_
        refine g_bipush (v := 8) dX10_coming_110 (by decide) ?_
        refine g_iload_n dX10_coming_112 rfl rfl ?_
        refine g_imul dX10_coming_113 ?_
        refine g_iload dX10_coming_114 rfl ?_
        refine g_iadd dX10_coming_116 ?_
        refine s_iald (k := 22) E hL rfl dX10_coming_117 ?_
        intro v11 hL
        refine g_aload_n dX10_coming_118 rfl rfl ?_
        refine s_getR (j := 48) E rfl rfl f_X10_87 dX10_coming_119 ?_
        refine g_bipush (v := 8) dX10_coming_122 (by decide) ?_
        refine g_iload_n dX10_coming_124 rfl rfl ?_
        refine g_imul dX10_coming_125 ?_
        refine g_iload dX10_coming_126 rfl ?_
        refine g_iadd dX10_coming_128 ?_
        refine s_iald (k := 22) E hL rfl dX10_coming_129 ?_
        intro v12 hL
        refine g_icmp_ne (tgt := 137) dX10_coming_130 (by decide) (fun q13 => ?_) (fun q13 => ?_)
        · rw [if_neg q13] at hL
          refine g_iconst (v := 0) dX10_coming_137 (by decide) ?_
          exact J_X10_coming_138_ok E hL Hkh77 Hke208
        · rw [if_pos q13] at hL
          refine g_iconst (v := 1) dX10_coming_133 (by decide) ?_
          refine g_goto (tgt := 138) dX10_coming_134 (by decide) ?_
          exact J_X10_coming_138_ok E hL Hkh77 Hke208
      · rw [if_pos q14] at hL
        refine g_goto (tgt := 202) dX10_coming_103 (by decide) ?_
        exact J_X10_coming_202_ok E hL Hkh77 Hke208
def P_X10_coming_77 (ke208 : Int32 → Int32 → Int32 → Int32 → Int32 → wS → Option (Int32 × wS)) (n : Nat) (x1 : Int32) (x2 : Int32) (x3 : Int32) (x4 : Int32) (x5 : Int32) (x6 : Int32) (w : wS) : Option (Int32 × wS) :=
  xLoop (fun (kk : Int32 × Int32 × Int32 × Int32 × Int32 × Int32 × wS → Option (Int32 × wS)) σ => B_X10_coming_77 (fun x1 x2 x3 x4 x5 x6 w => kk (x1, x2, x3, x4, x5, x6, w)) ke208 (σ.1) (σ.2.1) (σ.2.2.1) (σ.2.2.2.1) (σ.2.2.2.2.1) (σ.2.2.2.2.2.1) (σ.2.2.2.2.2.2)) n (x1, x2, x3, x4, x5, x6, w)
theorem P_X10_coming_77_ok {G : aG} {Hf : wS → aH} {b : Nat} {ke208 : Int32 → Int32 → Int32 → Int32 → Int32 → wS → Option (Int32 × wS)} {n : Nat} {x1 : Int32} {x2 : Int32} {x3 : Int32} {x4 : Int32} {x5 : Int32} {x6 : Int32} {w : wS} {r : Int32 × wS} (E : Emb Hf b 0 tbM) (hL : P_X10_coming_77 ke208 n x1 x2 x3 x4 x5 x6 w = some r) (Hke208 : ∀ (z0 : Int32) (z1 : Int32) (z2 : Int32) (z3 : Int32) (z4 : Int32) (w : wS), ke208 z0 z1 z2 z3 z4 w = some r → AG G M_X10_coming 208 [some (.ref (b + 0)), some (.int (z0)), some (.int (z1)), some (.int (z2)), some (.int (z3)), some (.int (z4)), none, none] [] (Hf w) (.inl (some (.int r.1)), Hf r.2)) : AG G M_X10_coming 77 [some (.ref (b + 0)), some (.int (x1)), some (.int (x2)), some (.int (x3)), some (.int (x4)), some (.int (x5)), some (.int (x6)), none] [] (Hf w) (.inl (some (.int r.1)), Hf r.2) :=
  xLoop_ok (Q := fun (σ : Int32 × Int32 × Int32 × Int32 × Int32 × Int32 × wS) => AG G M_X10_coming 77 [some (.ref (b + 0)), some (.int (σ.1)), some (.int (σ.2.1)), some (.int (σ.2.2.1)), some (.int (σ.2.2.2.1)), some (.int (σ.2.2.2.2.1)), some (.int (σ.2.2.2.2.2.1)), none] [] (Hf σ.2.2.2.2.2.2) (.inl (some (.int r.1)), Hf r.2)) (fun kk hk σ hσ => B_X10_coming_77_ok E hσ (fun x1 x2 x3 x4 x5 x6 w h9 => hk (x1, x2, x3, x4, x5, x6, w) h9) Hke208) n (x1, x2, x3, x4, x5, x6, w) hL
def B_X10_coming_49 (kh49 : Int32 → Int32 → Int32 → Int32 → wS → Option (Int32 × wS)) (ke214 : Int32 → Int32 → Int32 → wS → Option (Int32 × wS)) (ke242 : wS → Option (Int32 × wS)) (x1 : Int32) (x2 : Int32) (x3 : Int32) (x4 : Int32) (w : wS) : Option (Int32 × wS) :=
  xB (xGet w 1) fun v17 => if v17 ≤ x4 then ke242  w else xB2 (L_X10_doesCome (0) (x4) w) fun v18 w19 => if v18 = 0 then J_X10_coming_236 kh49 ke214 ke242 (x1) (x2) (x3) (x4) w19 else P_X10_coming_77 (fun z20 z21 z22 z23 z24 w25 => if z24 = z21 then ke214 (z20) (z22) (z23) w25 else J_X10_coming_236 kh49 ke214 ke242 (z20) (z21) (z22) (z23) w25) 5000 (x1) (x2) (x3) (x4) (0) (0) w19
set_option maxRecDepth 20000 in
theorem B_X10_coming_49_ok {G : aG} {Hf : wS → aH} {b : Nat} {kh49 : Int32 → Int32 → Int32 → Int32 → wS → Option (Int32 × wS)} {ke214 : Int32 → Int32 → Int32 → wS → Option (Int32 × wS)} {ke242 : wS → Option (Int32 × wS)} {x1 : Int32} {x2 : Int32} {x3 : Int32} {x4 : Int32} {w : wS} {r : Int32 × wS} (E : Emb Hf b 0 tbM) (hL : B_X10_coming_49 kh49 ke214 ke242 x1 x2 x3 x4 w = some r) (Hkh49 : ∀ (z0 : Int32) (z1 : Int32) (z2 : Int32) (z3 : Int32) (w : wS), kh49 z0 z1 z2 z3 w = some r → AG G M_X10_coming 49 [some (.ref (b + 0)), some (.int (z0)), some (.int (z1)), some (.int (z2)), some (.int (z3)), none, none, none] [] (Hf w) (.inl (some (.int r.1)), Hf r.2)) (Hke214 : ∀ (z0 : Int32) (z1 : Int32) (z2 : Int32) (w : wS), ke214 z0 z1 z2 w = some r → AG G M_X10_coming 214 [some (.ref (b + 0)), some (.int (z0)), none, some (.int (z1)), some (.int (z2)), none, none, none] [] (Hf w) (.inl (some (.int r.1)), Hf r.2)) (Hke242 : ∀ (w : wS), ke242  w = some r → AG G M_X10_coming 242 [none, none, none, none, none, none, none, none] [] (Hf w) (.inl (some (.int r.1)), Hf r.2)) : AG G M_X10_coming 49 [some (.ref (b + 0)), some (.int (x1)), some (.int (x2)), some (.int (x3)), some (.int (x4)), none, none, none] [] (Hf w) (.inl (some (.int r.1)), Hf r.2) := by
  unfold B_X10_coming_49 at hL
  refine g_iload dX10_coming_49 rfl ?_
  refine g_aload_n dX10_coming_51 rfl rfl ?_
  refine s_getI (k := 0) (j := 1) E hL rfl rfl f_X10_278 dX10_coming_52 ?_
  intro v17 hL
  refine g_icmp_ge (tgt := 242) dX10_coming_55 (by decide) (fun q28 => ?_) (fun q28 => ?_)
  · rw [if_pos q28] at hL
    refine g_none 0 ?_
    refine g_none 1 ?_
    refine g_none 2 ?_
    refine g_none 3 ?_
    refine g_none 4 ?_
    exact Hke242  _ hL
  · rw [if_neg q28] at hL
    refine g_aload_n dX10_coming_58 rfl rfl ?_
    refine g_iconst (v := 0) dX10_coming_59 (by decide) ?_
    refine g_iload dX10_coming_60 rfl ?_
    obtain ⟨v18, w19, hc, hL⟩ := xB2_some hL
    refine g_callV (M' := M_X10_doesCome) (as := [.int (0), .int (x4)]) (v := some (.int (v18))) l_X10_340 kV_X10_doesCome (by decide) (C_X10_doesCome E hc) rfl (by have := E.1; omega) (E.2.1 _ 0 _ rfl) ⟨_, _, rfl⟩ (Nat.le_of_ble_eq_true rfl) dX10_coming_62 ?_
    refine g_if_ne (tgt := 71) dX10_coming_65 (by decide) (fun q27 => ?_) (fun q27 => ?_)
    · rw [if_neg q27] at hL
      refine g_iconst (v := 0) dX10_coming_71 (by decide) ?_
      refine g_istore (i := 5) dX10_coming_72 (by decide) rfl ?_
      refine g_iconst (v := 0) dX10_coming_74 (by decide) ?_
      refine g_istore (i := 6) dX10_coming_75 (by decide) rfl ?_
      refine P_X10_coming_77_ok E hL ?_
      · intro z20 z21 z22 z23 z24 w25 hL
        refine g_iload dX10_coming_208 rfl ?_
        refine g_none 5 ?_
        refine g_iload_n dX10_coming_210 rfl rfl ?_
        refine g_icmp_ne (tgt := 236) dX10_coming_211 (by decide) (fun q26 => ?_) (fun q26 => ?_)
        · rw [if_neg q26] at hL
          exact J_X10_coming_236_ok E hL Hkh49 Hke214 Hke242
        · rw [if_pos q26] at hL
          refine g_none 2 ?_
          exact Hke214 _ _ _ _ hL
    · rw [if_pos q27] at hL
      refine g_goto (tgt := 236) dX10_coming_68 (by decide) ?_
      exact J_X10_coming_236_ok E hL Hkh49 Hke214 Hke242
def P_X10_coming_49 (ke214 : Int32 → Int32 → Int32 → wS → Option (Int32 × wS)) (ke242 : wS → Option (Int32 × wS)) (n : Nat) (x1 : Int32) (x2 : Int32) (x3 : Int32) (x4 : Int32) (w : wS) : Option (Int32 × wS) :=
  xLoop (fun (kk : Int32 × Int32 × Int32 × Int32 × wS → Option (Int32 × wS)) σ => B_X10_coming_49 (fun x1 x2 x3 x4 w => kk (x1, x2, x3, x4, w)) ke214 ke242 (σ.1) (σ.2.1) (σ.2.2.1) (σ.2.2.2.1) (σ.2.2.2.2)) n (x1, x2, x3, x4, w)
theorem P_X10_coming_49_ok {G : aG} {Hf : wS → aH} {b : Nat} {ke214 : Int32 → Int32 → Int32 → wS → Option (Int32 × wS)} {ke242 : wS → Option (Int32 × wS)} {n : Nat} {x1 : Int32} {x2 : Int32} {x3 : Int32} {x4 : Int32} {w : wS} {r : Int32 × wS} (E : Emb Hf b 0 tbM) (hL : P_X10_coming_49 ke214 ke242 n x1 x2 x3 x4 w = some r) (Hke214 : ∀ (z0 : Int32) (z1 : Int32) (z2 : Int32) (w : wS), ke214 z0 z1 z2 w = some r → AG G M_X10_coming 214 [some (.ref (b + 0)), some (.int (z0)), none, some (.int (z1)), some (.int (z2)), none, none, none] [] (Hf w) (.inl (some (.int r.1)), Hf r.2)) (Hke242 : ∀ (w : wS), ke242  w = some r → AG G M_X10_coming 242 [none, none, none, none, none, none, none, none] [] (Hf w) (.inl (some (.int r.1)), Hf r.2)) : AG G M_X10_coming 49 [some (.ref (b + 0)), some (.int (x1)), some (.int (x2)), some (.int (x3)), some (.int (x4)), none, none, none] [] (Hf w) (.inl (some (.int r.1)), Hf r.2) :=
  xLoop_ok (Q := fun (σ : Int32 × Int32 × Int32 × Int32 × wS) => AG G M_X10_coming 49 [some (.ref (b + 0)), some (.int (σ.1)), some (.int (σ.2.1)), some (.int (σ.2.2.1)), some (.int (σ.2.2.2.1)), none, none, none] [] (Hf σ.2.2.2.2) (.inl (some (.int r.1)), Hf r.2)) (fun kk hk σ hσ => B_X10_coming_49_ok E hσ (fun x1 x2 x3 x4 w h9 => hk (x1, x2, x3, x4, w) h9) Hke214 Hke242) n (x1, x2, x3, x4, w) hL
def J_X10_coming_39 (w : wS) : Option (Int32 × wS) :=
  some (0, w)
set_option maxRecDepth 20000 in
theorem J_X10_coming_39_ok {G : aG} {Hf : wS → aH} {b : Nat} {w : wS} {r : Int32 × wS} (E : Emb Hf b 0 tbM) (hL : J_X10_coming_39   w = some r) : AG G M_X10_coming 39 [none, none, none, none, none, none, none, none] [] (Hf w) (.inl (some (.int r.1)), Hf r.2) := by
  unfold J_X10_coming_39 at hL
  refine g_iconst (v := 0) dX10_coming_39 (by decide) ?_
  obtain rfl := Option.some.inj hL
  exact g_iret rfl dX10_coming_40
def J_X10_coming_23 (x1 : Int32) (x2 : Int32) (x3 : Int32) (y1 : Int32) (w : wS) : Option (Int32 × wS) :=
  xB2 (L_X10_right (y1) (1) w) fun v29 w30 => if v29 = 0 then J_X10_coming_39   w30 else xB2 (L_X10_isWhat (x3) (1) w30) fun v31 w32 => if v31 = 0 then J_X10_coming_39   w32 else xB (L_X10_goesTo (1) w32) fun w33 => P_X10_coming_49 (fun z34 z35 z36 w37 => if z35 = 0 then J_X10_coming_235  (z36) w37 else xB (xAld w37 22 48 (((8 * z34) + z36))) fun v38 => J_X10_coming_235  (v38) w37) (fun w40 => some ((-1), w40)) 5000 (x1) (x2) (x3) (0) w33
set_option maxRecDepth 20000 in
theorem J_X10_coming_23_ok {G : aG} {Hf : wS → aH} {b : Nat} {x1 : Int32} {x2 : Int32} {x3 : Int32} {y1 : Int32} {w : wS} {r : Int32 × wS} (E : Emb Hf b 0 tbM) (hL : J_X10_coming_23  x1 x2 x3 y1 w = some r) : AG G M_X10_coming 23 [some (.ref (b + 0)), some (.int (x1)), some (.int (x2)), some (.int (x3)), none, none, none, none] [.int (y1), .ref (b + 0)] (Hf w) (.inl (some (.int r.1)), Hf r.2) := by
  unfold J_X10_coming_23 at hL
  refine g_iconst (v := 1) dX10_coming_23 (by decide) ?_
  obtain ⟨v29, w30, hc, hL⟩ := xB2_some hL
  refine g_callV (M' := M_X10_right) (as := [.int (y1), .int (1)]) (v := some (.int (v29))) l_X10_271 kV_X10_right (by decide) (C_X10_right E hc) rfl (by have := E.1; omega) (E.2.1 _ 0 _ rfl) ⟨_, _, rfl⟩ (Nat.le_of_ble_eq_true rfl) dX10_coming_24 ?_
  refine g_if_eq (tgt := 39) dX10_coming_27 (by decide) (fun q42 => ?_) (fun q42 => ?_)
  · rw [if_pos q42] at hL
    refine g_none 0 ?_
    refine g_none 1 ?_
    refine g_none 2 ?_
    refine g_none 3 ?_
    exact J_X10_coming_39_ok E hL 
  · rw [if_neg q42] at hL
    refine g_aload_n dX10_coming_30 rfl rfl ?_
    refine g_iload_n dX10_coming_31 rfl rfl ?_
    refine g_iconst (v := 1) dX10_coming_32 (by decide) ?_
    obtain ⟨v31, w32, hc, hL⟩ := xB2_some hL
    refine g_callV (M' := M_X10_isWhat) (as := [.int (x3), .int (1)]) (v := some (.int (v31))) l_X10_373 kV_X10_isWhat (by decide) (C_X10_isWhat E hc) rfl (by have := E.1; omega) (E.2.1 _ 0 _ rfl) ⟨_, _, rfl⟩ (Nat.le_of_ble_eq_true rfl) dX10_coming_33 ?_
    refine g_if_ne (tgt := 41) dX10_coming_36 (by decide) (fun q41 => ?_) (fun q41 => ?_)
    · rw [if_neg q41] at hL
      refine g_aload_n dX10_coming_41 rfl rfl ?_
      refine g_iconst (v := 1) dX10_coming_42 (by decide) ?_
      obtain ⟨w33, hc, hL⟩ := xB_some hL
      refine g_callV (M' := M_X10_goesTo) (as := [.int (1)]) (v := none) l_X10_397 kV_X10_goesTo (by decide) (C_X10_goesTo E hc) rfl (by have := E.1; omega) (E.2.1 _ 0 _ rfl) ⟨_, _, rfl⟩ (Nat.le_of_ble_eq_true rfl) dX10_coming_43 ?_
      refine g_iconst (v := 0) dX10_coming_46 (by decide) ?_
      refine g_istore (i := 4) dX10_coming_47 (by decide) rfl ?_
      refine P_X10_coming_49_ok E hL ?_ ?_
      · intro z34 z35 z36 w37 hL
        refine g_iload_n dX10_coming_214 rfl rfl ?_
        refine g_none 3 ?_
        refine g_if_ne (tgt := 223) dX10_coming_215 (by decide) (fun q39 => ?_) (fun q39 => ?_)
        · rw [if_neg q39] at hL
          refine g_aload_n dX10_coming_223 rfl rfl ?_
          refine g_none 0 ?_
          refine s_getR (j := 48) E rfl rfl f_X10_87 dX10_coming_224 ?_
          refine g_bipush (v := 8) dX10_coming_227 (by decide) ?_
          refine g_iload_n dX10_coming_229 rfl rfl ?_
          refine g_none 1 ?_
          refine g_imul dX10_coming_230 ?_
          refine g_iload dX10_coming_231 rfl ?_
          refine g_none 4 ?_
          refine g_iadd dX10_coming_233 ?_
          refine s_iald (k := 22) E hL rfl dX10_coming_234 ?_
          intro v38 hL
          exact J_X10_coming_235_ok E hL 
        · rw [if_pos q39] at hL
          refine g_none 0 ?_
          refine g_none 1 ?_
          refine g_iload dX10_coming_218 rfl ?_
          refine g_none 4 ?_
          refine g_goto (tgt := 235) dX10_coming_220 (by decide) ?_
          exact J_X10_coming_235_ok E hL 
      · intro w40 hL
        refine g_iconst (v := (-1)) dX10_coming_242 (by decide) ?_
        obtain rfl := Option.some.inj hL
        exact g_iret rfl dX10_coming_243
    · rw [if_pos q41] at hL
      refine g_none 0 ?_
      refine g_none 1 ?_
      refine g_none 2 ?_
      refine g_none 3 ?_
      exact J_X10_coming_39_ok E hL 
def L_X10_coming (a1 : Int32) (a2 : Int32) (a3 : Int32) (w : wS) : Option (Int32 × wS) :=
  xB (xPut w 0 (0)) fun w43 => xB2 (L_X10_isDuty (a1) w43) fun v44 w45 => if v44 = 0 then J_X10_coming_39   w45 else if a2 < 0 then J_X10_coming_23  (a1) (a2) (a3) (0) w45 else J_X10_coming_23  (a1) (a2) (a3) (1) w45
set_option maxRecDepth 20000 in
theorem C_X10_coming {G : aG} {Hf : wS → aH} {b : Nat} {a1 : Int32} {a2 : Int32} {a3 : Int32} {w : wS} {r : Int32 × wS} (E : Emb Hf b 0 tbM) (hL : L_X10_coming a1 a2 a3 w = some r) : AC G M_X10_coming [.ref (b + 0), .int a1, .int a2, .int a3] (Hf w) (.inl (some (.int r.1)), Hf r.2) := by
  unfold L_X10_coming at hL
  refine AC.of (by decide) rfl (Nat.le_of_ble_eq_true rfl) ?_
  show AG G M_X10_coming 0 [some (.ref (b + 0)), some (.int (a1)), some (.int (a2)), some (.int (a3)), none, none, none, none] [] _ _
  refine g_aload_n dX10_coming_0 rfl rfl ?_
  refine g_iconst (v := 0) dX10_coming_1 (by decide) ?_
  refine s_putI (k := 0) (j := 0) E hL rfl rfl (by decide) fw_X10_120 rfl rfl dX10_coming_2 ?_
  intro w43 hL
  refine g_aload_n dX10_coming_5 rfl rfl ?_
  refine g_iload_n dX10_coming_6 rfl rfl ?_
  obtain ⟨v44, w45, hc, hL⟩ := xB2_some hL
  refine g_callV (M' := M_X10_isDuty) (as := [.int (a1)]) (v := some (.int (v44))) l_X10_376 kV_X10_isDuty (by decide) (C_X10_isDuty E hc) rfl (by have := E.1; omega) (E.2.1 _ 0 _ rfl) ⟨_, _, rfl⟩ (Nat.le_of_ble_eq_true rfl) dX10_coming_7 ?_
  refine g_if_eq (tgt := 39) dX10_coming_10 (by decide) (fun q47 => ?_) (fun q47 => ?_)
  · rw [if_pos q47] at hL
    refine g_none 0 ?_
    refine g_none 1 ?_
    refine g_none 2 ?_
    refine g_none 3 ?_
    exact J_X10_coming_39_ok E hL 
  · rw [if_neg q47] at hL
    refine g_aload_n dX10_coming_13 rfl rfl ?_
    refine g_iload_n dX10_coming_14 rfl rfl ?_
    refine g_if_lt (tgt := 22) dX10_coming_15 (by decide) (fun q46 => ?_) (fun q46 => ?_)
    · rw [if_pos q46] at hL
      refine g_iconst (v := 0) dX10_coming_22 (by decide) ?_
      exact J_X10_coming_23_ok E hL 
    · rw [if_neg q46] at hL
      refine g_iconst (v := 1) dX10_coming_18 (by decide) ?_
      refine g_goto (tgt := 23) dX10_coming_19 (by decide) ?_
      exact J_X10_coming_23_ok E hL 
