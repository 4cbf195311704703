def J_X10_round_160 (y0 : Int32) (w : wS) : Option (Int32 × wS) :=
  some (y0, w)
set_option maxRecDepth 20000 in
theorem J_X10_round_160_ok {G : aG} {Hf : wS → aH} {b : Nat} {y0 : Int32} {w : wS} {r : Int32 × wS} (E : Emb Hf b 0 tbM) (hL : J_X10_round_160  y0 w = some r) : AG G M_X10_round 160 [none, none, none, none, none, none] [.int (y0)] (Hf w) (.inl (some (.int r.1)), Hf r.2) := by
  unfold J_X10_round_160 at hL
  obtain rfl := Option.some.inj hL
  exact g_iret rfl dX10_round_160
def J_X10_round_138 (kh94 : Int32 → Int32 → Int32 → Int32 → Int32 → wS → Option (Int32 × wS)) (ke146 : Int32 → Int32 → Int32 → Int32 → wS → Option (Int32 × wS)) (x1 : Int32) (x2 : Int32) (x3 : Int32) (x5 : Int32) (y0 : Int32) (w : wS) : Option (Int32 × wS) :=
  kh94 (x1) (x2) (x3) (y0) ((x5 + 1)) w
set_option maxRecDepth 20000 in
theorem J_X10_round_138_ok {G : aG} {Hf : wS → aH} {b : Nat} {kh94 : Int32 → Int32 → Int32 → Int32 → Int32 → wS → Option (Int32 × wS)} {ke146 : Int32 → Int32 → Int32 → Int32 → wS → Option (Int32 × wS)} {x1 : Int32} {x2 : Int32} {x3 : Int32} {x5 : Int32} {y0 : Int32} {w : wS} {r : Int32 × wS} (E : Emb Hf b 0 tbM) (hL : J_X10_round_138 kh94 ke146 x1 x2 x3 x5 y0 w = some r) (Hkh94 : ∀ (z0 : Int32) (z1 : Int32) (z2 : Int32) (z3 : Int32) (z4 : Int32) (w : wS), kh94 z0 z1 z2 z3 z4 w = some r → AG G M_X10_round 94 [some (.ref (b + 0)), some (.int (z0)), some (.int (z1)), some (.int (z2)), some (.int (z3)), some (.int (z4))] [] (Hf w) (.inl (some (.int r.1)), Hf r.2)) (Hke146 : ∀ (z0 : Int32) (z1 : Int32) (z2 : Int32) (z3 : Int32) (w : wS), ke146 z0 z1 z2 z3 w = some r → AG G M_X10_round 146 [some (.ref (b + 0)), some (.int (z0)), some (.int (z1)), some (.int (z2)), some (.int (z3)), none] [] (Hf w) (.inl (some (.int r.1)), Hf r.2)) : AG G M_X10_round 138 [some (.ref (b + 0)), some (.int (x1)), some (.int (x2)), some (.int (x3)), none, some (.int (x5))] [.int (y0)] (Hf w) (.inl (some (.int r.1)), Hf r.2) := by
  unfold J_X10_round_138 at hL
  refine g_istore (i := 4) dX10_round_138 (by decide) rfl ?_
  refine g_iincV (v := (x5 + 1)) dX10_round_140 rfl rfl (by decide) rfl ?_
  refine g_goto (tgt := 94) dX10_round_143 (by decide) ?_
  exact Hkh94 _ _ _ _ _ _ hL
def J_X10_round_137 (kh94 : Int32 → Int32 → Int32 → Int32 → Int32 → wS → Option (Int32 × wS)) (ke146 : Int32 → Int32 → Int32 → Int32 → wS → Option (Int32 × wS)) (x1 : Int32) (x2 : Int32) (x3 : Int32) (x5 : Int32) (w : wS) : Option (Int32 × wS) :=
  J_X10_round_138 kh94 ke146 (x1) (x2) (x3) (x5) (0) w
set_option maxRecDepth 20000 in
theorem J_X10_round_137_ok {G : aG} {Hf : wS → aH} {b : Nat} {kh94 : Int32 → Int32 → Int32 → Int32 → Int32 → wS → Option (Int32 × wS)} {ke146 : Int32 → Int32 → Int32 → Int32 → wS → Option (Int32 × wS)} {x1 : Int32} {x2 : Int32} {x3 : Int32} {x5 : Int32} {w : wS} {r : Int32 × wS} (E : Emb Hf b 0 tbM) (hL : J_X10_round_137 kh94 ke146 x1 x2 x3 x5 w = some r) (Hkh94 : ∀ (z0 : Int32) (z1 : Int32) (z2 : Int32) (z3 : Int32) (z4 : Int32) (w : wS), kh94 z0 z1 z2 z3 z4 w = some r → AG G M_X10_round 94 [some (.ref (b + 0)), some (.int (z0)), some (.int (z1)), some (.int (z2)), some (.int (z3)), some (.int (z4))] [] (Hf w) (.inl (some (.int r.1)), Hf r.2)) (Hke146 : ∀ (z0 : Int32) (z1 : Int32) (z2 : Int32) (z3 : Int32) (w : wS), ke146 z0 z1 z2 z3 w = some r → AG G M_X10_round 146 [some (.ref (b + 0)), some (.int (z0)), some (.int (z1)), some (.int (z2)), some (.int (z3)), none] [] (Hf w) (.inl (some (.int r.1)), Hf r.2)) : AG G M_X10_round 137 [some (.ref (b + 0)), some (.int (x1)), some (.int (x2)), some (.int (x3)), none, some (.int (x5))] [] (Hf w) (.inl (some (.int r.1)), Hf r.2) := by
  unfold J_X10_round_137 at hL
  refine g_iconst (v := 0) dX10_round_137 (by decide) ?_
  exact J_X10_round_138_ok E hL Hkh94 Hke146
def B_X10_round_94 (kh94 : Int32 → Int32 → Int32 → Int32 → Int32 → wS → Option (Int32 × wS)) (ke146 : Int32 → Int32 → Int32 → Int32 → wS → Option (Int32 × wS)) (x1 : Int32) (x2 : Int32) (x3 : Int32) (x4 : Int32) (x5 : Int32) (w : wS) : Option (Int32 × wS) :=
  if 17 ≤ x5 then ke146 (x1) (x2) (x3) (x4) w else if x4 = 0 then J_X10_round_137 kh94 ke146 (x1) (x2) (x3) (x5) w else xB (xAld w 23 697 (((17 * x2) + x5))) fun v1 => xB (xAld w 23 697 (((17 * x3) + x5))) fun v2 => if v1 = v2 then J_X10_round_138 kh94 ke146 (x1) (x2) (x3) (x5) (1) w else J_X10_round_137 kh94 ke146 (x1) (x2) (x3) (x5) w
set_option maxRecDepth 20000 in
theorem B_X10_round_94_ok {G : aG} {Hf : wS → aH} {b : Nat} {kh94 : Int32 → Int32 → Int32 → Int32 → Int32 → wS → Option (Int32 × wS)} {ke146 : Int32 → Int32 → Int32 → Int32 → wS → Option (Int32 × wS)} {x1 : Int32} {x2 : Int32} {x3 : Int32} {x4 : Int32} {x5 : Int32} {w : wS} {r : Int32 × wS} (E : Emb Hf b 0 tbM) (hL : B_X10_round_94 kh94 ke146 x1 x2 x3 x4 x5 w = some r) (Hkh94 : ∀ (z0 : Int32) (z1 : Int32) (z2 : Int32) (z3 : Int32) (z4 : Int32) (w : wS), kh94 z0 z1 z2 z3 z4 w = some r → AG G M_X10_round 94 [some (.ref (b + 0)), some (.int (z0)), some (.int (z1)), some (.int (z2)), some (.int (z3)), some (.int (z4))] [] (Hf w) (.inl (some (.int r.1)), Hf r.2)) (Hke146 : ∀ (z0 : Int32) (z1 : Int32) (z2 : Int32) (z3 : Int32) (w : wS), ke146 z0 z1 z2 z3 w = some r → AG G M_X10_round 146 [some (.ref (b + 0)), some (.int (z0)), some (.int (z1)), some (.int (z2)), some (.int (z3)), none] [] (Hf w) (.inl (some (.int r.1)), Hf r.2)) : AG G M_X10_round 94 [some (.ref (b + 0)), some (.int (x1)), some (.int (x2)), some (.int (x3)), some (.int (x4)), some (.int (x5))] [] (Hf w) (.inl (some (.int r.1)), Hf r.2) := by
  unfold B_X10_round_94 at hL
  refine g_iload dX10_round_94 rfl ?_
  refine g_bipush (v := 17) dX10_round_96 (by decide) ?_
  refine g_icmp_ge (tgt := 146) dX10_round_98 (by decide) (fun q5 => ?_) (fun q5 => ?_)
  · rw [if_pos q5] at hL
    refine g_none 5 ?_
    exact Hke146 _ _ _ _ _ hL
  · rw [if_neg q5] at hL
    refine g_iload dX10_round_101 rfl ?_
    refine g_none 4 ?_
    refine g_if_eq (tgt := 137) dX10_round_103 (by decide) (fun q4 => ?_) (fun q4 => ?_)
    · rw [if_pos q4] at hL
      exact J_X10_round_137_ok E hL Hkh94 Hke146
    · rw [if_neg q4] at hL
      refine g_aload_n dX10_round_106 rfl rfl ?_
      refine s_getR (j := 56) E rfl rfl f_X10_93 dX10_round_107 ?_
      refine g_bipush (v := 17) dX10_round_110 (by decide) ?_
      refine g_iload_n dX10_round_112 rfl rfl ?_
      refine g_imul dX10_round_113 ?_
      refine g_iload dX10_round_114 rfl ?_
      refine g_iadd dX10_round_116 ?_
      refine s_iald (k := 23) E hL rfl dX10_round_117 ?_
      intro v1 hL
      refine g_aload_n dX10_round_118 rfl rfl ?_
      refine s_getR (j := 56) E rfl rfl f_X10_93 dX10_round_119 ?_
      refine g_bipush (v := 17) dX10_round_122 (by decide) ?_
      refine g_iload_n dX10_round_124 rfl rfl ?_
      refine g_imul dX10_round_125 ?_
      refine g_iload dX10_round_126 rfl ?_
      refine g_iadd dX10_round_128 ?_
      refine s_iald (k := 23) E hL rfl dX10_round_129 ?_
      intro v2 hL
      refine g_icmp_ne (tgt := 137) dX10_round_130 (by decide) (fun q3 => ?_) (fun q3 => ?_)
      · rw [if_neg q3] at hL
        exact J_X10_round_137_ok E hL Hkh94 Hke146
      · rw [if_pos q3] at hL
        refine g_iconst (v := 1) dX10_round_133 (by decide) ?_
        refine g_goto (tgt := 138) dX10_round_134 (by decide) ?_
        exact J_X10_round_138_ok E hL Hkh94 Hke146
def P_X10_round_94 (ke146 : Int32 → Int32 → Int32 → Int32 → wS → Option (Int32 × wS)) (n : Nat) (x1 : Int32) (x2 : Int32) (x3 : Int32) (x4 : Int32) (x5 : Int32) (w : wS) : Option (Int32 × wS) :=
  xLoop (fun (kk : Int32 × Int32 × Int32 × Int32 × Int32 × wS → Option (Int32 × wS)) σ => B_X10_round_94 (fun x1 x2 x3 x4 x5 w => kk (x1, x2, x3, x4, x5, w)) ke146 (σ.1) (σ.2.1) (σ.2.2.1) (σ.2.2.2.1) (σ.2.2.2.2.1) (σ.2.2.2.2.2)) n (x1, x2, x3, x4, x5, w)
theorem P_X10_round_94_ok {G : aG} {Hf : wS → aH} {b : Nat} {ke146 : Int32 → Int32 → Int32 → Int32 → wS → Option (Int32 × wS)} {n : Nat} {x1 : Int32} {x2 : Int32} {x3 : Int32} {x4 : Int32} {x5 : Int32} {w : wS} {r : Int32 × wS} (E : Emb Hf b 0 tbM) (hL : P_X10_round_94 ke146 n x1 x2 x3 x4 x5 w = some r) (Hke146 : ∀ (z0 : Int32) (z1 : Int32) (z2 : Int32) (z3 : Int32) (w : wS), ke146 z0 z1 z2 z3 w = some r → AG G M_X10_round 146 [some (.ref (b + 0)), some (.int (z0)), some (.int (z1)), some (.int (z2)), some (.int (z3)), none] [] (Hf w) (.inl (some (.int r.1)), Hf r.2)) : AG G M_X10_round 94 [some (.ref (b + 0)), some (.int (x1)), some (.int (x2)), some (.int (x3)), some (.int (x4)), some (.int (x5))] [] (Hf w) (.inl (some (.int r.1)), Hf r.2) :=
  xLoop_ok (Q := fun (σ : Int32 × Int32 × Int32 × Int32 × Int32 × wS) => AG G M_X10_round 94 [some (.ref (b + 0)), some (.int (σ.1)), some (.int (σ.2.1)), some (.int (σ.2.2.1)), some (.int (σ.2.2.2.1)), some (.int (σ.2.2.2.2.1))] [] (Hf σ.2.2.2.2.2) (.inl (some (.int r.1)), Hf r.2)) (fun kk hk σ hσ => B_X10_round_94_ok E hσ (fun x1 x2 x3 x4 x5 w h9 => hk (x1, x2, x3, x4, x5, w) h9) Hke146) n (x1, x2, x3, x4, x5, w) hL
def B_X10_round_83 (kh83 : Int32 → Int32 → Int32 → wS → Option (Int32 × wS)) (ke151 : Int32 → Int32 → Int32 → wS → Option (Int32 × wS)) (ke167 : Int32 → Int32 → wS → Option (Int32 × wS)) (x1 : Int32) (x2 : Int32) (x3 : Int32) (w : wS) : Option (Int32 × wS) :=
  if x2 ≤ x3 then ke167 (x1) (x2) w else P_X10_round_94 (fun z6 z7 z8 z9 w10 => if z9 = 0 then kh83 (z6) (z7) ((z8 + 1)) w10 else ke151 (z6) (z7) (z8) w10) 5000 (x1) (x2) (x3) (1) (0) w
set_option maxRecDepth 20000 in
theorem B_X10_round_83_ok {G : aG} {Hf : wS → aH} {b : Nat} {kh83 : Int32 → Int32 → Int32 → wS → Option (Int32 × wS)} {ke151 : Int32 → Int32 → Int32 → wS → Option (Int32 × wS)} {ke167 : Int32 → Int32 → wS → Option (Int32 × wS)} {x1 : Int32} {x2 : Int32} {x3 : Int32} {w : wS} {r : Int32 × wS} (E : Emb Hf b 0 tbM) (hL : B_X10_round_83 kh83 ke151 ke167 x1 x2 x3 w = some r) (Hkh83 : ∀ (z0 : Int32) (z1 : Int32) (z2 : Int32) (w : wS), kh83 z0 z1 z2 w = some r → AG G M_X10_round 83 [some (.ref (b + 0)), some (.int (z0)), some (.int (z1)), some (.int (z2)), none, none] [] (Hf w) (.inl (some (.int r.1)), Hf r.2)) (Hke151 : ∀ (z0 : Int32) (z1 : Int32) (z2 : Int32) (w : wS), ke151 z0 z1 z2 w = some r → AG G M_X10_round 151 [none, some (.int (z0)), some (.int (z1)), some (.int (z2)), none, none] [] (Hf w) (.inl (some (.int r.1)), Hf r.2)) (Hke167 : ∀ (z0 : Int32) (z1 : Int32) (w : wS), ke167 z0 z1 w = some r → AG G M_X10_round 167 [some (.ref (b + 0)), some (.int (z0)), some (.int (z1)), none, none, none] [] (Hf w) (.inl (some (.int r.1)), Hf r.2)) : AG G M_X10_round 83 [some (.ref (b + 0)), some (.int (x1)), some (.int (x2)), some (.int (x3)), none, none] [] (Hf w) (.inl (some (.int r.1)), Hf r.2) := by
  unfold B_X10_round_83 at hL
  refine g_iload_n dX10_round_83 rfl rfl ?_
  refine g_iload_n dX10_round_84 rfl rfl ?_
  refine g_icmp_ge (tgt := 167) dX10_round_85 (by decide) (fun q12 => ?_) (fun q12 => ?_)
  · rw [if_pos q12] at hL
    refine g_none 3 ?_
    exact Hke167 _ _ _ hL
  · rw [if_neg q12] at hL
    refine g_iconst (v := 1) dX10_round_88 (by decide) ?_
    refine g_istore (i := 4) dX10_round_89 (by decide) rfl ?_
    refine g_iconst (v := 0) dX10_round_91 (by decide) ?_
    refine g_istore (i := 5) dX10_round_92 (by decide) rfl ?_
    refine P_X10_round_94_ok E hL ?_
    · intro z6 z7 z8 z9 w10 hL
      refine g_iload dX10_round_146 rfl ?_
      refine g_none 4 ?_
      refine g_if_eq (tgt := 161) dX10_round_148 (by decide) (fun q11 => ?_) (fun q11 => ?_)
      · rw [if_pos q11] at hL
        refine g_iincV (v := (z8 + 1)) dX10_round_161 rfl rfl (by decide) rfl ?_
        refine g_goto (tgt := 83) dX10_round_164 (by decide) ?_
        exact Hkh83 _ _ _ _ hL
      · rw [if_neg q11] at hL
        refine g_none 0 ?_
        exact Hke151 _ _ _ _ hL
def P_X10_round_83 (ke151 : Int32 → Int32 → Int32 → wS → Option (Int32 × wS)) (ke167 : Int32 → Int32 → wS → Option (Int32 × wS)) (n : Nat) (x1 : Int32) (x2 : Int32) (x3 : Int32) (w : wS) : Option (Int32 × wS) :=
  xLoop (fun (kk : Int32 × Int32 × Int32 × wS → Option (Int32 × wS)) σ => B_X10_round_83 (fun x1 x2 x3 w => kk (x1, x2, x3, w)) ke151 ke167 (σ.1) (σ.2.1) (σ.2.2.1) (σ.2.2.2)) n (x1, x2, x3, w)
theorem P_X10_round_83_ok {G : aG} {Hf : wS → aH} {b : Nat} {ke151 : Int32 → Int32 → Int32 → wS → Option (Int32 × wS)} {ke167 : Int32 → Int32 → wS → Option (Int32 × wS)} {n : Nat} {x1 : Int32} {x2 : Int32} {x3 : Int32} {w : wS} {r : Int32 × wS} (E : Emb Hf b 0 tbM) (hL : P_X10_round_83 ke151 ke167 n x1 x2 x3 w = some r) (Hke151 : ∀ (z0 : Int32) (z1 : Int32) (z2 : Int32) (w : wS), ke151 z0 z1 z2 w = some r → AG G M_X10_round 151 [none, some (.int (z0)), some (.int (z1)), some (.int (z2)), none, none] [] (Hf w) (.inl (some (.int r.1)), Hf r.2)) (Hke167 : ∀ (z0 : Int32) (z1 : Int32) (w : wS), ke167 z0 z1 w = some r → AG G M_X10_round 167 [some (.ref (b + 0)), some (.int (z0)), some (.int (z1)), none, none, none] [] (Hf w) (.inl (some (.int r.1)), Hf r.2)) : AG G M_X10_round 83 [some (.ref (b + 0)), some (.int (x1)), some (.int (x2)), some (.int (x3)), none, none] [] (Hf w) (.inl (some (.int r.1)), Hf r.2) :=
  xLoop_ok (Q := fun (σ : Int32 × Int32 × Int32 × wS) => AG G M_X10_round 83 [some (.ref (b + 0)), some (.int (σ.1)), some (.int (σ.2.1)), some (.int (σ.2.2.1)), none, none] [] (Hf σ.2.2.2) (.inl (some (.int r.1)), Hf r.2)) (fun kk hk σ hσ => B_X10_round_83_ok E hσ (fun x1 x2 x3 w h9 => hk (x1, x2, x3, w) h9) Hke151 Hke167) n (x1, x2, x3, w) hL
def B_X10_round_30 (kh30 : Int32 → Int32 → Int32 → wS → Option (Int32 × wS)) (ke62 : Int32 → Int32 → wS → Option (Int32 × wS)) (x1 : Int32) (x2 : Int32) (x3 : Int32) (w : wS) : Option (Int32 × wS) :=
  if 16 ≤ x3 then ke62 (x1) (x2) w else xB (xAld w 16 66 ((36 + x3))) fun v13 => xB (xAst w 23 697 (((17 * x2) + x3)) (v13)) fun w14 => kh30 (x1) (x2) ((x3 + 1)) w14
set_option maxRecDepth 20000 in
theorem B_X10_round_30_ok {G : aG} {Hf : wS → aH} {b : Nat} {kh30 : Int32 → Int32 → Int32 → wS → Option (Int32 × wS)} {ke62 : Int32 → Int32 → wS → Option (Int32 × wS)} {x1 : Int32} {x2 : Int32} {x3 : Int32} {w : wS} {r : Int32 × wS} (E : Emb Hf b 0 tbM) (hL : B_X10_round_30 kh30 ke62 x1 x2 x3 w = some r) (Hkh30 : ∀ (z0 : Int32) (z1 : Int32) (z2 : Int32) (w : wS), kh30 z0 z1 z2 w = some r → AG G M_X10_round 30 [some (.ref (b + 0)), some (.int (z0)), some (.int (z1)), some (.int (z2)), none, none] [] (Hf w) (.inl (some (.int r.1)), Hf r.2)) (Hke62 : ∀ (z0 : Int32) (z1 : Int32) (w : wS), ke62 z0 z1 w = some r → AG G M_X10_round 62 [some (.ref (b + 0)), some (.int (z0)), some (.int (z1)), none, none, none] [] (Hf w) (.inl (some (.int r.1)), Hf r.2)) : AG G M_X10_round 30 [some (.ref (b + 0)), some (.int (x1)), some (.int (x2)), some (.int (x3)), none, none] [] (Hf w) (.inl (some (.int r.1)), Hf r.2) := by
  unfold B_X10_round_30 at hL
  refine g_iload_n dX10_round_30 rfl rfl ?_
  refine g_bipush (v := 16) dX10_round_31 (by decide) ?_
  refine g_icmp_ge (tgt := 62) dX10_round_33 (by decide) (fun q15 => ?_) (fun q15 => ?_)
  · rw [if_pos q15] at hL
    refine g_none 3 ?_
    exact Hke62 _ _ _ hL
  · rw [if_neg q15] at hL
    refine g_aload_n dX10_round_36 rfl rfl ?_
    refine s_getR (j := 56) E rfl rfl f_X10_93 dX10_round_37 ?_
    refine g_bipush (v := 17) dX10_round_40 (by decide) ?_
    refine g_iload_n dX10_round_42 rfl rfl ?_
    refine g_imul dX10_round_43 ?_
    refine g_iload_n dX10_round_44 rfl rfl ?_
    refine g_iadd dX10_round_45 ?_
    refine g_aload_n dX10_round_46 rfl rfl ?_
    refine s_getR (j := 41) E rfl rfl f_X10_69 dX10_round_47 ?_
    refine g_bipush (v := 36) dX10_round_50 (by decide) ?_
    refine g_iload_n dX10_round_52 rfl rfl ?_
    refine g_iadd dX10_round_53 ?_
    refine s_iald (k := 16) E hL rfl dX10_round_54 ?_
    intro v13 hL
    refine s_iast (k := 23) E hL rfl dX10_round_55 ?_
    intro w14 hL
    refine g_iincV (v := (x3 + 1)) dX10_round_56 rfl rfl (by decide) rfl ?_
    refine g_goto (tgt := 30) dX10_round_59 (by decide) ?_
    exact Hkh30 _ _ _ _ hL
def P_X10_round_30 (ke62 : Int32 → Int32 → wS → Option (Int32 × wS)) (n : Nat) (x1 : Int32) (x2 : Int32) (x3 : Int32) (w : wS) : Option (Int32 × wS) :=
  xLoop (fun (kk : Int32 × Int32 × Int32 × wS → Option (Int32 × wS)) σ => B_X10_round_30 (fun x1 x2 x3 w => kk (x1, x2, x3, w)) ke62 (σ.1) (σ.2.1) (σ.2.2.1) (σ.2.2.2)) n (x1, x2, x3, w)
theorem P_X10_round_30_ok {G : aG} {Hf : wS → aH} {b : Nat} {ke62 : Int32 → Int32 → wS → Option (Int32 × wS)} {n : Nat} {x1 : Int32} {x2 : Int32} {x3 : Int32} {w : wS} {r : Int32 × wS} (E : Emb Hf b 0 tbM) (hL : P_X10_round_30 ke62 n x1 x2 x3 w = some r) (Hke62 : ∀ (z0 : Int32) (z1 : Int32) (w : wS), ke62 z0 z1 w = some r → AG G M_X10_round 62 [some (.ref (b + 0)), some (.int (z0)), some (.int (z1)), none, none, none] [] (Hf w) (.inl (some (.int r.1)), Hf r.2)) : AG G M_X10_round 30 [some (.ref (b + 0)), some (.int (x1)), some (.int (x2)), some (.int (x3)), none, none] [] (Hf w) (.inl (some (.int r.1)), Hf r.2) :=
  xLoop_ok (Q := fun (σ : Int32 × Int32 × Int32 × wS) => AG G M_X10_round 30 [some (.ref (b + 0)), some (.int (σ.1)), some (.int (σ.2.1)), some (.int (σ.2.2.1)), none, none] [] (Hf σ.2.2.2) (.inl (some (.int r.1)), Hf r.2)) (fun kk hk σ hσ => B_X10_round_30_ok E hσ (fun x1 x2 x3 w h9 => hk (x1, x2, x3, w) h9) Hke62) n (x1, x2, x3, w) hL
def B_X10_round_22 (kh22 : Int32 → Int32 → wS → Option (Int32 × wS)) (ke151 : Int32 → Int32 → Int32 → wS → Option (Int32 × wS)) (ke179 : wS → Option (Int32 × wS)) (x1 : Int32) (x2 : Int32) (w : wS) : Option (Int32 × wS) :=
  if 40 < x2 then ke179  w else P_X10_round_30 (fun z16 z17 w18 => xB (xAld w18 16 66 (34)) fun v19 => xB (xAst w18 23 697 (((17 * z17) + 16)) (v19)) fun w20 => P_X10_round_83 (fun z21 z22 z23 w24 => ke151 (z21) (z22) (z23) w24) (fun z25 z26 w27 => xB (L_X10_dayGoes (33) w27) fun w28 => kh22 (z25) ((z26 + 1)) w28) 5000 (z16) (z17) (0) w20) 5000 (x1) (x2) (0) w
set_option maxRecDepth 20000 in
theorem B_X10_round_22_ok {G : aG} {Hf : wS → aH} {b : Nat} {kh22 : Int32 → Int32 → wS → Option (Int32 × wS)} {ke151 : Int32 → Int32 → Int32 → wS → Option (Int32 × wS)} {ke179 : wS → Option (Int32 × wS)} {x1 : Int32} {x2 : Int32} {w : wS} {r : Int32 × wS} (E : Emb Hf b 0 tbM) (hL : B_X10_round_22 kh22 ke151 ke179 x1 x2 w = some r) (Hkh22 : ∀ (z0 : Int32) (z1 : Int32) (w : wS), kh22 z0 z1 w = some r → AG G M_X10_round 22 [some (.ref (b + 0)), some (.int (z0)), some (.int (z1)), none, none, none] [] (Hf w) (.inl (some (.int r.1)), Hf r.2)) (Hke151 : ∀ (z0 : Int32) (z1 : Int32) (z2 : Int32) (w : wS), ke151 z0 z1 z2 w = some r → AG G M_X10_round 151 [none, some (.int (z0)), some (.int (z1)), some (.int (z2)), none, none] [] (Hf w) (.inl (some (.int r.1)), Hf r.2)) (Hke179 : ∀ (w : wS), ke179  w = some r → AG G M_X10_round 179 [none, none, none, none, none, none] [] (Hf w) (.inl (some (.int r.1)), Hf r.2)) : AG G M_X10_round 22 [some (.ref (b + 0)), some (.int (x1)), some (.int (x2)), none, none, none] [] (Hf w) (.inl (some (.int r.1)), Hf r.2) := by
  unfold B_X10_round_22 at hL
  refine g_iload_n dX10_round_22 rfl rfl ?_
  refine g_bipush (v := 40) dX10_round_23 (by decide) ?_
  refine g_icmp_gt (tgt := 179) dX10_round_25 (by decide) (fun q29 => ?_) (fun q29 => ?_)
  · rw [if_pos q29] at hL
    refine g_none 0 ?_
    refine g_none 1 ?_
    refine g_none 2 ?_
    exact Hke179  _ hL
  · rw [if_neg q29] at hL
    refine g_iconst (v := 0) dX10_round_28 (by decide) ?_
    refine g_istore_n (i := 3) dX10_round_29 rfl (by decide) rfl ?_
    refine P_X10_round_30_ok E hL ?_
    · intro z16 z17 w18 hL
      refine g_aload_n dX10_round_62 rfl rfl ?_
      refine s_getR (j := 56) E rfl rfl f_X10_93 dX10_round_63 ?_
      refine g_bipush (v := 17) dX10_round_66 (by decide) ?_
      refine g_iload_n dX10_round_68 rfl rfl ?_
      refine g_imul dX10_round_69 ?_
      refine g_bipush (v := 16) dX10_round_70 (by decide) ?_
      refine g_iadd dX10_round_72 ?_
      refine g_aload_n dX10_round_73 rfl rfl ?_
      refine s_getR (j := 41) E rfl rfl f_X10_69 dX10_round_74 ?_
      refine g_bipush (v := 34) dX10_round_77 (by decide) ?_
      refine s_iald (k := 16) E hL rfl dX10_round_79 ?_
      intro v19 hL
      refine s_iast (k := 23) E hL rfl dX10_round_80 ?_
      intro w20 hL
      refine g_iconst (v := 0) dX10_round_81 (by decide) ?_
      refine g_istore_n (i := 3) dX10_round_82 rfl (by decide) rfl ?_
      refine P_X10_round_83_ok E hL ?_ ?_
      · intro z21 z22 z23 w24 hL
        exact Hke151 _ _ _ _ hL
      · intro z25 z26 w27 hL
        refine g_aload_n dX10_round_167 rfl rfl ?_
        refine g_bipush (v := 33) dX10_round_168 (by decide) ?_
        obtain ⟨w28, hc, hL⟩ := xB_some hL
        refine g_callV (M' := M_X10_dayGoes) (as := [.int (33)]) (v := none) l_X10_358 kV_X10_dayGoes (by decide) (C_X10_dayGoes E hc) rfl (by have := E.1; omega) (E.2.1 _ 0 _ rfl) ⟨_, _, rfl⟩ (Nat.le_of_ble_eq_true rfl) dX10_round_170 ?_
        refine g_iincV (v := (z26 + 1)) dX10_round_173 rfl rfl (by decide) rfl ?_
        refine g_goto (tgt := 22) dX10_round_176 (by decide) ?_
        exact Hkh22 _ _ _ hL
def P_X10_round_22 (ke151 : Int32 → Int32 → Int32 → wS → Option (Int32 × wS)) (ke179 : wS → Option (Int32 × wS)) (n : Nat) (x1 : Int32) (x2 : Int32) (w : wS) : Option (Int32 × wS) :=
  xLoop (fun (kk : Int32 × Int32 × wS → Option (Int32 × wS)) σ => B_X10_round_22 (fun x1 x2 w => kk (x1, x2, w)) ke151 ke179 (σ.1) (σ.2.1) (σ.2.2)) n (x1, x2, w)
theorem P_X10_round_22_ok {G : aG} {Hf : wS → aH} {b : Nat} {ke151 : Int32 → Int32 → Int32 → wS → Option (Int32 × wS)} {ke179 : wS → Option (Int32 × wS)} {n : Nat} {x1 : Int32} {x2 : Int32} {w : wS} {r : Int32 × wS} (E : Emb Hf b 0 tbM) (hL : P_X10_round_22 ke151 ke179 n x1 x2 w = some r) (Hke151 : ∀ (z0 : Int32) (z1 : Int32) (z2 : Int32) (w : wS), ke151 z0 z1 z2 w = some r → AG G M_X10_round 151 [none, some (.int (z0)), some (.int (z1)), some (.int (z2)), none, none] [] (Hf w) (.inl (some (.int r.1)), Hf r.2)) (Hke179 : ∀ (w : wS), ke179  w = some r → AG G M_X10_round 179 [none, none, none, none, none, none] [] (Hf w) (.inl (some (.int r.1)), Hf r.2)) : AG G M_X10_round 22 [some (.ref (b + 0)), some (.int (x1)), some (.int (x2)), none, none, none] [] (Hf w) (.inl (some (.int r.1)), Hf r.2) :=
  xLoop_ok (Q := fun (σ : Int32 × Int32 × wS) => AG G M_X10_round 22 [some (.ref (b + 0)), some (.int (σ.1)), some (.int (σ.2.1)), none, none, none] [] (Hf σ.2.2) (.inl (some (.int r.1)), Hf r.2)) (fun kk hk σ hσ => B_X10_round_22_ok E hσ (fun x1 x2 w h9 => hk (x1, x2, w) h9) Hke151 Hke179) n (x1, x2, w) hL
def L_X10_round (a1 : Int32) (w : wS) : Option (Int32 × wS) :=
  xB (xPut w 0 (0)) fun w30 => xB2 (L_X10_isWhat (a1) (1) w30) fun v31 w32 => if v31 = 0 then some (0, w32) else xB (L_X10_tries  w32) fun w33 => P_X10_round_22 (fun z34 z35 z36 w37 => if z34 = 0 then J_X10_round_160  (z35) w37 else J_X10_round_160  (z36) w37) (fun w39 => some ((-1), w39)) 5000 (a1) (0) w33
set_option maxRecDepth 20000 in
theorem C_X10_round {G : aG} {Hf : wS → aH} {b : Nat} {a1 : Int32} {w : wS} {r : Int32 × wS} (E : Emb Hf b 0 tbM) (hL : L_X10_round a1 w = some r) : AC G M_X10_round [.ref (b + 0), .int a1] (Hf w) (.inl (some (.int r.1)), Hf r.2) := by
  unfold L_X10_round at hL
  refine AC.of (by decide) rfl (Nat.le_of_ble_eq_true rfl) ?_
  show AG G M_X10_round 0 [some (.ref (b + 0)), some (.int (a1)), none, none, none, none] [] _ _
  refine g_aload_n dX10_round_0 rfl rfl ?_
  refine g_iconst (v := 0) dX10_round_1 (by decide) ?_
  refine s_putI (k := 0) (j := 0) E hL rfl rfl (by decide) fw_X10_120 rfl rfl dX10_round_2 ?_
  intro w30 hL
  refine g_aload_n dX10_round_5 rfl rfl ?_
  refine g_iload_n dX10_round_6 rfl rfl ?_
  refine g_iconst (v := 1) dX10_round_7 (by decide) ?_
  obtain ⟨v31, w32, hc, hL⟩ := xB2_some hL
  refine g_callV (M' := M_X10_isWhat) (as := [.int (a1), .int (1)]) (v := some (.int (v31))) l_X10_373 kV_X10_isWhat (by decide) (C_X10_isWhat E hc) rfl (by have := E.1; omega) (E.2.1 _ 0 _ rfl) ⟨_, _, rfl⟩ (Nat.le_of_ble_eq_true rfl) dX10_round_8 ?_
  refine g_if_ne (tgt := 16) dX10_round_11 (by decide) (fun q40 => ?_) (fun q40 => ?_)
  · rw [if_neg q40] at hL
    refine g_aload_n dX10_round_16 rfl rfl ?_
    obtain ⟨w33, hc, hL⟩ := xB_some hL
    refine g_callV (M' := M_X10_tries) (as := []) (v := none) l_X10_388 kV_X10_tries (by decide) (C_X10_tries E hc) rfl (by have := E.1; omega) (E.2.1 _ 0 _ rfl) ⟨_, _, rfl⟩ (Nat.le_of_ble_eq_true rfl) dX10_round_17 ?_
    refine g_iconst (v := 0) dX10_round_20 (by decide) ?_
    refine g_istore_n (i := 2) dX10_round_21 rfl (by decide) rfl ?_
    refine P_X10_round_22_ok E hL ?_ ?_
    · intro z34 z35 z36 w37 hL
      refine g_iload_n dX10_round_151 rfl rfl ?_
      refine g_none 1 ?_
      refine g_if_ne (tgt := 159) dX10_round_152 (by decide) (fun q38 => ?_) (fun q38 => ?_)
      · rw [if_neg q38] at hL
        refine g_none 2 ?_
        refine g_iload_n dX10_round_159 rfl rfl ?_
        refine g_none 3 ?_
        exact J_X10_round_160_ok E hL 
      · rw [if_pos q38] at hL
        refine g_none 3 ?_
        refine g_iload_n dX10_round_155 rfl rfl ?_
        refine g_none 2 ?_
        refine g_goto (tgt := 160) dX10_round_156 (by decide) ?_
        exact J_X10_round_160_ok E hL 
    · intro w39 hL
      refine g_iconst (v := (-1)) dX10_round_179 (by decide) ?_
      obtain rfl := Option.some.inj hL
      exact g_iret rfl dX10_round_180
  · rw [if_pos q40] at hL
    refine g_none 0 ?_
    refine g_none 1 ?_
    refine g_iconst (v := 0) dX10_round_14 (by decide) ?_
    obtain rfl := Option.some.inj hL
    exact g_iret rfl dX10_round_15
def J_X10_delay_105 (x3 : Int32) (w : wS) : Option (Int32 × wS) :=
  xB (xPut w 53 ((-1))) fun w1 => some (x3, w1)
set_option maxRecDepth 20000 in
theorem J_X10_delay_105_ok {G : aG} {Hf : wS → aH} {b : Nat} {x3 : Int32} {w : wS} {r : Int32 × wS} (E : Emb Hf b 0 tbM) (hL : J_X10_delay_105  x3 w = some r) : AG G M_X10_delay 105 [some (.ref (b + 0)), none, none, some (.int (x3)), none] [] (Hf w) (.inl (some (.int r.1)), Hf r.2) := by
  unfold J_X10_delay_105 at hL
  refine g_aload_n dX10_delay_105 rfl rfl ?_
  refine g_none 0 ?_
  refine g_iconst (v := (-1)) dX10_delay_106 (by decide) ?_
  refine s_putI (k := 0) (j := 53) E hL rfl rfl (by decide) fw_X10_90 rfl rfl dX10_delay_107 ?_
  intro w1 hL
  refine g_iload_n dX10_delay_110 rfl rfl ?_
  refine g_none 3 ?_
  obtain rfl := Option.some.inj hL
  exact g_iret rfl dX10_delay_111
def J_X10_delay_98 (kh59 : Int32 → Int32 → Int32 → Int32 → wS → Option (Int32 × wS)) (ke105 : Int32 → wS → Option (Int32 × wS)) (x1 : Int32) (x2 : Int32) (x4 : Int32) (y0 : Int32) (w : wS) : Option (Int32 × wS) :=
  kh59 (x1) (x2) (y0) ((x4 + 1)) w
set_option maxRecDepth 20000 in
theorem J_X10_delay_98_ok {G : aG} {Hf : wS → aH} {b : Nat} {kh59 : Int32 → Int32 → Int32 → Int32 → wS → Option (Int32 × wS)} {ke105 : Int32 → wS → Option (Int32 × wS)} {x1 : Int32} {x2 : Int32} {x4 : Int32} {y0 : Int32} {w : wS} {r : Int32 × wS} (E : Emb Hf b 0 tbM) (hL : J_X10_delay_98 kh59 ke105 x1 x2 x4 y0 w = some r) (Hkh59 : ∀ (z0 : Int32) (z1 : Int32) (z2 : Int32) (z3 : Int32) (w : wS), kh59 z0 z1 z2 z3 w = some r → AG G M_X10_delay 59 [some (.ref (b + 0)), some (.int (z0)), some (.int (z1)), some (.int (z2)), some (.int (z3))] [] (Hf w) (.inl (some (.int r.1)), Hf r.2)) (Hke105 : ∀ (z0 : Int32) (w : wS), ke105 z0 w = some r → AG G M_X10_delay 105 [some (.ref (b + 0)), none, none, some (.int (z0)), none] [] (Hf w) (.inl (some (.int r.1)), Hf r.2)) : AG G M_X10_delay 98 [some (.ref (b + 0)), some (.int (x1)), some (.int (x2)), none, some (.int (x4))] [.int (y0)] (Hf w) (.inl (some (.int r.1)), Hf r.2) := by
  unfold J_X10_delay_98 at hL
  refine g_istore_n (i := 3) dX10_delay_98 rfl (by decide) rfl ?_
  refine g_iincV (v := (x4 + 1)) dX10_delay_99 rfl rfl (by decide) rfl ?_
  refine g_goto (tgt := 59) dX10_delay_102 (by decide) ?_
  exact Hkh59 _ _ _ _ _ hL
def B_X10_delay_59 (kh59 : Int32 → Int32 → Int32 → Int32 → wS → Option (Int32 × wS)) (ke105 : Int32 → wS → Option (Int32 × wS)) (x1 : Int32) (x2 : Int32) (x3 : Int32) (x4 : Int32) (w : wS) : Option (Int32 × wS) :=
  if 99 < x4 then ke105 (x3) w else if x3 = (-1) then xB (xPut w 55 (x4)) fun w2 => xB (L_X10_goesTo (1) w2) fun w3 => xB (xAld w3 21 6 (x2)) fun v4 => if v4 = x1 then J_X10_delay_98 kh59 ke105 (x1) (x2) (x4) (x4) w3 else J_X10_delay_98 kh59 ke105 (x1) (x2) (x4) ((-1)) w3 else ke105 (x3) w
set_option maxRecDepth 20000 in
theorem B_X10_delay_59_ok {G : aG} {Hf : wS → aH} {b : Nat} {kh59 : Int32 → Int32 → Int32 → Int32 → wS → Option (Int32 × wS)} {ke105 : Int32 → wS → Option (Int32 × wS)} {x1 : Int32} {x2 : Int32} {x3 : Int32} {x4 : Int32} {w : wS} {r : Int32 × wS} (E : Emb Hf b 0 tbM) (hL : B_X10_delay_59 kh59 ke105 x1 x2 x3 x4 w = some r) (Hkh59 : ∀ (z0 : Int32) (z1 : Int32) (z2 : Int32) (z3 : Int32) (w : wS), kh59 z0 z1 z2 z3 w = some r → AG G M_X10_delay 59 [some (.ref (b + 0)), some (.int (z0)), some (.int (z1)), some (.int (z2)), some (.int (z3))] [] (Hf w) (.inl (some (.int r.1)), Hf r.2)) (Hke105 : ∀ (z0 : Int32) (w : wS), ke105 z0 w = some r → AG G M_X10_delay 105 [some (.ref (b + 0)), none, none, some (.int (z0)), none] [] (Hf w) (.inl (some (.int r.1)), Hf r.2)) : AG G M_X10_delay 59 [some (.ref (b + 0)), some (.int (x1)), some (.int (x2)), some (.int (x3)), some (.int (x4))] [] (Hf w) (.inl (some (.int r.1)), Hf r.2) := by
  unfold B_X10_delay_59 at hL
  refine g_iload dX10_delay_59 rfl ?_
  refine g_bipush (v := 99) dX10_delay_61 (by decide) ?_
  refine g_icmp_gt (tgt := 105) dX10_delay_63 (by decide) (fun q7 => ?_) (fun q7 => ?_)
  · rw [if_pos q7] at hL
    refine g_none 1 ?_
    refine g_none 2 ?_
    refine g_none 4 ?_
    exact Hke105 _ _ hL
  · rw [if_neg q7] at hL
    refine g_iload_n dX10_delay_66 rfl rfl ?_
    refine g_iconst (v := (-1)) dX10_delay_67 (by decide) ?_
    refine g_icmp_ne (tgt := 105) dX10_delay_68 (by decide) (fun q6 => ?_) (fun q6 => ?_)
    · rw [if_neg q6] at hL
      refine g_none 1 ?_
      refine g_none 2 ?_
      refine g_none 4 ?_
      exact Hke105 _ _ hL
    · rw [if_pos q6] at hL
      refine g_none 3 ?_
      refine g_aload_n dX10_delay_71 rfl rfl ?_
      refine g_iload dX10_delay_72 rfl ?_
      refine s_putI (k := 0) (j := 55) E hL rfl rfl (by decide) fw_X10_324 rfl rfl dX10_delay_74 ?_
      intro w2 hL
      refine g_aload_n dX10_delay_77 rfl rfl ?_
      refine g_iconst (v := 1) dX10_delay_78 (by decide) ?_
      obtain ⟨w3, hc, hL⟩ := xB_some hL
      refine g_callV (M' := M_X10_goesTo) (as := [.int (1)]) (v := none) l_X10_397 kV_X10_goesTo (by decide) (C_X10_goesTo E hc) rfl (by have := E.1; omega) (E.2.1 _ 0 _ rfl) ⟨_, _, rfl⟩ (Nat.le_of_ble_eq_true rfl) dX10_delay_79 ?_
      refine g_aload_n dX10_delay_82 rfl rfl ?_
      refine s_getR (j := 47) E rfl rfl f_X10_84 dX10_delay_83 ?_
      refine g_iload_n dX10_delay_86 rfl rfl ?_
      refine s_iald (k := 21) E hL rfl dX10_delay_87 ?_
      intro v4 hL
      refine g_iload_n dX10_delay_88 rfl rfl ?_
      refine g_icmp_ne (tgt := 97) dX10_delay_89 (by decide) (fun q5 => ?_) (fun q5 => ?_)
      · rw [if_neg q5] at hL
        refine g_iconst (v := (-1)) dX10_delay_97 (by decide) ?_
        exact J_X10_delay_98_ok E hL Hkh59 Hke105
      · rw [if_pos q5] at hL
        refine g_iload dX10_delay_92 rfl ?_
        refine g_goto (tgt := 98) dX10_delay_94 (by decide) ?_
        exact J_X10_delay_98_ok E hL Hkh59 Hke105
def P_X10_delay_59 (ke105 : Int32 → wS → Option (Int32 × wS)) (n : Nat) (x1 : Int32) (x2 : Int32) (x3 : Int32) (x4 : Int32) (w : wS) : Option (Int32 × wS) :=
  xLoop (fun (kk : Int32 × Int32 × Int32 × Int32 × wS → Option (Int32 × wS)) σ => B_X10_delay_59 (fun x1 x2 x3 x4 w => kk (x1, x2, x3, x4, w)) ke105 (σ.1) (σ.2.1) (σ.2.2.1) (σ.2.2.2.1) (σ.2.2.2.2)) n (x1, x2, x3, x4, w)
theorem P_X10_delay_59_ok {G : aG} {Hf : wS → aH} {b : Nat} {ke105 : Int32 → wS → Option (Int32 × wS)} {n : Nat} {x1 : Int32} {x2 : Int32} {x3 : Int32} {x4 : Int32} {w : wS} {r : Int32 × wS} (E : Emb Hf b 0 tbM) (hL : P_X10_delay_59 ke105 n x1 x2 x3 x4 w = some r) (Hke105 : ∀ (z0 : Int32) (w : wS), ke105 z0 w = some r → AG G M_X10_delay 105 [some (.ref (b + 0)), none, none, some (.int (z0)), none] [] (Hf w) (.inl (some (.int r.1)), Hf r.2)) : AG G M_X10_delay 59 [some (.ref (b + 0)), some (.int (x1)), some (.int (x2)), some (.int (x3)), some (.int (x4))] [] (Hf w) (.inl (some (.int r.1)), Hf r.2) :=
  xLoop_ok (Q := fun (σ : Int32 × Int32 × Int32 × Int32 × wS) => AG G M_X10_delay 59 [some (.ref (b + 0)), some (.int (σ.1)), some (.int (σ.2.1)), some (.int (σ.2.2.1)), some (.int (σ.2.2.2.1))] [] (Hf σ.2.2.2.2) (.inl (some (.int r.1)), Hf r.2)) (fun kk hk σ hσ => B_X10_delay_59_ok E hσ (fun x1 x2 x3 x4 w h9 => hk (x1, x2, x3, x4, w) h9) Hke105) n (x1, x2, x3, x4, w) hL
def J_X10_delay_42 (w : wS) : Option (Int32 × wS) :=
  some ((-1), w)
set_option maxRecDepth 20000 in
theorem J_X10_delay_42_ok {G : aG} {Hf : wS → aH} {b : Nat} {w : wS} {r : Int32 × wS} (E : Emb Hf b 0 tbM) (hL : J_X10_delay_42   w = some r) : AG G M_X10_delay 42 [none, none, none, none, none] [] (Hf w) (.inl (some (.int r.1)), Hf r.2) := by
  unfold J_X10_delay_42 at hL
  refine g_iconst (v := (-1)) dX10_delay_42 (by decide) ?_
  obtain rfl := Option.some.inj hL
  exact g_iret rfl dX10_delay_43
def J_X10_delay_21 (w : wS) : Option (Int32 × wS) :=
  some (0, w)
set_option maxRecDepth 20000 in
theorem J_X10_delay_21_ok {G : aG} {Hf : wS → aH} {b : Nat} {w : wS} {r : Int32 × wS} (E : Emb Hf b 0 tbM) (hL : J_X10_delay_21   w = some r) : AG G M_X10_delay 21 [none, none, none, none, none] [] (Hf w) (.inl (some (.int r.1)), Hf r.2) := by
  unfold J_X10_delay_21 at hL
  refine g_iconst (v := 0) dX10_delay_21 (by decide) ?_
  obtain rfl := Option.some.inj hL
  exact g_iret rfl dX10_delay_22
def L_X10_delay (a1 : Int32) (a2 : Int32) (w : wS) : Option (Int32 × wS) :=
  xB (xPut w 0 (0)) fun w8 => xB2 (L_X10_isPerson (a1) w8) fun v9 w10 => if v9 = 0 then J_X10_delay_21   w10 else xB2 (L_X10_isDuty (a2) w10) fun v11 w12 => if v11 = 0 then J_X10_delay_21   w12 else xB (xAld w12 1 8 (a1)) fun v13 => if v13 = 1 then J_X10_delay_42   w12 else xB2 (L_X10_doesCome (0) (a1) w12) fun v14 w15 => if v14 = 0 then J_X10_delay_42   w15 else xB (xPut w15 53 (a1)) fun w16 => xB (xPut w16 54 (a2)) fun w17 => P_X10_delay_59 (fun z18 w19 => J_X10_delay_105  (z18) w19) 5000 (a1) (a2) ((-1)) (0) w17
set_option maxRecDepth 20000 in
theorem C_X10_delay {G : aG} {Hf : wS → aH} {b : Nat} {a1 : Int32} {a2 : Int32} {w : wS} {r : Int32 × wS} (E : Emb Hf b 0 tbM) (hL : L_X10_delay a1 a2 w = some r) : AC G M_X10_delay [.ref (b + 0), .int a1, .int a2] (Hf w) (.inl (some (.int r.1)), Hf r.2) := by
  unfold L_X10_delay at hL
  refine AC.of (by decide) rfl (Nat.le_of_ble_eq_true rfl) ?_
  show AG G M_X10_delay 0 [some (.ref (b + 0)), some (.int (a1)), some (.int (a2)), none, none] [] _ _
  refine g_aload_n dX10_delay_0 rfl rfl ?_
  refine g_iconst (v := 0) dX10_delay_1 (by decide) ?_
  refine s_putI (k := 0) (j := 0) E hL rfl rfl (by decide) fw_X10_120 rfl rfl dX10_delay_2 ?_
  intro w8 hL
  refine g_aload_n dX10_delay_5 rfl rfl ?_
  refine g_iload_n dX10_delay_6 rfl rfl ?_
  obtain ⟨v9, w10, hc, hL⟩ := xB2_some hL
  refine g_callV (M' := M_X10_isPerson) (as := [.int (a1)]) (v := some (.int (v9))) l_X10_370 kV_X10_isPerson (by decide) (C_X10_isPerson E hc) rfl (by have := E.1; omega) (E.2.1 _ 0 _ rfl) ⟨_, _, rfl⟩ (Nat.le_of_ble_eq_true rfl) dX10_delay_7 ?_
  refine g_if_eq (tgt := 21) dX10_delay_10 (by decide) (fun q23 => ?_) (fun q23 => ?_)
  · rw [if_pos q23] at hL
    refine g_none 0 ?_
    refine g_none 1 ?_
    refine g_none 2 ?_
    exact J_X10_delay_21_ok E hL 
  · rw [if_neg q23] at hL
    refine g_aload_n dX10_delay_13 rfl rfl ?_
    refine g_iload_n dX10_delay_14 rfl rfl ?_
    obtain ⟨v11, w12, hc, hL⟩ := xB2_some hL
    refine g_callV (M' := M_X10_isDuty) (as := [.int (a2)]) (v := some (.int (v11))) l_X10_376 kV_X10_isDuty (by decide) (C_X10_isDuty E hc) rfl (by have := E.1; omega) (E.2.1 _ 0 _ rfl) ⟨_, _, rfl⟩ (Nat.le_of_ble_eq_true rfl) dX10_delay_15 ?_
    refine g_if_ne (tgt := 23) dX10_delay_18 (by decide) (fun q22 => ?_) (fun q22 => ?_)
    · rw [if_neg q22] at hL
      refine g_aload_n dX10_delay_23 rfl rfl ?_
      refine s_getR (j := 6) E rfl rfl f_X10_19 dX10_delay_24 ?_
      refine g_iload_n dX10_delay_27 rfl rfl ?_
      refine s_iald (k := 1) E hL rfl dX10_delay_28 ?_
      intro v13 hL
      refine g_iconst (v := 1) dX10_delay_29 (by decide) ?_
      refine g_icmp_eq (tgt := 42) dX10_delay_30 (by decide) (fun q21 => ?_) (fun q21 => ?_)
      · rw [if_pos q21] at hL
        refine g_none 0 ?_
        refine g_none 1 ?_
        refine g_none 2 ?_
        exact J_X10_delay_42_ok E hL 
      · rw [if_neg q21] at hL
        refine g_aload_n dX10_delay_33 rfl rfl ?_
        refine g_iconst (v := 0) dX10_delay_34 (by decide) ?_
        refine g_iload_n dX10_delay_35 rfl rfl ?_
        obtain ⟨v14, w15, hc, hL⟩ := xB2_some hL
        refine g_callV (M' := M_X10_doesCome) (as := [.int (0), .int (a1)]) (v := some (.int (v14))) l_X10_340 kV_X10_doesCome (by decide) (C_X10_doesCome E hc) rfl (by have := E.1; omega) (E.2.1 _ 0 _ rfl) ⟨_, _, rfl⟩ (Nat.le_of_ble_eq_true rfl) dX10_delay_36 ?_
        refine g_if_ne (tgt := 44) dX10_delay_39 (by decide) (fun q20 => ?_) (fun q20 => ?_)
        · rw [if_neg q20] at hL
          refine g_aload_n dX10_delay_44 rfl rfl ?_
          refine g_iload_n dX10_delay_45 rfl rfl ?_
          refine s_putI (k := 0) (j := 53) E hL rfl rfl (by decide) fw_X10_90 rfl rfl dX10_delay_46 ?_
          intro w16 hL
          refine g_aload_n dX10_delay_49 rfl rfl ?_
          refine g_iload_n dX10_delay_50 rfl rfl ?_
          refine s_putI (k := 0) (j := 54) E hL rfl rfl (by decide) fw_X10_321 rfl rfl dX10_delay_51 ?_
          intro w17 hL
          refine g_iconst (v := (-1)) dX10_delay_54 (by decide) ?_
          refine g_istore_n (i := 3) dX10_delay_55 rfl (by decide) rfl ?_
          refine g_iconst (v := 0) dX10_delay_56 (by decide) ?_
          refine g_istore (i := 4) dX10_delay_57 (by decide) rfl ?_
          refine P_X10_delay_59_ok E hL ?_
          · intro z18 w19 hL
            exact J_X10_delay_105_ok E hL 
        · rw [if_pos q20] at hL
          refine g_none 0 ?_
          refine g_none 1 ?_
          refine g_none 2 ?_
          exact J_X10_delay_42_ok E hL 
    · rw [if_pos q22] at hL
      refine g_none 0 ?_
      refine g_none 1 ?_
      refine g_none 2 ?_
      exact J_X10_delay_21_ok E hL 
def J_X10_club_184 (y0 : Int32) (w : wS) : Option (Int32 × wS) :=
  some (y0, w)
set_option maxRecDepth 20000 in
theorem J_X10_club_184_ok {G : aG} {Hf : wS → aH} {b : Nat} {y0 : Int32} {w : wS} {r : Int32 × wS} (E : Emb Hf b 0 tbM) (hL : J_X10_club_184  y0 w = some r) : AG G M_X10_club 184 [none, none, none, none, none, none, none, none] [.int (y0)] (Hf w) (.inl (some (.int r.1)), Hf r.2) := by
  unfold J_X10_club_184 at hL
  obtain rfl := Option.some.inj hL
  exact g_iret rfl dX10_club_184
def J_X10_club_167 (kh43 : Int32 → Int32 → Int32 → Int32 → Int32 → wS → Option (Int32 × wS)) (ke173 : Int32 → Int32 → Int32 → wS → Option (Int32 × wS)) (x1 : Int32) (x2 : Int32) (x3 : Int32) (x4 : Int32) (x5 : Int32) (w : wS) : Option (Int32 × wS) :=
  kh43 (x1) (x2) (x3) (x4) ((x5 + 1)) w
set_option maxRecDepth 20000 in
theorem J_X10_club_167_ok {G : aG} {Hf : wS → aH} {b : Nat} {kh43 : Int32 → Int32 → Int32 → Int32 → Int32 → wS → Option (Int32 × wS)} {ke173 : Int32 → Int32 → Int32 → wS → Option (Int32 × wS)} {x1 : Int32} {x2 : Int32} {x3 : Int32} {x4 : Int32} {x5 : Int32} {w : wS} {r : Int32 × wS} (E : Emb Hf b 0 tbM) (hL : J_X10_club_167 kh43 ke173 x1 x2 x3 x4 x5 w = some r) (Hkh43 : ∀ (z0 : Int32) (z1 : Int32) (z2 : Int32) (z3 : Int32) (z4 : Int32) (w : wS), kh43 z0 z1 z2 z3 z4 w = some r → AG G M_X10_club 43 [some (.ref (b + 0)), some (.int (z0)), some (.int (z1)), some (.int (z2)), some (.int (z3)), some (.int (z4)), none, none] [] (Hf w) (.inl (some (.int r.1)), Hf r.2)) (Hke173 : ∀ (z0 : Int32) (z1 : Int32) (z2 : Int32) (w : wS), ke173 z0 z1 z2 w = some r → AG G M_X10_club 173 [none, none, some (.int (z0)), some (.int (z1)), some (.int (z2)), none, none, none] [] (Hf w) (.inl (some (.int r.1)), Hf r.2)) : AG G M_X10_club 167 [some (.ref (b + 0)), some (.int (x1)), some (.int (x2)), some (.int (x3)), some (.int (x4)), some (.int (x5)), none, none] [] (Hf w) (.inl (some (.int r.1)), Hf r.2) := by
  unfold J_X10_club_167 at hL
  refine g_iincV (v := (x5 + 1)) dX10_club_167 rfl rfl (by decide) rfl ?_
  refine g_goto (tgt := 43) dX10_club_170 (by decide) ?_
  exact Hkh43 _ _ _ _ _ _ hL
def J_X10_club_165 (kh43 : Int32 → Int32 → Int32 → Int32 → Int32 → wS → Option (Int32 × wS)) (ke173 : Int32 → Int32 → Int32 → wS → Option (Int32 × wS)) (x1 : Int32) (x2 : Int32) (x4 : Int32) (x5 : Int32) (y0 : Int32) (y1 : Int32) (w : wS) : Option (Int32 × wS) :=
  J_X10_club_167 kh43 ke173 (x1) (x2) ((y0 ||| y1)) (x4) (x5) w
set_option maxRecDepth 20000 in
theorem J_X10_club_165_ok {G : aG} {Hf : wS → aH} {b : Nat} {kh43 : Int32 → Int32 → Int32 → Int32 → Int32 → wS → Option (Int32 × wS)} {ke173 : Int32 → Int32 → Int32 → wS → Option (Int32 × wS)} {x1 : Int32} {x2 : Int32} {x4 : Int32} {x5 : Int32} {y0 : Int32} {y1 : Int32} {w : wS} {r : Int32 × wS} (E : Emb Hf b 0 tbM) (hL : J_X10_club_165 kh43 ke173 x1 x2 x4 x5 y0 y1 w = some r) (Hkh43 : ∀ (z0 : Int32) (z1 : Int32) (z2 : Int32) (z3 : Int32) (z4 : Int32) (w : wS), kh43 z0 z1 z2 z3 z4 w = some r → AG G M_X10_club 43 [some (.ref (b + 0)), some (.int (z0)), some (.int (z1)), some (.int (z2)), some (.int (z3)), some (.int (z4)), none, none] [] (Hf w) (.inl (some (.int r.1)), Hf r.2)) (Hke173 : ∀ (z0 : Int32) (z1 : Int32) (z2 : Int32) (w : wS), ke173 z0 z1 z2 w = some r → AG G M_X10_club 173 [none, none, some (.int (z0)), some (.int (z1)), some (.int (z2)), none, none, none] [] (Hf w) (.inl (some (.int r.1)), Hf r.2)) : AG G M_X10_club 165 [some (.ref (b + 0)), some (.int (x1)), some (.int (x2)), none, some (.int (x4)), some (.int (x5)), none, none] [.int (y1), .int (y0)] (Hf w) (.inl (some (.int r.1)), Hf r.2) := by
  unfold J_X10_club_165 at hL
  refine g_ior dX10_club_165 ?_
  refine g_istore_n (i := 3) dX10_club_166 rfl (by decide) rfl ?_
  exact J_X10_club_167_ok E hL Hkh43 Hke173
def J_X10_club_138 (kh82 : Int32 → Int32 → Int32 → Int32 → Int32 → Int32 → Int32 → wS → Option (Int32 × wS)) (ke147 : Int32 → Int32 → Int32 → Int32 → Int32 → Int32 → wS → Option (Int32 × wS)) (x1 : Int32) (x2 : Int32) (x3 : Int32) (x4 : Int32) (x5 : Int32) (x7 : Int32) (y0 : Int32) (y1 : Int32) (w : wS) : Option (Int32 × wS) :=
  kh82 (x1) (x2) (x3) (x4) (x5) ((y0 + y1)) ((x7 + 1)) w
set_option maxRecDepth 20000 in
theorem J_X10_club_138_ok {G : aG} {Hf : wS → aH} {b : Nat} {kh82 : Int32 → Int32 → Int32 → Int32 → Int32 → Int32 → Int32 → wS → Option (Int32 × wS)} {ke147 : Int32 → Int32 → Int32 → Int32 → Int32 → Int32 → wS → Option (Int32 × wS)} {x1 : Int32} {x2 : Int32} {x3 : Int32} {x4 : Int32} {x5 : Int32} {x7 : Int32} {y0 : Int32} {y1 : Int32} {w : wS} {r : Int32 × wS} (E : Emb Hf b 0 tbM) (hL : J_X10_club_138 kh82 ke147 x1 x2 x3 x4 x5 x7 y0 y1 w = some r) (Hkh82 : ∀ (z0 : Int32) (z1 : Int32) (z2 : Int32) (z3 : Int32) (z4 : Int32) (z5 : Int32) (z6 : Int32) (w : wS), kh82 z0 z1 z2 z3 z4 z5 z6 w = some r → AG G M_X10_club 82 [some (.ref (b + 0)), some (.int (z0)), some (.int (z1)), some (.int (z2)), some (.int (z3)), some (.int (z4)), some (.int (z5)), some (.int (z6))] [] (Hf w) (.inl (some (.int r.1)), Hf r.2)) (Hke147 : ∀ (z0 : Int32) (z1 : Int32) (z2 : Int32) (z3 : Int32) (z4 : Int32) (z5 : Int32) (w : wS), ke147 z0 z1 z2 z3 z4 z5 w = some r → AG G M_X10_club 147 [some (.ref (b + 0)), some (.int (z0)), some (.int (z1)), some (.int (z2)), some (.int (z3)), some (.int (z4)), some (.int (z5)), none] [] (Hf w) (.inl (some (.int r.1)), Hf r.2)) : AG G M_X10_club 138 [some (.ref (b + 0)), some (.int (x1)), some (.int (x2)), some (.int (x3)), some (.int (x4)), some (.int (x5)), none, some (.int (x7))] [.int (y1), .int (y0)] (Hf w) (.inl (some (.int r.1)), Hf r.2) := by
  unfold J_X10_club_138 at hL
  refine g_iadd dX10_club_138 ?_
  refine g_istore (i := 6) dX10_club_139 (by decide) rfl ?_
  refine g_iincV (v := (x7 + 1)) dX10_club_141 rfl rfl (by decide) rfl ?_
  refine g_goto (tgt := 82) dX10_club_144 (by decide) ?_
  exact Hkh82 _ _ _ _ _ _ _ _ hL
def J_X10_club_137 (kh82 : Int32 → Int32 → Int32 → Int32 → Int32 → Int32 → Int32 → wS → Option (Int32 × wS)) (ke147 : Int32 → Int32 → Int32 → Int32 → Int32 → Int32 → wS → Option (Int32 × wS)) (x1 : Int32) (x2 : Int32) (x3 : Int32) (x4 : Int32) (x5 : Int32) (x7 : Int32) (y0 : Int32) (w : wS) : Option (Int32 × wS) :=
  J_X10_club_138 kh82 ke147 (x1) (x2) (x3) (x4) (x5) (x7) (y0) (0) w
set_option maxRecDepth 20000 in
theorem J_X10_club_137_ok {G : aG} {Hf : wS → aH} {b : Nat} {kh82 : Int32 → Int32 → Int32 → Int32 → Int32 → Int32 → Int32 → wS → Option (Int32 × wS)} {ke147 : Int32 → Int32 → Int32 → Int32 → Int32 → Int32 → wS → Option (Int32 × wS)} {x1 : Int32} {x2 : Int32} {x3 : Int32} {x4 : Int32} {x5 : Int32} {x7 : Int32} {y0 : Int32} {w : wS} {r : Int32 × wS} (E : Emb Hf b 0 tbM) (hL : J_X10_club_137 kh82 ke147 x1 x2 x3 x4 x5 x7 y0 w = some r) (Hkh82 : ∀ (z0 : Int32) (z1 : Int32) (z2 : Int32) (z3 : Int32) (z4 : Int32) (z5 : Int32) (z6 : Int32) (w : wS), kh82 z0 z1 z2 z3 z4 z5 z6 w = some r → AG G M_X10_club 82 [some (.ref (b + 0)), some (.int (z0)), some (.int (z1)), some (.int (z2)), some (.int (z3)), some (.int (z4)), some (.int (z5)), some (.int (z6))] [] (Hf w) (.inl (some (.int r.1)), Hf r.2)) (Hke147 : ∀ (z0 : Int32) (z1 : Int32) (z2 : Int32) (z3 : Int32) (z4 : Int32) (z5 : Int32) (w : wS), ke147 z0 z1 z2 z3 z4 z5 w = some r → AG G M_X10_club 147 [some (.ref (b + 0)), some (.int (z0)), some (.int (z1)), some (.int (z2)), some (.int (z3)), some (.int (z4)), some (.int (z5)), none] [] (Hf w) (.inl (some (.int r.1)), Hf r.2)) : AG G M_X10_club 137 [some (.ref (b + 0)), some (.int (x1)), some (.int (x2)), some (.int (x3)), some (.int (x4)), some (.int (x5)), none, some (.int (x7))] [.int (y0)] (Hf w) (.inl (some (.int r.1)), Hf r.2) := by
  unfold J_X10_club_137 at hL
  refine g_iconst (v := 0) dX10_club_137 (by decide) ?_
  exact J_X10_club_138_ok E hL Hkh82 Hke147
def B_X10_club_82 (kh82 : Int32 → Int32 → Int32 → Int32 → Int32 → Int32 → Int32 → wS → Option (Int32 × wS)) (ke147 : Int32 → Int32 → Int32 → Int32 → Int32 → Int32 → wS → Option (Int32 × wS)) (x1 : Int32) (x2 : Int32) (x3 : Int32) (x4 : Int32) (x5 : Int32) (x6 : Int32) (x7 : Int32) (w : wS) : Option (Int32 × wS) :=
  xB (xGet w 1) fun v1 => if v1 ≤ x7 then ke147 (x1) (x2) (x3) (x4) (x5) (x6) w else if x7 = x5 then J_X10_club_137 kh82 ke147 (x1) (x2) (x3) (x4) (x5) (x7) (x6) w else xB (xAld w 1 8 (x7)) fun v2 => if v2 = 1 then J_X10_club_137 kh82 ke147 (x1) (x2) (x3) (x4) (x5) (x7) (x6) w else xB2 (L_X10_doesCome (0) (x7) w) fun v3 w4 => if v3 = 0 then J_X10_club_137 kh82 ke147 (x1) (x2) (x3) (x4) (x5) (x7) (x6) w4 else xB2 (L_X10_isLater (x1) (x7) (x5) w4) fun v5 w6 => if v5 = 0 then J_X10_club_137 kh82 ke147 (x1) (x2) (x3) (x4) (x5) (x7) (x6) w6 else J_X10_club_138 kh82 ke147 (x1) (x2) (x3) (x4) (x5) (x7) (x6) (1) w6
set_option maxRecDepth 20000 in
theorem B_X10_club_82_ok {G : aG} {Hf : wS → aH} {b : Nat} {kh82 : Int32 → Int32 → Int32 → Int32 → Int32 → Int32 → Int32 → wS → Option (Int32 × wS)} {ke147 : Int32 → Int32 → Int32 → Int32 → Int32 → Int32 → wS → Option (Int32 × wS)} {x1 : Int32} {x2 : Int32} {x3 : Int32} {x4 : Int32} {x5 : Int32} {x6 : Int32} {x7 : Int32} {w : wS} {r : Int32 × wS} (E : Emb Hf b 0 tbM) (hL : B_X10_club_82 kh82 ke147 x1 x2 x3 x4 x5 x6 x7 w = some r) (Hkh82 : ∀ (z0 : Int32) (z1 : Int32) (z2 : Int32) (z3 : Int32) (z4 : Int32) (z5 : Int32) (z6 : Int32) (w : wS), kh82 z0 z1 z2 z3 z4 z5 z6 w = some r → AG G M_X10_club 82 [some (.ref (b + 0)), some (.int (z0)), some (.int (z1)), some (.int (z2)), some (.int (z3)), some (.int (z4)), some (.int (z5)), some (.int (z6))] [] (Hf w) (.inl (some (.int r.1)), Hf r.2)) (Hke147 : ∀ (z0 : Int32) (z1 : Int32) (z2 : Int32) (z3 : Int32) (z4 : Int32) (z5 : Int32) (w : wS), ke147 z0 z1 z2 z3 z4 z5 w = some r → AG G M_X10_club 147 [some (.ref (b + 0)), some (.int (z0)), some (.int (z1)), some (.int (z2)), some (.int (z3)), some (.int (z4)), some (.int (z5)), none] [] (Hf w) (.inl (some (.int r.1)), Hf r.2)) : AG G M_X10_club 82 [some (.ref (b + 0)), some (.int (x1)), some (.int (x2)), some (.int (x3)), some (.int (x4)), some (.int (x5)), some (.int (x6)), some (.int (x7))] [] (Hf w) (.inl (some (.int r.1)), Hf r.2) := by
  unfold B_X10_club_82 at hL
  refine g_iload dX10_club_82 rfl ?_
  refine g_aload_n dX10_club_84 rfl rfl ?_
  refine s_getI (k := 0) (j := 1) E hL rfl rfl f_X10_278 dX10_club_85 ?_
  intro v1 hL
  refine g_icmp_ge (tgt := 147) dX10_club_88 (by decide) (fun q11 => ?_) (fun q11 => ?_)
  · rw [if_pos q11] at hL
    refine g_none 7 ?_
    exact Hke147 _ _ _ _ _ _ _ hL
  · rw [if_neg q11] at hL
    refine g_iload dX10_club_91 rfl ?_
    refine g_none 6 ?_
    refine g_iload dX10_club_93 rfl ?_
    refine g_iload dX10_club_95 rfl ?_
    refine g_icmp_eq (tgt := 137) dX10_club_97 (by decide) (fun q10 => ?_) (fun q10 => ?_)
    · rw [if_pos q10] at hL
      exact J_X10_club_137_ok E hL Hkh82 Hke147
    · rw [if_neg q10] at hL
      refine g_aload_n dX10_club_100 rfl rfl ?_
      refine s_getR (j := 6) E rfl rfl f_X10_19 dX10_club_101 ?_
      refine g_iload dX10_club_104 rfl ?_
      refine s_iald (k := 1) E hL rfl dX10_club_106 ?_
      intro v2 hL
      refine g_iconst (v := 1) dX10_club_107 (by decide) ?_
      refine g_icmp_eq (tgt := 137) dX10_club_108 (by decide) (fun q9 => ?_) (fun q9 => ?_)
      · rw [if_pos q9] at hL
        exact J_X10_club_137_ok E hL Hkh82 Hke147
      · rw [if_neg q9] at hL
        refine g_aload_n dX10_club_111 rfl rfl ?_
        refine g_iconst (v := 0) dX10_club_112 (by decide) ?_
        refine g_iload dX10_club_113 rfl ?_
        obtain ⟨v3, w4, hc, hL⟩ := xB2_some hL
        refine g_callV (M' := M_X10_doesCome) (as := [.int (0), .int (x7)]) (v := some (.int (v3))) l_X10_340 kV_X10_doesCome (by decide) (C_X10_doesCome E hc) rfl (by have := E.1; omega) (E.2.1 _ 0 _ rfl) ⟨_, _, rfl⟩ (Nat.le_of_ble_eq_true rfl) dX10_club_115 ?_
        refine g_if_eq (tgt := 137) dX10_club_118 (by decide) (fun q8 => ?_) (fun q8 => ?_)
        · rw [if_pos q8] at hL
          exact J_X10_club_137_ok E hL Hkh82 Hke147
        · rw [if_neg q8] at hL
          refine g_aload_n dX10_club_121 rfl rfl ?_
          refine g_iload_n dX10_club_122 rfl rfl ?_
          refine g_iload dX10_club_123 rfl ?_
          refine g_iload dX10_club_125 rfl ?_
          obtain ⟨v5, w6, hc, hL⟩ := xB2_some hL
          refine g_callV (M' := M_X10_isLater) (as := [.int (x1), .int (x7), .int (x5)]) (v := some (.int (v5))) l_X10_347 kV_X10_isLater (by decide) (C_X10_isLater E hc) rfl (by have := E.1; omega) (E.2.1 _ 0 _ rfl) ⟨_, _, rfl⟩ (Nat.le_of_ble_eq_true rfl) dX10_club_127 ?_
          refine g_if_eq (tgt := 137) dX10_club_130 (by decide) (fun q7 => ?_) (fun q7 => ?_)
          · rw [if_pos q7] at hL
            exact J_X10_club_137_ok E hL Hkh82 Hke147
          · rw [if_neg q7] at hL
            refine g_iconst (v := 1) dX10_club_133 (by decide) ?_
            refine g_goto (tgt := 138) dX10_club_134 (by decide) ?_
            exact J_X10_club_138_ok E hL Hkh82 Hke147
def P_X10_club_82 (ke147 : Int32 → Int32 → Int32 → Int32 → Int32 → Int32 → wS → Option (Int32 × wS)) (n : Nat) (x1 : Int32) (x2 : Int32) (x3 : Int32) (x4 : Int32) (x5 : Int32) (x6 : Int32) (x7 : Int32) (w : wS) : Option (Int32 × wS) :=
  xLoop (fun (kk : Int32 × Int32 × Int32 × Int32 × Int32 × Int32 × Int32 × wS → Option (Int32 × wS)) σ => B_X10_club_82 (fun x1 x2 x3 x4 x5 x6 x7 w => kk (x1, x2, x3, x4, x5, x6, x7, w)) ke147 (σ.1) (σ.2.1) (σ.2.2.1) (σ.2.2.2.1) (σ.2.2.2.2.1) (σ.2.2.2.2.2.1) (σ.2.2.2.2.2.2.1) (σ.2.2.2.2.2.2.2)) n (x1, x2, x3, x4, x5, x6, x7, w)
theorem P_X10_club_82_ok {G : aG} {Hf : wS → aH} {b : Nat} {ke147 : Int32 → Int32 → Int32 → Int32 → Int32 → Int32 → wS → Option (Int32 × wS)} {n : Nat} {x1 : Int32} {x2 : Int32} {x3 : Int32} {x4 : Int32} {x5 : Int32} {x6 : Int32} {x7 : Int32} {w : wS} {r : Int32 × wS} (E : Emb Hf b 0 tbM) (hL : P_X10_club_82 ke147 n x1 x2 x3 x4 x5 x6 x7 w = some r) (Hke147 : ∀ (z0 : Int32) (z1 : Int32) (z2 : Int32) (z3 : Int32) (z4 : Int32) (z5 : Int32) (w : wS), ke147 z0 z1 z2 z3 z4 z5 w = some r → AG G M_X10_club 147 [some (.ref (b + 0)), some (.int (z0)), some (.int (z1)), some (.int (z2)), some (.int (z3)), some (.int (z4)), some (.int (z5)), none] [] (Hf w) (.inl (some (.int r.1)), Hf r.2)) : AG G M_X10_club 82 [some (.ref (b + 0)), some (.int (x1)), some (.int (x2)), some (.int (x3)), some (.int (x4)), some (.int (x5)), some (.int (x6)), some (.int (x7))] [] (Hf w) (.inl (some (.int r.1)), Hf r.2) :=
  xLoop_ok (Q := fun (σ : Int32 × Int32 × Int32 × Int32 × Int32 × Int32 × Int32 × wS) => AG G M_X10_club 82 [some (.ref (b + 0)), some (.int (σ.1)), some (.int (σ.2.1)), some (.int (σ.2.2.1)), some (.int (σ.2.2.2.1)), some (.int (σ.2.2.2.2.1)), some (.int (σ.2.2.2.2.2.1)), some (.int (σ.2.2.2.2.2.2.1))] [] (Hf σ.2.2.2.2.2.2.2) (.inl (some (.int r.1)), Hf r.2)) (fun kk hk σ hσ => B_X10_club_82_ok E hσ (fun x1 x2 x3 x4 x5 x6 x7 w h9 => hk (x1, x2, x3, x4, x5, x6, x7, w) h9) Hke147) n (x1, x2, x3, x4, x5, x6, x7, w) hL
def B_X10_club_43 (kh43 : Int32 → Int32 → Int32 → Int32 → Int32 → wS → Option (Int32 × wS)) (ke173 : Int32 → Int32 → Int32 → wS → Option (Int32 × wS)) (x1 : Int32) (x2 : Int32) (x3 : Int32) (x4 : Int32) (x5 : Int32) (w : wS) : Option (Int32 × wS) :=
  xB (xGet w 1) fun v12 => if v12 ≤ x5 then ke173 (x2) (x3) (x4) w else xB (xAld w 1 8 (x5)) fun v13 => if v13 = 1 then J_X10_club_167 kh43 ke173 (x1) (x2) (x3) (x4) (x5) w else xB2 (L_X10_doesCome (0) (x5) w) fun v14 w15 => if v14 = 0 then J_X10_club_167 kh43 ke173 (x1) (x2) (x3) (x4) (x5) w15 else P_X10_club_82 (fun z16 z17 z18 z19 z20 z21 w22 => if z17 ≤ z21 then J_X10_club_165 kh43 ke173 (z16) (z17) ((z19 + 1)) (z20) (z18) (0) w22 else J_X10_club_165 kh43 ke173 (z16) (z17) ((z19 + 1)) (z20) (z18) ((1 <<< (z20 &&& 31))) w22) 5000 (x1) (x2) (x3) (x4) (x5) (0) (0) w15
set_option maxRecDepth 20000 in
theorem B_X10_club_43_ok {G : aG} {Hf : wS → aH} {b : Nat} {kh43 : Int32 → Int32 → Int32 → Int32 → Int32 → wS → Option (Int32 × wS)} {ke173 : Int32 → Int32 → Int32 → wS → Option (Int32 × wS)} {x1 : Int32} {x2 : Int32} {x3 : Int32} {x4 : Int32} {x5 : Int32} {w : wS} {r : Int32 × wS} (E : Emb Hf b 0 tbM) (hL : B_X10_club_43 kh43 ke173 x1 x2 x3 x4 x5 w = some r) (Hkh43 : ∀ (z0 : Int32) (z1 : Int32) (z2 : Int32) (z3 : Int32) (z4 : Int32) (w : wS), kh43 z0 z1 z2 z3 z4 w = some r → AG G M_X10_club 43 [some (.ref (b + 0)), some (.int (z0)), some (.int (z1)), some (.int (z2)), some (.int (z3)), some (.int (z4)), none, none] [] (Hf w) (.inl (some (.int r.1)), Hf r.2)) (Hke173 : ∀ (z0 : Int32) (z1 : Int32) (z2 : Int32) (w : wS), ke173 z0 z1 z2 w = some r → AG G M_X10_club 173 [none, none, some (.int (z0)), some (.int (z1)), some (.int (z2)), none, none, none] [] (Hf w) (.inl (some (.int r.1)), Hf r.2)) : AG G M_X10_club 43 [some (.ref (b + 0)), some (.int (x1)), some (.int (x2)), some (.int (x3)), some (.int (x4)), some (.int (x5)), none, none] [] (Hf w) (.inl (some (.int r.1)), Hf r.2) := by
  unfold B_X10_club_43 at hL
  refine g_iload dX10_club_43 rfl ?_
  refine g_aload_n dX10_club_45 rfl rfl ?_
  refine s_getI (k := 0) (j := 1) E hL rfl rfl f_X10_278 dX10_club_46 ?_
  intro v12 hL
  refine g_icmp_ge (tgt := 173) dX10_club_49 (by decide) (fun q26 => ?_) (fun q26 => ?_)
  · rw [if_pos q26] at hL
    refine g_none 0 ?_
    refine g_none 1 ?_
    refine g_none 5 ?_
    exact Hke173 _ _ _ _ hL
  · rw [if_neg q26] at hL
    refine g_aload_n dX10_club_52 rfl rfl ?_
    refine s_getR (j := 6) E rfl rfl f_X10_19 dX10_club_53 ?_
    refine g_iload dX10_club_56 rfl ?_
    refine s_iald (k := 1) E hL rfl dX10_club_58 ?_
    intro v13 hL
    refine g_iconst (v := 1) dX10_club_59 (by decide) ?_
    refine g_icmp_eq (tgt := 167) dX10_club_60 (by decide) (fun q25 => ?_) (fun q25 => ?_)
    · rw [if_pos q25] at hL
      exact J_X10_club_167_ok E hL Hkh43 Hke173
    · rw [if_neg q25] at hL
      refine g_aload_n dX10_club_63 rfl rfl ?_
      refine g_iconst (v := 0) dX10_club_64 (by decide) ?_
      refine g_iload dX10_club_65 rfl ?_
      obtain ⟨v14, w15, hc, hL⟩ := xB2_some hL
      refine g_callV (M' := M_X10_doesCome) (as := [.int (0), .int (x5)]) (v := some (.int (v14))) l_X10_340 kV_X10_doesCome (by decide) (C_X10_doesCome E hc) rfl (by have := E.1; omega) (E.2.1 _ 0 _ rfl) ⟨_, _, rfl⟩ (Nat.le_of_ble_eq_true rfl) dX10_club_67 ?_
      refine g_if_ne (tgt := 76) dX10_club_70 (by decide) (fun q24 => ?_) (fun q24 => ?_)
      · rw [if_neg q24] at hL
        refine g_iconst (v := 0) dX10_club_76 (by decide) ?_
        refine g_istore (i := 6) dX10_club_77 (by decide) rfl ?_
        refine g_iconst (v := 0) dX10_club_79 (by decide) ?_
        refine g_istore (i := 7) dX10_club_80 (by decide) rfl ?_
        refine P_X10_club_82_ok E hL ?_
        · intro z16 z17 z18 z19 z20 z21 w22 hL
          refine g_iincV (v := (z19 + 1)) dX10_club_147 rfl rfl (by decide) rfl ?_
          refine g_iload_n dX10_club_150 rfl rfl ?_
          refine g_none 3 ?_
          refine g_iload dX10_club_151 rfl ?_
          refine g_none 6 ?_
          refine g_iload_n dX10_club_153 rfl rfl ?_
          refine g_icmp_ge (tgt := 164) dX10_club_154 (by decide) (fun q23 => ?_) (fun q23 => ?_)
          · rw [if_pos q23] at hL
            refine g_iconst (v := 0) dX10_club_164 (by decide) ?_
            exact J_X10_club_165_ok E hL Hkh43 Hke173
          · rw [if_neg q23] at hL
            refine g_iconst (v := 1) dX10_club_157 (by decide) ?_
            refine g_iload dX10_club_158 rfl ?_
            refine g_ishl dX10_club_160 ?_
            refine g_goto (tgt := 165) dX10_club_161 (by decide) ?_
            exact J_X10_club_165_ok E hL Hkh43 Hke173
      · rw [if_pos q24] at hL
        refine g_goto (tgt := 167) dX10_club_73 (by decide) ?_
        exact J_X10_club_167_ok E hL Hkh43 Hke173
def P_X10_club_43 (ke173 : Int32 → Int32 → Int32 → wS → Option (Int32 × wS)) (n : Nat) (x1 : Int32) (x2 : Int32) (x3 : Int32) (x4 : Int32) (x5 : Int32) (w : wS) : Option (Int32 × wS) :=
  xLoop (fun (kk : Int32 × Int32 × Int32 × Int32 × Int32 × wS → Option (Int32 × wS)) σ => B_X10_club_43 (fun x1 x2 x3 x4 x5 w => kk (x1, x2, x3, x4, x5, w)) ke173 (σ.1) (σ.2.1) (σ.2.2.1) (σ.2.2.2.1) (σ.2.2.2.2.1) (σ.2.2.2.2.2)) n (x1, x2, x3, x4, x5, w)
theorem P_X10_club_43_ok {G : aG} {Hf : wS → aH} {b : Nat} {ke173 : Int32 → Int32 → Int32 → wS → Option (Int32 × wS)} {n : Nat} {x1 : Int32} {x2 : Int32} {x3 : Int32} {x4 : Int32} {x5 : Int32} {w : wS} {r : Int32 × wS} (E : Emb Hf b 0 tbM) (hL : P_X10_club_43 ke173 n x1 x2 x3 x4 x5 w = some r) (Hke173 : ∀ (z0 : Int32) (z1 : Int32) (z2 : Int32) (w : wS), ke173 z0 z1 z2 w = some r → AG G M_X10_club 173 [none, none, some (.int (z0)), some (.int (z1)), some (.int (z2)), none, none, none] [] (Hf w) (.inl (some (.int r.1)), Hf r.2)) : AG G M_X10_club 43 [some (.ref (b + 0)), some (.int (x1)), some (.int (x2)), some (.int (x3)), some (.int (x4)), some (.int (x5)), none, none] [] (Hf w) (.inl (some (.int r.1)), Hf r.2) :=
  xLoop_ok (Q := fun (σ : Int32 × Int32 × Int32 × Int32 × Int32 × wS) => AG G M_X10_club 43 [some (.ref (b + 0)), some (.int (σ.1)), some (.int (σ.2.1)), some (.int (σ.2.2.1)), some (.int (σ.2.2.2.1)), some (.int (σ.2.2.2.2.1)), none, none] [] (Hf σ.2.2.2.2.2) (.inl (some (.int r.1)), Hf r.2)) (fun kk hk σ hσ => B_X10_club_43_ok E hσ (fun x1 x2 x3 x4 x5 w h9 => hk (x1, x2, x3, x4, x5, w) h9) Hke173) n (x1, x2, x3, x4, x5, w) hL
def J_X10_club_28 (w : wS) : Option (Int32 × wS) :=
  some (0, w)
set_option maxRecDepth 20000 in
theorem J_X10_club_28_ok {G : aG} {Hf : wS → aH} {b : Nat} {w : wS} {r : Int32 × wS} (E : Emb Hf b 0 tbM) (hL : J_X10_club_28   w = some r) : AG G M_X10_club 28 [none, none, none, none, none, none, none, none] [] (Hf w) (.inl (some (.int r.1)), Hf r.2) := by
  unfold J_X10_club_28 at hL
  refine g_iconst (v := 0) dX10_club_28 (by decide) ?_
  obtain rfl := Option.some.inj hL
  exact g_iret rfl dX10_club_29
def L_X10_club (a1 : Int32) (a2 : Int32) (w : wS) : Option (Int32 × wS) :=
  xB (xPut w 0 (0)) fun w27 => xB2 (L_X10_isDuty (a1) w27) fun v28 w29 => if v28 = 0 then J_X10_club_28   w29 else xB (L_X10_within (a2) (1) (6)) fun v30 => xB2 (L_X10_right (v30) (2) w29) fun v31 w32 => if v31 = 0 then J_X10_club_28   w32 else xB (L_X10_goesTo (1) w32) fun w33 => P_X10_club_43 (fun z34 z35 z36 w37 => if z34 ≤ z36 then J_X10_club_184  (z35) w37 else J_X10_club_184  ((-1)) w37) 5000 (a1) (a2) (0) (0) (0) w33
set_option maxRecDepth 20000 in
theorem C_X10_club {G : aG} {Hf : wS → aH} {b : Nat} {a1 : Int32} {a2 : Int32} {w : wS} {r : Int32 × wS} (E : Emb Hf b 0 tbM) (hL : L_X10_club a1 a2 w = some r) : AC G M_X10_club [.ref (b + 0), .int a1, .int a2] (Hf w) (.inl (some (.int r.1)), Hf r.2) := by
  unfold L_X10_club at hL
  refine AC.of (by decide) rfl (Nat.le_of_ble_eq_true rfl) ?_
  show AG G M_X10_club 0 [some (.ref (b + 0)), some (.int (a1)), some (.int (a2)), none, none, none, none, none] [] _ _
  refine g_aload_n dX10_club_0 rfl rfl ?_
  refine g_iconst (v := 0) dX10_club_1 (by decide) ?_
  refine s_putI (k := 0) (j := 0) E hL rfl rfl (by decide) fw_X10_120 rfl rfl dX10_club_2 ?_
  intro w27 hL
  refine g_aload_n dX10_club_5 rfl rfl ?_
  refine g_iload_n dX10_club_6 rfl rfl ?_
  obtain ⟨v28, w29, hc, hL⟩ := xB2_some hL
  refine g_callV (M' := M_X10_isDuty) (as := [.int (a1)]) (v := some (.int (v28))) l_X10_376 kV_X10_isDuty (by decide) (C_X10_isDuty E hc) rfl (by have := E.1; omega) (E.2.1 _ 0 _ rfl) ⟨_, _, rfl⟩ (Nat.le_of_ble_eq_true rfl) dX10_club_7 ?_
  refine g_if_eq (tgt := 28) dX10_club_10 (by decide) (fun q40 => ?_) (fun q40 => ?_)
  · rw [if_pos q40] at hL
    refine g_none 0 ?_
    refine g_none 1 ?_
    refine g_none 2 ?_
    exact J_X10_club_28_ok E hL 
  · rw [if_neg q40] at hL
    refine g_aload_n dX10_club_13 rfl rfl ?_
    refine g_iload_n dX10_club_14 rfl rfl ?_
    refine g_iconst (v := 1) dX10_club_15 (by decide) ?_
    refine g_bipush (v := 6) dX10_club_16 (by decide) ?_
    obtain ⟨v30, hc, hL⟩ := xB_some hL
    refine g_callS (M' := M_X10_within) (as := [.int (a2), .int (1), .int (6)]) (v := some (.int (v30))) l_X10_361 kS_X10_within (by decide) (C_X10_within hc) rfl (Nat.le_of_ble_eq_true rfl) dX10_club_18 ?_
    refine g_iconst (v := 2) dX10_club_21 (by decide) ?_
    obtain ⟨v31, w32, hc, hL⟩ := xB2_some hL
    refine g_callV (M' := M_X10_right) (as := [.int (v30), .int (2)]) (v := some (.int (v31))) l_X10_271 kV_X10_right (by decide) (C_X10_right E hc) rfl (by have := E.1; omega) (E.2.1 _ 0 _ rfl) ⟨_, _, rfl⟩ (Nat.le_of_ble_eq_true rfl) dX10_club_22 ?_
    refine g_if_ne (tgt := 30) dX10_club_25 (by decide) (fun q39 => ?_) (fun q39 => ?_)
    · rw [if_neg q39] at hL
      refine g_aload_n dX10_club_30 rfl rfl ?_
      refine g_iconst (v := 1) dX10_club_31 (by decide) ?_
      obtain ⟨w33, hc, hL⟩ := xB_some hL
      refine g_callV (M' := M_X10_goesTo) (as := [.int (1)]) (v := none) l_X10_397 kV_X10_goesTo (by decide) (C_X10_goesTo E hc) rfl (by have := E.1; omega) (E.2.1 _ 0 _ rfl) ⟨_, _, rfl⟩ (Nat.le_of_ble_eq_true rfl) dX10_club_32 ?_
      refine g_iconst (v := 0) dX10_club_35 (by decide) ?_
      refine g_istore_n (i := 3) dX10_club_36 rfl (by decide) rfl ?_
      refine g_iconst (v := 0) dX10_club_37 (by decide) ?_
      refine g_istore (i := 4) dX10_club_38 (by decide) rfl ?_
      refine g_iconst (v := 0) dX10_club_40 (by decide) ?_
      refine g_istore (i := 5) dX10_club_41 (by decide) rfl ?_
      refine P_X10_club_43_ok E hL ?_
      · intro z34 z35 z36 w37 hL
        refine g_iload dX10_club_173 rfl ?_
        refine g_none 4 ?_
        refine g_iload_n dX10_club_175 rfl rfl ?_
        refine g_none 2 ?_
        refine g_icmp_ge (tgt := 183) dX10_club_176 (by decide) (fun q38 => ?_) (fun q38 => ?_)
        · rw [if_pos q38] at hL
          refine g_iload_n dX10_club_183 rfl rfl ?_
          refine g_none 3 ?_
          exact J_X10_club_184_ok E hL 
        · rw [if_neg q38] at hL
          refine g_none 3 ?_
          refine g_iconst (v := (-1)) dX10_club_179 (by decide) ?_
          refine g_goto (tgt := 184) dX10_club_180 (by decide) ?_
          exact J_X10_club_184_ok E hL 
    · rw [if_pos q39] at hL
      refine g_none 0 ?_
      refine g_none 1 ?_
      refine g_none 2 ?_
      exact J_X10_club_28_ok E hL 
def J_X10_leastOf_24 (y0 : Int32) (w : wS) : Option (Int32 × wS) :=
  some (y0, w)
set_option maxRecDepth 20000 in
theorem J_X10_leastOf_24_ok {G : aG} {Hf : wS → aH} {b : Nat} {y0 : Int32} {w : wS} {r : Int32 × wS} (E : Emb Hf b 0 tbM) (hL : J_X10_leastOf_24  y0 w = some r) : AG G M_X10_leastOf 24 [none, none, none] [.int (y0)] (Hf w) (.inl (some (.int r.1)), Hf r.2) := by
  unfold J_X10_leastOf_24 at hL
  obtain rfl := Option.some.inj hL
  exact g_iret rfl dX10_leastOf_24
def L_X10_leastOf (a1 : Int32) (a2 : Int32) (w : wS) : Option (Int32 × wS) :=
  xB (xGet w 2) fun v1 => if a1 = v1 then J_X10_leastOf_24  (0) w else xB (xAld w 24 1536 (((256 * a1) + a2))) fun v2 => J_X10_leastOf_24  (v2) w
set_option maxRecDepth 20000 in
theorem C_X10_leastOf {G : aG} {Hf : wS → aH} {b : Nat} {a1 : Int32} {a2 : Int32} {w : wS} {r : Int32 × wS} (E : Emb Hf b 0 tbM) (hL : L_X10_leastOf a1 a2 w = some r) : AC G M_X10_leastOf [.ref (b + 0), .int a1, .int a2] (Hf w) (.inl (some (.int r.1)), Hf r.2) := by
  unfold L_X10_leastOf at hL
  refine AC.of (by decide) rfl (Nat.le_of_ble_eq_true rfl) ?_
  show AG G M_X10_leastOf 0 [some (.ref (b + 0)), some (.int (a1)), some (.int (a2))] [] _ _
  refine g_iload_n dX10_leastOf_0 rfl rfl ?_
  refine g_aload_n dX10_leastOf_1 rfl rfl ?_
  refine s_getI (k := 0) (j := 2) E hL rfl rfl f_X10_281 dX10_leastOf_2 ?_
  intro v1 hL
  refine g_icmp_ne (tgt := 12) dX10_leastOf_5 (by decide) (fun q3 => ?_) (fun q3 => ?_)
  · rw [if_neg q3] at hL
    refine g_aload_n dX10_leastOf_12 rfl rfl ?_
    refine g_none 0 ?_
    refine s_getR (j := 57) E rfl rfl f_X10_96 dX10_leastOf_13 ?_
    refine g_sipush (v := 256) dX10_leastOf_16 (by decide) ?_
    refine g_iload_n dX10_leastOf_19 rfl rfl ?_
    refine g_none 1 ?_
    refine g_imul dX10_leastOf_20 ?_
    refine g_iload_n dX10_leastOf_21 rfl rfl ?_
    refine g_none 2 ?_
    refine g_iadd dX10_leastOf_22 ?_
    refine s_iald (k := 24) E hL rfl dX10_leastOf_23 ?_
    intro v2 hL
    exact J_X10_leastOf_24_ok E hL 
  · rw [if_pos q3] at hL
    refine g_none 0 ?_
    refine g_none 1 ?_
    refine g_none 2 ?_
    refine g_iconst (v := 0) dX10_leastOf_8 (by decide) ?_
    refine g_goto (tgt := 24) dX10_leastOf_9 (by decide) ?_
    exact J_X10_leastOf_24_ok E hL 
def J_X10_canDo_34 (y0 : Int32) (w : wS) : Option (Int32 × wS) :=
  xB (xBool (y0)) fun v1 => some (v1, w)
set_option maxRecDepth 20000 in
theorem J_X10_canDo_34_ok {G : aG} {Hf : wS → aH} {b : Nat} {y0 : Int32} {w : wS} {r : Int32 × wS} (E : Emb Hf b 0 tbM) (hL : J_X10_canDo_34  y0 w = some r) : AG G M_X10_canDo 34 [none, none, none] [.int (y0)] (Hf w) (.inl (some (.int r.1)), Hf r.2) := by
  unfold J_X10_canDo_34 at hL
  obtain ⟨v1, hb, hR⟩ := xB_some hL
  obtain ⟨hz, hb2⟩ := xBool_some hb
  clear hL
  subst hz
  obtain rfl := Option.some.inj hR
  exact g_zret rfl (narrow_bool hb2) dX10_canDo_34
def J_X10_canDo_33 (w : wS) : Option (Int32 × wS) :=
  J_X10_canDo_34  (0) w
set_option maxRecDepth 20000 in
theorem J_X10_canDo_33_ok {G : aG} {Hf : wS → aH} {b : Nat} {w : wS} {r : Int32 × wS} (E : Emb Hf b 0 tbM) (hL : J_X10_canDo_33   w = some r) : AG G M_X10_canDo 33 [none, none, none] [] (Hf w) (.inl (some (.int r.1)), Hf r.2) := by
  unfold J_X10_canDo_33 at hL
  refine g_iconst (v := 0) dX10_canDo_33 (by decide) ?_
  exact J_X10_canDo_34_ok E hL 
def L_X10_canDo (a1 : Int32) (a2 : Int32) (w : wS) : Option (Int32 × wS) :=
  xB2 (L_X10_doesCount (a1) w) fun v2 w3 => if v2 = 0 then J_X10_canDo_33   w3 else xB (xAld w3 16 66 (2)) fun v4 => if ((v4 >>> (a1 &&& 31)) &&& 1) = 0 then if ((a2 >>> (a1 &&& 31)) &&& 1) = 0 then J_X10_canDo_34  (1) w3 else J_X10_canDo_33   w3 else J_X10_canDo_33   w3
set_option maxRecDepth 20000 in
theorem C_X10_canDo {G : aG} {Hf : wS → aH} {b : Nat} {a1 : Int32} {a2 : Int32} {w : wS} {r : Int32 × wS} (E : Emb Hf b 0 tbM) (hL : L_X10_canDo a1 a2 w = some r) : AC G M_X10_canDo [.ref (b + 0), .int a1, .int a2] (Hf w) (.inl (some (.int r.1)), Hf r.2) := by
  unfold L_X10_canDo at hL
  refine AC.of (by decide) rfl (Nat.le_of_ble_eq_true rfl) ?_
  show AG G M_X10_canDo 0 [some (.ref (b + 0)), some (.int (a1)), some (.int (a2))] [] _ _
  refine g_aload_n dX10_canDo_0 rfl rfl ?_
  refine g_iload_n dX10_canDo_1 rfl rfl ?_
  obtain ⟨v2, w3, hc, hL⟩ := xB2_some hL
  refine g_callV (M' := M_X10_doesCount) (as := [.int (a1)]) (v := some (.int (v2))) l_X10_367 kV_X10_doesCount (by decide) (C_X10_doesCount E hc) rfl (by have := E.1; omega) (E.2.1 _ 0 _ rfl) ⟨_, _, rfl⟩ (Nat.le_of_ble_eq_true rfl) dX10_canDo_2 ?_
  refine g_if_eq (tgt := 33) dX10_canDo_5 (by decide) (fun q7 => ?_) (fun q7 => ?_)
  · rw [if_pos q7] at hL
    refine g_none 0 ?_
    refine g_none 1 ?_
    refine g_none 2 ?_
    exact J_X10_canDo_33_ok E hL 
  · rw [if_neg q7] at hL
    refine g_aload_n dX10_canDo_8 rfl rfl ?_
    refine g_none 0 ?_
    refine s_getR (j := 41) E rfl rfl f_X10_69 dX10_canDo_9 ?_
    refine g_iconst (v := 2) dX10_canDo_12 (by decide) ?_
    refine s_iald (k := 16) E hL rfl dX10_canDo_13 ?_
    intro v4 hL
    refine g_iload_n dX10_canDo_14 rfl rfl ?_
    refine g_ishr dX10_canDo_15 ?_
    refine g_iconst (v := 1) dX10_canDo_16 (by decide) ?_
    refine g_iand dX10_canDo_17 ?_
    refine g_if_ne (tgt := 33) dX10_canDo_18 (by decide) (fun q6 => ?_) (fun q6 => ?_)
    · rw [if_neg q6] at hL
      refine g_none 1 ?_
      refine g_none 2 ?_
      exact J_X10_canDo_33_ok E hL 
    · rw [if_pos q6] at hL
      refine g_iload_n dX10_canDo_21 rfl rfl ?_
      refine g_none 2 ?_
      refine g_iload_n dX10_canDo_22 rfl rfl ?_
      refine g_none 1 ?_
      refine g_ishr dX10_canDo_23 ?_
      refine g_iconst (v := 1) dX10_canDo_24 (by decide) ?_
      refine g_iand dX10_canDo_25 ?_
      refine g_if_ne (tgt := 33) dX10_canDo_26 (by decide) (fun q5 => ?_) (fun q5 => ?_)
      · rw [if_neg q5] at hL
        exact J_X10_canDo_33_ok E hL 
      · rw [if_pos q5] at hL
        refine g_iconst (v := 1) dX10_canDo_29 (by decide) ?_
        refine g_goto (tgt := 34) dX10_canDo_30 (by decide) ?_
        exact J_X10_canDo_34_ok E hL 
def J_X10_rota_246 (kh194 : Int32 → Int32 → Int32 → Int32 → Int32 → wS → Option (Int32 × wS)) (ke252 : Int32 → Int32 → Int32 → Int32 → wS → Option (Int32 × wS)) (x1 : Int32) (x2 : Int32) (x3 : Int32) (x4 : Int32) (x5 : Int32) (w : wS) : Option (Int32 × wS) :=
  kh194 (x1) (x2) (x3) (x4) ((x5 + (-1))) w
set_option maxRecDepth 20000 in
theorem J_X10_rota_246_ok {G : aG} {Hf : wS → aH} {b : Nat} {kh194 : Int32 → Int32 → Int32 → Int32 → Int32 → wS → Option (Int32 × wS)} {ke252 : Int32 → Int32 → Int32 → Int32 → wS → Option (Int32 × wS)} {x1 : Int32} {x2 : Int32} {x3 : Int32} {x4 : Int32} {x5 : Int32} {w : wS} {r : Int32 × wS} (E : Emb Hf b 0 tbM) (hL : J_X10_rota_246 kh194 ke252 x1 x2 x3 x4 x5 w = some r) (Hkh194 : ∀ (z0 : Int32) (z1 : Int32) (z2 : Int32) (z3 : Int32) (z4 : Int32) (w : wS), kh194 z0 z1 z2 z3 z4 w = some r → AG G M_X10_rota 194 [some (.ref (b + 0)), some (.int (z0)), some (.int (z1)), some (.int (z2)), some (.int (z3)), some (.int (z4))] [] (Hf w) (.inl (some (.int r.1)), Hf r.2)) (Hke252 : ∀ (z0 : Int32) (z1 : Int32) (z2 : Int32) (z3 : Int32) (w : wS), ke252 z0 z1 z2 z3 w = some r → AG G M_X10_rota 252 [some (.ref (b + 0)), some (.int (z0)), some (.int (z1)), some (.int (z2)), some (.int (z3)), none] [] (Hf w) (.inl (some (.int r.1)), Hf r.2)) : AG G M_X10_rota 246 [some (.ref (b + 0)), some (.int (x1)), some (.int (x2)), some (.int (x3)), some (.int (x4)), some (.int (x5))] [] (Hf w) (.inl (some (.int r.1)), Hf r.2) := by
  unfold J_X10_rota_246 at hL
  refine g_iincV (v := (x5 + (-1))) dX10_rota_246 rfl rfl (by decide) rfl ?_
  refine g_goto (tgt := 194) dX10_rota_249 (by decide) ?_
  exact Hkh194 _ _ _ _ _ _ hL
def B_X10_rota_194 (kh194 : Int32 → Int32 → Int32 → Int32 → Int32 → wS → Option (Int32 × wS)) (ke252 : Int32 → Int32 → Int32 → Int32 → wS → Option (Int32 × wS)) (x1 : Int32) (x2 : Int32) (x3 : Int32) (x4 : Int32) (x5 : Int32) (w : wS) : Option (Int32 × wS) :=
  if x5 < 0 then ke252 (x1) (x2) (x3) (x4) w else xB2 (L_X10_canDo (x5) (x2) w) fun v1 w2 => if v1 = 0 then J_X10_rota_246 kh194 ke252 (x1) (x2) (x3) (x4) (x5) w2 else xB2 (L_X10_wayOf (0) (x5) (x4) w2) fun v3 w4 => xB2 (L_X10_leastOf ((x4 + 1)) ((x2 ||| (1 <<< (x5 &&& 31)))) w4) fun v5 w6 => xB2 (L_X10_leastOf (x4) (x2) w6) fun v7 w8 => if (v3 + v5) = v7 then J_X10_rota_246 kh194 ke252 (x1) (x2) (x5) (x4) (x5) w8 else J_X10_rota_246 kh194 ke252 (x1) (x2) (x3) (x4) (x5) w8
set_option maxRecDepth 20000 in
theorem B_X10_rota_194_ok {G : aG} {Hf : wS → aH} {b : Nat} {kh194 : Int32 → Int32 → Int32 → Int32 → Int32 → wS → Option (Int32 × wS)} {ke252 : Int32 → Int32 → Int32 → Int32 → wS → Option (Int32 × wS)} {x1 : Int32} {x2 : Int32} {x3 : Int32} {x4 : Int32} {x5 : Int32} {w : wS} {r : Int32 × wS} (E : Emb Hf b 0 tbM) (hL : B_X10_rota_194 kh194 ke252 x1 x2 x3 x4 x5 w = some r) (Hkh194 : ∀ (z0 : Int32) (z1 : Int32) (z2 : Int32) (z3 : Int32) (z4 : Int32) (w : wS), kh194 z0 z1 z2 z3 z4 w = some r → AG G M_X10_rota 194 [some (.ref (b + 0)), some (.int (z0)), some (.int (z1)), some (.int (z2)), some (.int (z3)), some (.int (z4))] [] (Hf w) (.inl (some (.int r.1)), Hf r.2)) (Hke252 : ∀ (z0 : Int32) (z1 : Int32) (z2 : Int32) (z3 : Int32) (w : wS), ke252 z0 z1 z2 z3 w = some r → AG G M_X10_rota 252 [some (.ref (b + 0)), some (.int (z0)), some (.int (z1)), some (.int (z2)), some (.int (z3)), none] [] (Hf w) (.inl (some (.int r.1)), Hf r.2)) : AG G M_X10_rota 194 [some (.ref (b + 0)), some (.int (x1)), some (.int (x2)), some (.int (x3)), some (.int (x4)), some (.int (x5))] [] (Hf w) (.inl (some (.int r.1)), Hf r.2) := by
  unfold B_X10_rota_194 at hL
  refine g_iload dX10_rota_194 rfl ?_
  refine g_if_lt (tgt := 252) dX10_rota_196 (by decide) (fun q11 => ?_) (fun q11 => ?_)
  · rw [if_pos q11] at hL
    refine g_none 5 ?_
    exact Hke252 _ _ _ _ _ hL
  · rw [if_neg q11] at hL
    refine g_aload_n dX10_rota_199 rfl rfl ?_
    refine g_iload dX10_rota_200 rfl ?_
    refine g_iload_n dX10_rota_202 rfl rfl ?_
    obtain ⟨v1, w2, hc, hL⟩ := xB2_some hL
    refine g_callV (M' := M_X10_canDo) (as := [.int (x5), .int (x2)]) (v := some (.int (v1))) l_X10_403 kV_X10_canDo (by decide) (C_X10_canDo E hc) rfl (by have := E.1; omega) (E.2.1 _ 0 _ rfl) ⟨_, _, rfl⟩ (Nat.le_of_ble_eq_true rfl) dX10_rota_203 ?_
    refine g_if_eq (tgt := 246) dX10_rota_206 (by decide) (fun q10 => ?_) (fun q10 => ?_)
    · rw [if_pos q10] at hL
      exact J_X10_rota_246_ok E hL Hkh194 Hke252
    · rw [if_neg q10] at hL
      refine g_aload_n dX10_rota_209 rfl rfl ?_
      refine g_iconst (v := 0) dX10_rota_210 (by decide) ?_
      refine g_iload dX10_rota_211 rfl ?_
      refine g_iload dX10_rota_213 rfl ?_
      obtain ⟨v3, w4, hc, hL⟩ := xB2_some hL
      refine g_callV (M' := M_X10_wayOf) (as := [.int (0), .int (x5), .int (x4)]) (v := some (.int (v3))) l_X10_315 kV_X10_wayOf (by decide) (C_X10_wayOf E hc) rfl (by have := E.1; omega) (E.2.1 _ 0 _ rfl) ⟨_, _, rfl⟩ (Nat.le_of_ble_eq_true rfl) dX10_rota_215 ?_
      refine g_aload_n dX10_rota_218 rfl rfl ?_
      refine g_iload dX10_rota_219 rfl ?_
      refine g_iconst (v := 1) dX10_rota_221 (by decide) ?_
      refine g_iadd dX10_rota_222 ?_
      refine g_iload_n dX10_rota_223 rfl rfl ?_
      refine g_iconst (v := 1) dX10_rota_224 (by decide) ?_
      refine g_iload dX10_rota_225 rfl ?_
      refine g_ishl dX10_rota_227 ?_
      refine g_ior dX10_rota_228 ?_
      obtain ⟨v5, w6, hc, hL⟩ := xB2_some hL
      refine g_callV (M' := M_X10_leastOf) (as := [.int ((x4 + 1)), .int ((x2 ||| (1 <<< (x5 &&& 31))))]) (v := some (.int (v5))) l_X10_406 kV_X10_leastOf (by decide) (C_X10_leastOf E hc) rfl (by have := E.1; omega) (E.2.1 _ 0 _ rfl) ⟨_, _, rfl⟩ (Nat.le_of_ble_eq_true rfl) dX10_rota_229 ?_
      refine g_iadd dX10_rota_232 ?_
      refine g_aload_n dX10_rota_233 rfl rfl ?_
      refine g_iload dX10_rota_234 rfl ?_
      refine g_iload_n dX10_rota_236 rfl rfl ?_
      obtain ⟨v7, w8, hc, hL⟩ := xB2_some hL
      refine g_callV (M' := M_X10_leastOf) (as := [.int (x4), .int (x2)]) (v := some (.int (v7))) l_X10_406 kV_X10_leastOf (by decide) (C_X10_leastOf E hc) rfl (by have := E.1; omega) (E.2.1 _ 0 _ rfl) ⟨_, _, rfl⟩ (Nat.le_of_ble_eq_true rfl) dX10_rota_237 ?_
      refine g_icmp_ne (tgt := 246) dX10_rota_240 (by decide) (fun q9 => ?_) (fun q9 => ?_)
      · rw [if_neg q9] at hL
        exact J_X10_rota_246_ok E hL Hkh194 Hke252
      · rw [if_pos q9] at hL
        refine g_none 3 ?_
        refine g_iload dX10_rota_243 rfl ?_
        refine g_istore_n (i := 3) dX10_rota_245 rfl (by decide) rfl ?_
        exact J_X10_rota_246_ok E hL Hkh194 Hke252
def P_X10_rota_194 (ke252 : Int32 → Int32 → Int32 → Int32 → wS → Option (Int32 × wS)) (n : Nat) (x1 : Int32) (x2 : Int32) (x3 : Int32) (x4 : Int32) (x5 : Int32) (w : wS) : Option (Int32 × wS) :=
  xLoop (fun (kk : Int32 × Int32 × Int32 × Int32 × Int32 × wS → Option (Int32 × wS)) σ => B_X10_rota_194 (fun x1 x2 x3 x4 x5 w => kk (x1, x2, x3, x4, x5, w)) ke252 (σ.1) (σ.2.1) (σ.2.2.1) (σ.2.2.2.1) (σ.2.2.2.2.1) (σ.2.2.2.2.2)) n (x1, x2, x3, x4, x5, w)
theorem P_X10_rota_194_ok {G : aG} {Hf : wS → aH} {b : Nat} {ke252 : Int32 → Int32 → Int32 → Int32 → wS → Option (Int32 × wS)} {n : Nat} {x1 : Int32} {x2 : Int32} {x3 : Int32} {x4 : Int32} {x5 : Int32} {w : wS} {r : Int32 × wS} (E : Emb Hf b 0 tbM) (hL : P_X10_rota_194 ke252 n x1 x2 x3 x4 x5 w = some r) (Hke252 : ∀ (z0 : Int32) (z1 : Int32) (z2 : Int32) (z3 : Int32) (w : wS), ke252 z0 z1 z2 z3 w = some r → AG G M_X10_rota 252 [some (.ref (b + 0)), some (.int (z0)), some (.int (z1)), some (.int (z2)), some (.int (z3)), none] [] (Hf w) (.inl (some (.int r.1)), Hf r.2)) : AG G M_X10_rota 194 [some (.ref (b + 0)), some (.int (x1)), some (.int (x2)), some (.int (x3)), some (.int (x4)), some (.int (x5))] [] (Hf w) (.inl (some (.int r.1)), Hf r.2) :=
  xLoop_ok (Q := fun (σ : Int32 × Int32 × Int32 × Int32 × Int32 × wS) => AG G M_X10_rota 194 [some (.ref (b + 0)), some (.int (σ.1)), some (.int (σ.2.1)), some (.int (σ.2.2.1)), some (.int (σ.2.2.2.1)), some (.int (σ.2.2.2.2.1))] [] (Hf σ.2.2.2.2.2) (.inl (some (.int r.1)), Hf r.2)) (fun kk hk σ hσ => B_X10_rota_194_ok E hσ (fun x1 x2 x3 x4 x5 w h9 => hk (x1, x2, x3, x4, x5, w) h9) Hke252) n (x1, x2, x3, x4, x5, w) hL
def B_X10_rota_178 (kh178 : Int32 → Int32 → Int32 → Int32 → wS → Option (Int32 × wS)) (ke264 : Int32 → wS → Option (Int32 × wS)) (x1 : Int32) (x2 : Int32) (x3 : Int32) (x4 : Int32) (w : wS) : Option (Int32 × wS) :=
  if x1 < x4 then ke264 (x3) w else xB (xGet w 1) fun v12 => P_X10_rota_194 (fun z13 z14 z15 z16 w17 => kh178 (z13) ((z14 ||| (1 <<< (z15 &&& 31)))) (z15) ((z16 + 1)) w17) 5000 (x1) (x2) ((-1)) (x4) ((v12 - 1)) w
set_option maxRecDepth 20000 in
theorem B_X10_rota_178_ok {G : aG} {Hf : wS → aH} {b : Nat} {kh178 : Int32 → Int32 → Int32 → Int32 → wS → Option (Int32 × wS)} {ke264 : Int32 → wS → Option (Int32 × wS)} {x1 : Int32} {x2 : Int32} {x3 : Int32} {x4 : Int32} {w : wS} {r : Int32 × wS} (E : Emb Hf b 0 tbM) (hL : B_X10_rota_178 kh178 ke264 x1 x2 x3 x4 w = some r) (Hkh178 : ∀ (z0 : Int32) (z1 : Int32) (z2 : Int32) (z3 : Int32) (w : wS), kh178 z0 z1 z2 z3 w = some r → AG G M_X10_rota 178 [some (.ref (b + 0)), some (.int (z0)), some (.int (z1)), some (.int (z2)), some (.int (z3)), none] [] (Hf w) (.inl (some (.int r.1)), Hf r.2)) (Hke264 : ∀ (z0 : Int32) (w : wS), ke264 z0 w = some r → AG G M_X10_rota 264 [none, none, none, some (.int (z0)), none, none] [] (Hf w) (.inl (some (.int r.1)), Hf r.2)) : AG G M_X10_rota 178 [some (.ref (b + 0)), some (.int (x1)), some (.int (x2)), some (.int (x3)), some (.int (x4)), none] [] (Hf w) (.inl (some (.int r.1)), Hf r.2) := by
  unfold B_X10_rota_178 at hL
  refine g_iload dX10_rota_178 rfl ?_
  refine g_iload_n dX10_rota_180 rfl rfl ?_
  refine g_icmp_gt (tgt := 264) dX10_rota_181 (by decide) (fun q18 => ?_) (fun q18 => ?_)
  · rw [if_pos q18] at hL
    refine g_none 0 ?_
    refine g_none 1 ?_
    refine g_none 2 ?_
    refine g_none 4 ?_
    exact Hke264 _ _ hL
  · rw [if_neg q18] at hL
    refine g_none 3 ?_
    refine g_iconst (v := (-1)) dX10_rota_184 (by decide) ?_
    refine g_istore_n (i := 3) dX10_rota_185 rfl (by decide) rfl ?_
    refine g_aload_n dX10_rota_186 rfl rfl ?_
    refine s_getI (k := 0) (j := 1) E hL rfl rfl f_X10_278 dX10_rota_187 ?_
    intro v12 hL
    refine g_iconst (v := 1) dX10_rota_190 (by decide) ?_
    refine g_isub dX10_rota_191 ?_
    refine g_istore (i := 5) dX10_rota_192 (by decide) rfl ?_
    refine P_X10_rota_194_ok E hL ?_
    · intro z13 z14 z15 z16 w17 hL
      refine g_iload_n dX10_rota_252 rfl rfl ?_
      refine g_none 2 ?_
      refine g_iconst (v := 1) dX10_rota_253 (by decide) ?_
      refine g_iload_n dX10_rota_254 rfl rfl ?_
      refine g_ishl dX10_rota_255 ?_
      refine g_ior dX10_rota_256 ?_
      refine g_istore_n (i := 2) dX10_rota_257 rfl (by decide) rfl ?_
      refine g_iincV (v := (z16 + 1)) dX10_rota_258 rfl rfl (by decide) rfl ?_
      refine g_goto (tgt := 178) dX10_rota_261 (by decide) ?_
      exact Hkh178 _ _ _ _ _ hL
def P_X10_rota_178 (ke264 : Int32 → wS → Option (Int32 × wS)) (n : Nat) (x1 : Int32) (x2 : Int32) (x3 : Int32) (x4 : Int32) (w : wS) : Option (Int32 × wS) :=
  xLoop (fun (kk : Int32 × Int32 × Int32 × Int32 × wS → Option (Int32 × wS)) σ => B_X10_rota_178 (fun x1 x2 x3 x4 w => kk (x1, x2, x3, x4, w)) ke264 (σ.1) (σ.2.1) (σ.2.2.1) (σ.2.2.2.1) (σ.2.2.2.2)) n (x1, x2, x3, x4, w)
theorem P_X10_rota_178_ok {G : aG} {Hf : wS → aH} {b : Nat} {ke264 : Int32 → wS → Option (Int32 × wS)} {n : Nat} {x1 : Int32} {x2 : Int32} {x3 : Int32} {x4 : Int32} {w : wS} {r : Int32 × wS} (E : Emb Hf b 0 tbM) (hL : P_X10_rota_178 ke264 n x1 x2 x3 x4 w = some r) (Hke264 : ∀ (z0 : Int32) (w : wS), ke264 z0 w = some r → AG G M_X10_rota 264 [none, none, none, some (.int (z0)), none, none] [] (Hf w) (.inl (some (.int r.1)), Hf r.2)) : AG G M_X10_rota 178 [some (.ref (b + 0)), some (.int (x1)), some (.int (x2)), some (.int (x3)), some (.int (x4)), none] [] (Hf w) (.inl (some (.int r.1)), Hf r.2) :=
  xLoop_ok (Q := fun (σ : Int32 × Int32 × Int32 × Int32 × wS) => AG G M_X10_rota 178 [some (.ref (b + 0)), some (.int (σ.1)), some (.int (σ.2.1)), some (.int (σ.2.2.1)), some (.int (σ.2.2.2.1)), none] [] (Hf σ.2.2.2.2) (.inl (some (.int r.1)), Hf r.2)) (fun kk hk σ hσ => B_X10_rota_178_ok E hσ (fun x1 x2 x3 x4 w h9 => hk (x1, x2, x3, x4, w) h9) Hke264) n (x1, x2, x3, x4, w) hL
def J_X10_rota_112 (kh64 : Int32 → Int32 → Int32 → Int32 → Int32 → wS → Option (Int32 × wS)) (ke118 : Int32 → Int32 → Int32 → Int32 → wS → Option (Int32 × wS)) (x1 : Int32) (x2 : Int32) (x3 : Int32) (x4 : Int32) (x5 : Int32) (w : wS) : Option (Int32 × wS) :=
  kh64 (x1) (x2) (x3) (x4) ((x5 + 1)) w
set_option maxRecDepth 20000 in
theorem J_X10_rota_112_ok {G : aG} {Hf : wS → aH} {b : Nat} {kh64 : Int32 → Int32 → Int32 → Int32 → Int32 → wS → Option (Int32 × wS)} {ke118 : Int32 → Int32 → Int32 → Int32 → wS → Option (Int32 × wS)} {x1 : Int32} {x2 : Int32} {x3 : Int32} {x4 : Int32} {x5 : Int32} {w : wS} {r : Int32 × wS} (E : Emb Hf b 0 tbM) (hL : J_X10_rota_112 kh64 ke118 x1 x2 x3 x4 x5 w = some r) (Hkh64 : ∀ (z0 : Int32) (z1 : Int32) (z2 : Int32) (z3 : Int32) (z4 : Int32) (w : wS), kh64 z0 z1 z2 z3 z4 w = some r → AG G M_X10_rota 64 [some (.ref (b + 0)), some (.int (z0)), some (.int (z1)), some (.int (z2)), some (.int (z3)), some (.int (z4))] [] (Hf w) (.inl (some (.int r.1)), Hf r.2)) (Hke118 : ∀ (z0 : Int32) (z1 : Int32) (z2 : Int32) (z3 : Int32) (w : wS), ke118 z0 z1 z2 z3 w = some r → AG G M_X10_rota 118 [some (.ref (b + 0)), some (.int (z0)), some (.int (z1)), some (.int (z2)), some (.int (z3)), none] [] (Hf w) (.inl (some (.int r.1)), Hf r.2)) : AG G M_X10_rota 112 [some (.ref (b + 0)), some (.int (x1)), some (.int (x2)), some (.int (x3)), some (.int (x4)), some (.int (x5))] [] (Hf w) (.inl (some (.int r.1)), Hf r.2) := by
  unfold J_X10_rota_112 at hL
  refine g_iincV (v := (x5 + 1)) dX10_rota_112 rfl rfl (by decide) rfl ?_
  refine g_goto (tgt := 64) dX10_rota_115 (by decide) ?_
  exact Hkh64 _ _ _ _ _ _ hL
def B_X10_rota_64 (kh64 : Int32 → Int32 → Int32 → Int32 → Int32 → wS → Option (Int32 × wS)) (ke118 : Int32 → Int32 → Int32 → Int32 → wS → Option (Int32 × wS)) (x1 : Int32) (x2 : Int32) (x3 : Int32) (x4 : Int32) (x5 : Int32) (w : wS) : Option (Int32 × wS) :=
  xB (xGet w 1) fun v19 => if v19 ≤ x5 then ke118 (x1) (x2) (x3) (x4) w else xB2 (L_X10_canDo (x5) (x3) w) fun v20 w21 => if v20 = 0 then J_X10_rota_112 kh64 ke118 (x1) (x2) (x3) (x4) (x5) w21 else xB2 (L_X10_wayOf (0) (x5) (x2) w21) fun v22 w23 => xB2 (L_X10_leastOf ((x2 + 1)) ((x3 ||| (1 <<< (x5 &&& 31)))) w23) fun v24 w25 => xB (L_X10_lesser (x4) ((v22 + v24))) fun v26 => J_X10_rota_112 kh64 ke118 (x1) (x2) (x3) (v26) (x5) w25
set_option maxRecDepth 20000 in
theorem B_X10_rota_64_ok {G : aG} {Hf : wS → aH} {b : Nat} {kh64 : Int32 → Int32 → Int32 → Int32 → Int32 → wS → Option (Int32 × wS)} {ke118 : Int32 → Int32 → Int32 → Int32 → wS → Option (Int32 × wS)} {x1 : Int32} {x2 : Int32} {x3 : Int32} {x4 : Int32} {x5 : Int32} {w : wS} {r : Int32 × wS} (E : Emb Hf b 0 tbM) (hL : B_X10_rota_64 kh64 ke118 x1 x2 x3 x4 x5 w = some r) (Hkh64 : ∀ (z0 : Int32) (z1 : Int32) (z2 : Int32) (z3 : Int32) (z4 : Int32) (w : wS), kh64 z0 z1 z2 z3 z4 w = some r → AG G M_X10_rota 64 [some (.ref (b + 0)), some (.int (z0)), some (.int (z1)), some (.int (z2)), some (.int (z3)), some (.int (z4))] [] (Hf w) (.inl (some (.int r.1)), Hf r.2)) (Hke118 : ∀ (z0 : Int32) (z1 : Int32) (z2 : Int32) (z3 : Int32) (w : wS), ke118 z0 z1 z2 z3 w = some r → AG G M_X10_rota 118 [some (.ref (b + 0)), some (.int (z0)), some (.int (z1)), some (.int (z2)), some (.int (z3)), none] [] (Hf w) (.inl (some (.int r.1)), Hf r.2)) : AG G M_X10_rota 64 [some (.ref (b + 0)), some (.int (x1)), some (.int (x2)), some (.int (x3)), some (.int (x4)), some (.int (x5))] [] (Hf w) (.inl (some (.int r.1)), Hf r.2) := by
  unfold B_X10_rota_64 at hL
  refine g_iload dX10_rota_64 rfl ?_
  refine g_aload_n dX10_rota_66 rfl rfl ?_
  refine s_getI (k := 0) (j := 1) E hL rfl rfl f_X10_278 dX10_rota_67 ?_
  intro v19 hL
  refine g_icmp_ge (tgt := 118) dX10_rota_70 (by decide) (fun q28 => ?_) (fun q28 => ?_)
  · rw [if_pos q28] at hL
    refine g_none 5 ?_
    exact Hke118 _ _ _ _ _ hL
  · rw [if_neg q28] at hL
    refine g_aload_n dX10_rota_73 rfl rfl ?_
    refine g_iload dX10_rota_74 rfl ?_
    refine g_iload_n dX10_rota_76 rfl rfl ?_
    obtain ⟨v20, w21, hc, hL⟩ := xB2_some hL
    refine g_callV (M' := M_X10_canDo) (as := [.int (x5), .int (x3)]) (v := some (.int (v20))) l_X10_403 kV_X10_canDo (by decide) (C_X10_canDo E hc) rfl (by have := E.1; omega) (E.2.1 _ 0 _ rfl) ⟨_, _, rfl⟩ (Nat.le_of_ble_eq_true rfl) dX10_rota_77 ?_
    refine g_if_eq (tgt := 112) dX10_rota_80 (by decide) (fun q27 => ?_) (fun q27 => ?_)
    · rw [if_pos q27] at hL
      exact J_X10_rota_112_ok E hL Hkh64 Hke118
    · rw [if_neg q27] at hL
      refine g_iload dX10_rota_83 rfl ?_
      refine g_none 4 ?_
      refine g_aload_n dX10_rota_85 rfl rfl ?_
      refine g_iconst (v := 0) dX10_rota_86 (by decide) ?_
      refine g_iload dX10_rota_87 rfl ?_
      refine g_iload_n dX10_rota_89 rfl rfl ?_
      obtain ⟨v22, w23, hc, hL⟩ := xB2_some hL
      refine g_callV (M' := M_X10_wayOf) (as := [.int (0), .int (x5), .int (x2)]) (v := some (.int (v22))) l_X10_315 kV_X10_wayOf (by decide) (C_X10_wayOf E hc) rfl (by have := E.1; omega) (E.2.1 _ 0 _ rfl) ⟨_, _, rfl⟩ (Nat.le_of_ble_eq_true rfl) dX10_rota_90 ?_
      refine g_aload_n dX10_rota_93 rfl rfl ?_
      refine g_iload_n dX10_rota_94 rfl rfl ?_
      refine g_iconst (v := 1) dX10_rota_95 (by decide) ?_
      refine g_iadd dX10_rota_96 ?_
      refine g_iload_n dX10_rota_97 rfl rfl ?_
      refine g_iconst (v := 1) dX10_rota_98 (by decide) ?_
      refine g_iload dX10_rota_99 rfl ?_
      refine g_ishl dX10_rota_101 ?_
      refine g_ior dX10_rota_102 ?_
      obtain ⟨v24, w25, hc, hL⟩ := xB2_some hL
      refine g_callV (M' := M_X10_leastOf) (as := [.int ((x2 + 1)), .int ((x3 ||| (1 <<< (x5 &&& 31))))]) (v := some (.int (v24))) l_X10_406 kV_X10_leastOf (by decide) (C_X10_leastOf E hc) rfl (by have := E.1; omega) (E.2.1 _ 0 _ rfl) ⟨_, _, rfl⟩ (Nat.le_of_ble_eq_true rfl) dX10_rota_103 ?_
      refine g_iadd dX10_rota_106 ?_
      obtain ⟨v26, hc, hL⟩ := xB_some hL
      refine g_callS (M' := M_X10_lesser) (as := [.int (x4), .int ((v22 + v24))]) (v := some (.int (v26))) l_X10_331 kS_X10_lesser (by decide) (C_X10_lesser hc) rfl (Nat.le_of_ble_eq_true rfl) dX10_rota_107 ?_
      refine g_istore (i := 4) dX10_rota_110 (by decide) rfl ?_
      exact J_X10_rota_112_ok E hL Hkh64 Hke118
def P_X10_rota_64 (ke118 : Int32 → Int32 → Int32 → Int32 → wS → Option (Int32 × wS)) (n : Nat) (x1 : Int32) (x2 : Int32) (x3 : Int32) (x4 : Int32) (x5 : Int32) (w : wS) : Option (Int32 × wS) :=
  xLoop (fun (kk : Int32 × Int32 × Int32 × Int32 × Int32 × wS → Option (Int32 × wS)) σ => B_X10_rota_64 (fun x1 x2 x3 x4 x5 w => kk (x1, x2, x3, x4, x5, w)) ke118 (σ.1) (σ.2.1) (σ.2.2.1) (σ.2.2.2.1) (σ.2.2.2.2.1) (σ.2.2.2.2.2)) n (x1, x2, x3, x4, x5, w)
theorem P_X10_rota_64_ok {G : aG} {Hf : wS → aH} {b : Nat} {ke118 : Int32 → Int32 → Int32 → Int32 → wS → Option (Int32 × wS)} {n : Nat} {x1 : Int32} {x2 : Int32} {x3 : Int32} {x4 : Int32} {x5 : Int32} {w : wS} {r : Int32 × wS} (E : Emb Hf b 0 tbM) (hL : P_X10_rota_64 ke118 n x1 x2 x3 x4 x5 w = some r) (Hke118 : ∀ (z0 : Int32) (z1 : Int32) (z2 : Int32) (z3 : Int32) (w : wS), ke118 z0 z1 z2 z3 w = some r → AG G M_X10_rota 118 [some (.ref (b + 0)), some (.int (z0)), some (.int (z1)), some (.int (z2)), some (.int (z3)), none] [] (Hf w) (.inl (some (.int r.1)), Hf r.2)) : AG G M_X10_rota 64 [some (.ref (b + 0)), some (.int (x1)), some (.int (x2)), some (.int (x3)), some (.int (x4)), some (.int (x5))] [] (Hf w) (.inl (some (.int r.1)), Hf r.2) :=
  xLoop_ok (Q := fun (σ : Int32 × Int32 × Int32 × Int32 × Int32 × wS) => AG G M_X10_rota 64 [some (.ref (b + 0)), some (.int (σ.1)), some (.int (σ.2.1)), some (.int (σ.2.2.1)), some (.int (σ.2.2.2.1)), some (.int (σ.2.2.2.2.1))] [] (Hf σ.2.2.2.2.2) (.inl (some (.int r.1)), Hf r.2)) (fun kk hk σ hσ => B_X10_rota_64_ok E hσ (fun x1 x2 x3 x4 x5 w h9 => hk (x1, x2, x3, x4, x5, w) h9) Hke118) n (x1, x2, x3, x4, x5, w) hL
def B_X10_rota_46 (kh46 : Int32 → Int32 → Int32 → wS → Option (Int32 × wS)) (ke138 : Int32 → Int32 → wS → Option (Int32 × wS)) (x1 : Int32) (x2 : Int32) (x3 : Int32) (w : wS) : Option (Int32 × wS) :=
  xB (xGet w 1) fun v29 => if (1 <<< (v29 &&& 31)) ≤ x3 then ke138 (x1) (x2) w else P_X10_rota_64 (fun z30 z31 z32 z33 w34 => xB (xAst w34 24 1536 (((256 * z31) + z32)) (z33)) fun w35 => kh46 (z30) (z31) ((z32 + 1)) w35) 5000 (x1) (x2) (x3) (99999) (0) w
set_option maxRecDepth 20000 in
theorem B_X10_rota_46_ok {G : aG} {Hf : wS → aH} {b : Nat} {kh46 : Int32 → Int32 → Int32 → wS → Option (Int32 × wS)} {ke138 : Int32 → Int32 → wS → Option (Int32 × wS)} {x1 : Int32} {x2 : Int32} {x3 : Int32} {w : wS} {r : Int32 × wS} (E : Emb Hf b 0 tbM) (hL : B_X10_rota_46 kh46 ke138 x1 x2 x3 w = some r) (Hkh46 : ∀ (z0 : Int32) (z1 : Int32) (z2 : Int32) (w : wS), kh46 z0 z1 z2 w = some r → AG G M_X10_rota 46 [some (.ref (b + 0)), some (.int (z0)), some (.int (z1)), some (.int (z2)), none, none] [] (Hf w) (.inl (some (.int r.1)), Hf r.2)) (Hke138 : ∀ (z0 : Int32) (z1 : Int32) (w : wS), ke138 z0 z1 w = some r → AG G M_X10_rota 138 [some (.ref (b + 0)), some (.int (z0)), some (.int (z1)), none, none, none] [] (Hf w) (.inl (some (.int r.1)), Hf r.2)) : AG G M_X10_rota 46 [some (.ref (b + 0)), some (.int (x1)), some (.int (x2)), some (.int (x3)), none, none] [] (Hf w) (.inl (some (.int r.1)), Hf r.2) := by
  unfold B_X10_rota_46 at hL
  refine g_iload_n dX10_rota_46 rfl rfl ?_
  refine g_iconst (v := 1) dX10_rota_47 (by decide) ?_
  refine g_aload_n dX10_rota_48 rfl rfl ?_
  refine s_getI (k := 0) (j := 1) E hL rfl rfl f_X10_278 dX10_rota_49 ?_
  intro v29 hL
  refine g_ishl dX10_rota_52 ?_
  refine g_icmp_ge (tgt := 138) dX10_rota_53 (by decide) (fun q36 => ?_) (fun q36 => ?_)
  · rw [if_pos q36] at hL
    refine g_none 3 ?_
    exact Hke138 _ _ _ hL
  · rw [if_neg q36] at hL
    refine g_ldcw (v := 99999) dX10_rota_56 n_X10_311 ?_
    refine g_istore (i := 4) dX10_rota_59 (by decide) rfl ?_
    refine g_iconst (v := 0) dX10_rota_61 (by decide) ?_
    refine g_istore (i := 5) dX10_rota_62 (by decide) rfl ?_
    refine P_X10_rota_64_ok E hL ?_
    · intro z30 z31 z32 z33 w34 hL
      refine g_aload_n dX10_rota_118 rfl rfl ?_
      refine s_getR (j := 57) E rfl rfl f_X10_96 dX10_rota_119 ?_
      refine g_sipush (v := 256) dX10_rota_122 (by decide) ?_
      refine g_iload_n dX10_rota_125 rfl rfl ?_
      refine g_imul dX10_rota_126 ?_
      refine g_iload_n dX10_rota_127 rfl rfl ?_
      refine g_iadd dX10_rota_128 ?_
      refine g_iload dX10_rota_129 rfl ?_
      refine g_none 4 ?_
      refine s_iast (k := 24) E hL rfl dX10_rota_131 ?_
      intro w35 hL
      refine g_iincV (v := (z32 + 1)) dX10_rota_132 rfl rfl (by decide) rfl ?_
      refine g_goto (tgt := 46) dX10_rota_135 (by decide) ?_
      exact Hkh46 _ _ _ _ hL
def P_X10_rota_46 (ke138 : Int32 → Int32 → wS → Option (Int32 × wS)) (n : Nat) (x1 : Int32) (x2 : Int32) (x3 : Int32) (w : wS) : Option (Int32 × wS) :=
  xLoop (fun (kk : Int32 × Int32 × Int32 × wS → Option (Int32 × wS)) σ => B_X10_rota_46 (fun x1 x2 x3 w => kk (x1, x2, x3, w)) ke138 (σ.1) (σ.2.1) (σ.2.2.1) (σ.2.2.2)) n (x1, x2, x3, w)
theorem P_X10_rota_46_ok {G : aG} {Hf : wS → aH} {b : Nat} {ke138 : Int32 → Int32 → wS → Option (Int32 × wS)} {n : Nat} {x1 : Int32} {x2 : Int32} {x3 : Int32} {w : wS} {r : Int32 × wS} (E : Emb Hf b 0 tbM) (hL : P_X10_rota_46 ke138 n x1 x2 x3 w = some r) (Hke138 : ∀ (z0 : Int32) (z1 : Int32) (w : wS), ke138 z0 z1 w = some r → AG G M_X10_rota 138 [some (.ref (b + 0)), some (.int (z0)), some (.int (z1)), none, none, none] [] (Hf w) (.inl (some (.int r.1)), Hf r.2)) : AG G M_X10_rota 46 [some (.ref (b + 0)), some (.int (x1)), some (.int (x2)), some (.int (x3)), none, none] [] (Hf w) (.inl (some (.int r.1)), Hf r.2) :=
  xLoop_ok (Q := fun (σ : Int32 × Int32 × Int32 × wS) => AG G M_X10_rota 46 [some (.ref (b + 0)), some (.int (σ.1)), some (.int (σ.2.1)), some (.int (σ.2.2.1)), none, none] [] (Hf σ.2.2.2) (.inl (some (.int r.1)), Hf r.2)) (fun kk hk σ hσ => B_X10_rota_46_ok E hσ (fun x1 x2 x3 w h9 => hk (x1, x2, x3, w) h9) Hke138) n (x1, x2, x3, w) hL
def B_X10_rota_40 (kh40 : Int32 → Int32 → wS → Option (Int32 × wS)) (ke144 : Int32 → wS → Option (Int32 × wS)) (x1 : Int32) (x2 : Int32) (w : wS) : Option (Int32 × wS) :=
  if x2 < 0 then ke144 (x1) w else P_X10_rota_46 (fun z37 z38 w39 => kh40 (z37) ((z38 + (-1))) w39) 5000 (x1) (x2) (0) w
set_option maxRecDepth 20000 in
theorem B_X10_rota_40_ok {G : aG} {Hf : wS → aH} {b : Nat} {kh40 : Int32 → Int32 → wS → Option (Int32 × wS)} {ke144 : Int32 → wS → Option (Int32 × wS)} {x1 : Int32} {x2 : Int32} {w : wS} {r : Int32 × wS} (E : Emb Hf b 0 tbM) (hL : B_X10_rota_40 kh40 ke144 x1 x2 w = some r) (Hkh40 : ∀ (z0 : Int32) (z1 : Int32) (w : wS), kh40 z0 z1 w = some r → AG G M_X10_rota 40 [some (.ref (b + 0)), some (.int (z0)), some (.int (z1)), none, none, none] [] (Hf w) (.inl (some (.int r.1)), Hf r.2)) (Hke144 : ∀ (z0 : Int32) (w : wS), ke144 z0 w = some r → AG G M_X10_rota 144 [some (.ref (b + 0)), some (.int (z0)), none, none, none, none] [] (Hf w) (.inl (some (.int r.1)), Hf r.2)) : AG G M_X10_rota 40 [some (.ref (b + 0)), some (.int (x1)), some (.int (x2)), none, none, none] [] (Hf w) (.inl (some (.int r.1)), Hf r.2) := by
  unfold B_X10_rota_40 at hL
  refine g_iload_n dX10_rota_40 rfl rfl ?_
  refine g_if_lt (tgt := 144) dX10_rota_41 (by decide) (fun q40 => ?_) (fun q40 => ?_)
  · rw [if_pos q40] at hL
    refine g_none 2 ?_
    exact Hke144 _ _ hL
  · rw [if_neg q40] at hL
    refine g_iconst (v := 0) dX10_rota_44 (by decide) ?_
    refine g_istore_n (i := 3) dX10_rota_45 rfl (by decide) rfl ?_
    refine P_X10_rota_46_ok E hL ?_
    · intro z37 z38 w39 hL
      refine g_iincV (v := (z38 + (-1))) dX10_rota_138 rfl rfl (by decide) rfl ?_
      refine g_goto (tgt := 40) dX10_rota_141 (by decide) ?_
      exact Hkh40 _ _ _ hL
def P_X10_rota_40 (ke144 : Int32 → wS → Option (Int32 × wS)) (n : Nat) (x1 : Int32) (x2 : Int32) (w : wS) : Option (Int32 × wS) :=
  xLoop (fun (kk : Int32 × Int32 × wS → Option (Int32 × wS)) σ => B_X10_rota_40 (fun x1 x2 w => kk (x1, x2, w)) ke144 (σ.1) (σ.2.1) (σ.2.2)) n (x1, x2, w)
theorem P_X10_rota_40_ok {G : aG} {Hf : wS → aH} {b : Nat} {ke144 : Int32 → wS → Option (Int32 × wS)} {n : Nat} {x1 : Int32} {x2 : Int32} {w : wS} {r : Int32 × wS} (E : Emb Hf b 0 tbM) (hL : P_X10_rota_40 ke144 n x1 x2 w = some r) (Hke144 : ∀ (z0 : Int32) (w : wS), ke144 z0 w = some r → AG G M_X10_rota 144 [some (.ref (b + 0)), some (.int (z0)), none, none, none, none] [] (Hf w) (.inl (some (.int r.1)), Hf r.2)) : AG G M_X10_rota 40 [some (.ref (b + 0)), some (.int (x1)), some (.int (x2)), none, none, none] [] (Hf w) (.inl (some (.int r.1)), Hf r.2) :=
  xLoop_ok (Q := fun (σ : Int32 × Int32 × wS) => AG G M_X10_rota 40 [some (.ref (b + 0)), some (.int (σ.1)), some (.int (σ.2.1)), none, none, none] [] (Hf σ.2.2) (.inl (some (.int r.1)), Hf r.2)) (fun kk hk σ hσ => B_X10_rota_40_ok E hσ (fun x1 x2 w h9 => hk (x1, x2, w) h9) Hke144) n (x1, x2, w) hL
def J_X10_rota_24 (x1 : Int32) (y1 : Int32) (w : wS) : Option (Int32 × wS) :=
  xB2 (L_X10_right (y1) (1) w) fun v41 w42 => if v41 = 0 then some (0, w42) else xB (xGet w42 2) fun v43 => P_X10_rota_40 (fun z44 w45 => xB2 (L_X10_leastOf (0) (0) w45) fun v46 w47 => if v46 < 99999 then if z44 = (-1) then xB2 (L_X10_leastOf (0) (0) w47) fun v50 w51 => some (v50, w51) else P_X10_rota_178 (fun z48 w49 => some (z48, w49)) 5000 (z44) (0) ((-1)) (0) w47 else some ((-2), w47)) 5000 (x1) ((v43 - 1)) w42
set_option maxRecDepth 20000 in
theorem J_X10_rota_24_ok {G : aG} {Hf : wS → aH} {b : Nat} {x1 : Int32} {y1 : Int32} {w : wS} {r : Int32 × wS} (E : Emb Hf b 0 tbM) (hL : J_X10_rota_24  x1 y1 w = some r) : AG G M_X10_rota 24 [some (.ref (b + 0)), some (.int (x1)), none, none, none, none] [.int (y1), .ref (b + 0)] (Hf w) (.inl (some (.int r.1)), Hf r.2) := by
  unfold J_X10_rota_24 at hL
  refine g_iconst (v := 1) dX10_rota_24 (by decide) ?_
  obtain ⟨v41, w42, hc, hL⟩ := xB2_some hL
  refine g_callV (M' := M_X10_right) (as := [.int (y1), .int (1)]) (v := some (.int (v41))) l_X10_271 kV_X10_right (by decide) (C_X10_right E hc) rfl (by have := E.1; omega) (E.2.1 _ 0 _ rfl) ⟨_, _, rfl⟩ (Nat.le_of_ble_eq_true rfl) dX10_rota_25 ?_
  refine g_if_ne (tgt := 33) dX10_rota_28 (by decide) (fun q54 => ?_) (fun q54 => ?_)
  · rw [if_neg q54] at hL
    refine g_aload_n dX10_rota_33 rfl rfl ?_
    refine s_getI (k := 0) (j := 2) E hL rfl rfl f_X10_281 dX10_rota_34 ?_
    intro v43 hL
    refine g_iconst (v := 1) dX10_rota_37 (by decide) ?_
    refine g_isub dX10_rota_38 ?_
    refine g_istore_n (i := 2) dX10_rota_39 rfl (by decide) rfl ?_
    refine P_X10_rota_40_ok E hL ?_
    · intro z44 w45 hL
      refine g_aload_n dX10_rota_144 rfl rfl ?_
      refine g_iconst (v := 0) dX10_rota_145 (by decide) ?_
      refine g_iconst (v := 0) dX10_rota_146 (by decide) ?_
      obtain ⟨v46, w47, hc, hL⟩ := xB2_some hL
      refine g_callV (M' := M_X10_leastOf) (as := [.int (0), .int (0)]) (v := some (.int (v46))) l_X10_406 kV_X10_leastOf (by decide) (C_X10_leastOf E hc) rfl (by have := E.1; omega) (E.2.1 _ 0 _ rfl) ⟨_, _, rfl⟩ (Nat.le_of_ble_eq_true rfl) dX10_rota_147 ?_
      refine g_ldcw (v := 99999) dX10_rota_150 n_X10_311 ?_
      refine g_icmp_lt (tgt := 159) dX10_rota_153 (by decide) (fun q53 => ?_) (fun q53 => ?_)
      · rw [if_pos q53] at hL
        refine g_iload_n dX10_rota_159 rfl rfl ?_
        refine g_iconst (v := (-1)) dX10_rota_160 (by decide) ?_
        refine g_icmp_ne (tgt := 171) dX10_rota_161 (by decide) (fun q52 => ?_) (fun q52 => ?_)
        · rw [if_neg q52] at hL
          refine g_iconst (v := 0) dX10_rota_171 (by decide) ?_
          refine g_istore_n (i := 2) dX10_rota_172 rfl (by decide) rfl ?_
          refine g_iconst (v := (-1)) dX10_rota_173 (by decide) ?_
          refine g_istore_n (i := 3) dX10_rota_174 rfl (by decide) rfl ?_
          refine g_iconst (v := 0) dX10_rota_175 (by decide) ?_
          refine g_istore (i := 4) dX10_rota_176 (by decide) rfl ?_
          refine P_X10_rota_178_ok E hL ?_
          · intro z48 w49 hL
            refine g_iload_n dX10_rota_264 rfl rfl ?_
            refine g_none 3 ?_
            obtain rfl := Option.some.inj hL
            exact g_iret rfl dX10_rota_265
        · rw [if_pos q52] at hL
          refine g_none 1 ?_
          refine g_aload_n dX10_rota_164 rfl rfl ?_
          refine g_none 0 ?_
          refine g_iconst (v := 0) dX10_rota_165 (by decide) ?_
          refine g_iconst (v := 0) dX10_rota_166 (by decide) ?_
          obtain ⟨v50, w51, hc, hL⟩ := xB2_some hL
          refine g_callV (M' := M_X10_leastOf) (as := [.int (0), .int (0)]) (v := some (.int (v50))) l_X10_406 kV_X10_leastOf (by decide) (C_X10_leastOf E hc) rfl (by have := E.1; omega) (E.2.1 _ 0 _ rfl) ⟨_, _, rfl⟩ (Nat.le_of_ble_eq_true rfl) dX10_rota_167 ?_
          obtain rfl := Option.some.inj hL
          exact g_iret rfl dX10_rota_170
      · rw [if_neg q53] at hL
        refine g_none 0 ?_
        refine g_none 1 ?_
        refine g_bipush (v := (-2)) dX10_rota_156 (by decide) ?_
        obtain rfl := Option.some.inj hL
        exact g_iret rfl dX10_rota_158
  · rw [if_pos q54] at hL
    refine g_none 0 ?_
    refine g_none 1 ?_
    refine g_iconst (v := 0) dX10_rota_31 (by decide) ?_
    obtain rfl := Option.some.inj hL
    exact g_iret rfl dX10_rota_32
def J_X10_rota_23 (x1 : Int32) (w : wS) : Option (Int32 × wS) :=
  J_X10_rota_24  (x1) (0) w
set_option maxRecDepth 20000 in
theorem J_X10_rota_23_ok {G : aG} {Hf : wS → aH} {b : Nat} {x1 : Int32} {w : wS} {r : Int32 × wS} (E : Emb Hf b 0 tbM) (hL : J_X10_rota_23  x1 w = some r) : AG G M_X10_rota 23 [some (.ref (b + 0)), some (.int (x1)), none, none, none, none] [.ref (b + 0)] (Hf w) (.inl (some (.int r.1)), Hf r.2) := by
  unfold J_X10_rota_23 at hL
  refine g_iconst (v := 0) dX10_rota_23 (by decide) ?_
  exact J_X10_rota_24_ok E hL 
def L_X10_rota (a1 : Int32) (w : wS) : Option (Int32 × wS) :=
  xB (xPut w 0 (0)) fun w55 => if a1 < (-1) then J_X10_rota_23  (a1) w55 else xB (xGet w55 2) fun v56 => if v56 ≤ a1 then J_X10_rota_23  (a1) w55 else J_X10_rota_24  (a1) (1) w55
set_option maxRecDepth 20000 in
theorem C_X10_rota {G : aG} {Hf : wS → aH} {b : Nat} {a1 : Int32} {w : wS} {r : Int32 × wS} (E : Emb Hf b 0 tbM) (hL : L_X10_rota a1 w = some r) : AC G M_X10_rota [.ref (b + 0), .int a1] (Hf w) (.inl (some (.int r.1)), Hf r.2) := by
  unfold L_X10_rota at hL
  refine AC.of (by decide) rfl (Nat.le_of_ble_eq_true rfl) ?_
  show AG G M_X10_rota 0 [some (.ref (b + 0)), some (.int (a1)), none, none, none, none] [] _ _
  refine g_aload_n dX10_rota_0 rfl rfl ?_
  refine g_iconst (v := 0) dX10_rota_1 (by decide) ?_
  refine s_putI (k := 0) (j := 0) E hL rfl rfl (by decide) fw_X10_120 rfl rfl dX10_rota_2 ?_
  intro w55 hL
  refine g_aload_n dX10_rota_5 rfl rfl ?_
  refine g_iload_n dX10_rota_6 rfl rfl ?_
  refine g_iconst (v := (-1)) dX10_rota_7 (by decide) ?_
  refine g_icmp_lt (tgt := 23) dX10_rota_8 (by decide) (fun q58 => ?_) (fun q58 => ?_)
  · rw [if_pos q58] at hL
    exact J_X10_rota_23_ok E hL 
  · rw [if_neg q58] at hL
    refine g_iload_n dX10_rota_11 rfl rfl ?_
    refine g_aload_n dX10_rota_12 rfl rfl ?_
    refine s_getI (k := 0) (j := 2) E hL rfl rfl f_X10_281 dX10_rota_13 ?_
    intro v56 hL
    refine g_icmp_ge (tgt := 23) dX10_rota_16 (by decide) (fun q57 => ?_) (fun q57 => ?_)
    · rw [if_pos q57] at hL
      exact J_X10_rota_23_ok E hL 
    · rw [if_neg q57] at hL
      refine g_iconst (v := 1) dX10_rota_19 (by decide) ?_
      refine g_goto (tgt := 24) dX10_rota_20 (by decide) ?_
      exact J_X10_rota_24_ok E hL 
