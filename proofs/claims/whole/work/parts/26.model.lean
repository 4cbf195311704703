def J_X10_towers_168 (y0 : Int32) (w : wS) : Option (Int32 × wS) :=
  some (y0, w)
set_option maxRecDepth 20000 in
theorem J_X10_towers_168_ok {G : aG} {Hf : wS → aH} {b : Nat} {y0 : Int32} {w : wS} {r : Int32 × wS} (E : Emb Hf b 0 tbM) (hL : J_X10_towers_168  y0 w = some r) : AG G M_X10_towers 168 [none, none, none, none, none, none, none, none] [.int (y0)] (Hf w) (.inl (some (.int r.1)), Hf r.2) := by
  unfold J_X10_towers_168 at hL
  obtain rfl := Option.some.inj hL
  exact g_iret rfl dX10_towers_168
def J_X10_towers_135 (kh40 : Int32 → Int32 → Int32 → Int32 → Int32 → wS → Option (Int32 × wS)) (ke110 : Int32 → Int32 → Int32 → wS → Option (Int32 × wS)) (ke158 : Int32 → Int32 → Int32 → wS → Option (Int32 × wS)) (x1 : Int32) (x2 : Int32) (x3 : Int32) (x4 : Int32) (y0 : Int32) (w : wS) : Option (Int32 × wS) :=
  kh40 (x1) (x2) ((x3 + 1)) ((x4 ||| (1 <<< (y0 &&& 31)))) ((y0 - x1)) w
set_option maxRecDepth 20000 in
theorem J_X10_towers_135_ok {G : aG} {Hf : wS → aH} {b : Nat} {kh40 : Int32 → Int32 → Int32 → Int32 → Int32 → wS → Option (Int32 × wS)} {ke110 : Int32 → Int32 → Int32 → wS → Option (Int32 × wS)} {ke158 : Int32 → Int32 → Int32 → wS → Option (Int32 × wS)} {x1 : Int32} {x2 : Int32} {x3 : Int32} {x4 : Int32} {y0 : Int32} {w : wS} {r : Int32 × wS} (E : Emb Hf b 0 tbM) (hL : J_X10_towers_135 kh40 ke110 ke158 x1 x2 x3 x4 y0 w = some r) (Hkh40 : ∀ (z0 : Int32) (z1 : Int32) (z2 : Int32) (z3 : Int32) (z4 : Int32) (w : wS), kh40 z0 z1 z2 z3 z4 w = some r → AG G M_X10_towers 40 [some (.ref (b + 0)), some (.int (z0)), some (.int (z1)), some (.int (z2)), some (.int (z3)), some (.int (z4)), none, none] [] (Hf w) (.inl (some (.int r.1)), Hf r.2)) (Hke110 : ∀ (z0 : Int32) (z1 : Int32) (z2 : Int32) (w : wS), ke110 z0 z1 z2 w = some r → AG G M_X10_towers 110 [none, none, some (.int (z0)), some (.int (z1)), some (.int (z2)), none, none, none] [] (Hf w) (.inl (some (.int r.1)), Hf r.2)) (Hke158 : ∀ (z0 : Int32) (z1 : Int32) (z2 : Int32) (w : wS), ke158 z0 z1 z2 w = some r → AG G M_X10_towers 158 [none, none, some (.int (z0)), some (.int (z1)), some (.int (z2)), none, none, none] [] (Hf w) (.inl (some (.int r.1)), Hf r.2)) : AG G M_X10_towers 135 [some (.ref (b + 0)), some (.int (x1)), some (.int (x2)), some (.int (x3)), some (.int (x4)), none, none, none] [.int (y0)] (Hf w) (.inl (some (.int r.1)), Hf r.2) := by
  unfold J_X10_towers_135 at hL
  refine g_istore (i := 7) dX10_towers_135 (by decide) rfl ?_
  refine g_iload dX10_towers_137 rfl ?_
  refine g_none 4 ?_
  refine g_iconst (v := 1) dX10_towers_139 (by decide) ?_
  refine g_iload dX10_towers_140 rfl ?_
  refine g_ishl dX10_towers_142 ?_
  refine g_ior dX10_towers_143 ?_
  refine g_istore (i := 4) dX10_towers_144 (by decide) rfl ?_
  refine g_iincV (v := (x3 + 1)) dX10_towers_146 rfl rfl (by decide) rfl ?_
  refine g_iload dX10_towers_149 rfl ?_
  refine g_none 7 ?_
  refine g_iload_n dX10_towers_151 rfl rfl ?_
  refine g_isub dX10_towers_152 ?_
  refine g_istore (i := 5) dX10_towers_153 (by decide) rfl ?_
  refine g_goto (tgt := 40) dX10_towers_155 (by decide) ?_
  exact Hkh40 _ _ _ _ _ _ hL
def J_X10_towers_120 (y0 : Int32) (w : wS) : Option (Int32 × wS) :=
  some (y0, w)
set_option maxRecDepth 20000 in
theorem J_X10_towers_120_ok {G : aG} {Hf : wS → aH} {b : Nat} {y0 : Int32} {w : wS} {r : Int32 × wS} (E : Emb Hf b 0 tbM) (hL : J_X10_towers_120  y0 w = some r) : AG G M_X10_towers 120 [none, none, none, none, none, none, none, none] [.int (y0)] (Hf w) (.inl (some (.int r.1)), Hf r.2) := by
  unfold J_X10_towers_120 at hL
  obtain rfl := Option.some.inj hL
  exact g_iret rfl dX10_towers_120
def J_X10_towers_96 (kh51 : Int32 → Int32 → Int32 → Int32 → Int32 → Int32 → Int32 → wS → Option (Int32 × wS)) (ke104 : Int32 → Int32 → Int32 → Int32 → Int32 → wS → Option (Int32 × wS)) (x1 : Int32) (x2 : Int32) (x3 : Int32) (x4 : Int32) (x5 : Int32) (x7 : Int32) (y0 : Int32) (w : wS) : Option (Int32 × wS) :=
  kh51 (x1) (x2) (x3) (x4) (x5) (y0) ((x7 + 1)) w
set_option maxRecDepth 20000 in
theorem J_X10_towers_96_ok {G : aG} {Hf : wS → aH} {b : Nat} {kh51 : Int32 → Int32 → Int32 → Int32 → Int32 → Int32 → Int32 → wS → Option (Int32 × wS)} {ke104 : Int32 → Int32 → Int32 → Int32 → Int32 → wS → Option (Int32 × wS)} {x1 : Int32} {x2 : Int32} {x3 : Int32} {x4 : Int32} {x5 : Int32} {x7 : Int32} {y0 : Int32} {w : wS} {r : Int32 × wS} (E : Emb Hf b 0 tbM) (hL : J_X10_towers_96 kh51 ke104 x1 x2 x3 x4 x5 x7 y0 w = some r) (Hkh51 : ∀ (z0 : Int32) (z1 : Int32) (z2 : Int32) (z3 : Int32) (z4 : Int32) (z5 : Int32) (z6 : Int32) (w : wS), kh51 z0 z1 z2 z3 z4 z5 z6 w = some r → AG G M_X10_towers 51 [some (.ref (b + 0)), some (.int (z0)), some (.int (z1)), some (.int (z2)), some (.int (z3)), some (.int (z4)), some (.int (z5)), some (.int (z6))] [] (Hf w) (.inl (some (.int r.1)), Hf r.2)) (Hke104 : ∀ (z0 : Int32) (z1 : Int32) (z2 : Int32) (z3 : Int32) (z4 : Int32) (w : wS), ke104 z0 z1 z2 z3 z4 w = some r → AG G M_X10_towers 104 [some (.ref (b + 0)), some (.int (z0)), some (.int (z1)), some (.int (z2)), some (.int (z3)), none, some (.int (z4)), none] [] (Hf w) (.inl (some (.int r.1)), Hf r.2)) : AG G M_X10_towers 96 [some (.ref (b + 0)), some (.int (x1)), some (.int (x2)), some (.int (x3)), some (.int (x4)), some (.int (x5)), none, some (.int (x7))] [.int (y0)] (Hf w) (.inl (some (.int r.1)), Hf r.2) := by
  unfold J_X10_towers_96 at hL
  refine g_istore (i := 6) dX10_towers_96 (by decide) rfl ?_
  refine g_iincV (v := (x7 + 1)) dX10_towers_98 rfl rfl (by decide) rfl ?_
  refine g_goto (tgt := 51) dX10_towers_101 (by decide) ?_
  exact Hkh51 _ _ _ _ _ _ _ _ hL
def J_X10_towers_94 (kh51 : Int32 → Int32 → Int32 → Int32 → Int32 → Int32 → Int32 → wS → Option (Int32 × wS)) (ke104 : Int32 → Int32 → Int32 → Int32 → Int32 → wS → Option (Int32 × wS)) (x1 : Int32) (x2 : Int32) (x3 : Int32) (x4 : Int32) (x5 : Int32) (x6 : Int32) (x7 : Int32) (w : wS) : Option (Int32 × wS) :=
  J_X10_towers_96 kh51 ke104 (x1) (x2) (x3) (x4) (x5) (x7) (x6) w
set_option maxRecDepth 20000 in
theorem J_X10_towers_94_ok {G : aG} {Hf : wS → aH} {b : Nat} {kh51 : Int32 → Int32 → Int32 → Int32 → Int32 → Int32 → Int32 → wS → Option (Int32 × wS)} {ke104 : Int32 → Int32 → Int32 → Int32 → Int32 → wS → Option (Int32 × wS)} {x1 : Int32} {x2 : Int32} {x3 : Int32} {x4 : Int32} {x5 : Int32} {x6 : Int32} {x7 : Int32} {w : wS} {r : Int32 × wS} (E : Emb Hf b 0 tbM) (hL : J_X10_towers_94 kh51 ke104 x1 x2 x3 x4 x5 x6 x7 w = some r) (Hkh51 : ∀ (z0 : Int32) (z1 : Int32) (z2 : Int32) (z3 : Int32) (z4 : Int32) (z5 : Int32) (z6 : Int32) (w : wS), kh51 z0 z1 z2 z3 z4 z5 z6 w = some r → AG G M_X10_towers 51 [some (.ref (b + 0)), some (.int (z0)), some (.int (z1)), some (.int (z2)), some (.int (z3)), some (.int (z4)), some (.int (z5)), some (.int (z6))] [] (Hf w) (.inl (some (.int r.1)), Hf r.2)) (Hke104 : ∀ (z0 : Int32) (z1 : Int32) (z2 : Int32) (z3 : Int32) (z4 : Int32) (w : wS), ke104 z0 z1 z2 z3 z4 w = some r → AG G M_X10_towers 104 [some (.ref (b + 0)), some (.int (z0)), some (.int (z1)), some (.int (z2)), some (.int (z3)), none, some (.int (z4)), none] [] (Hf w) (.inl (some (.int r.1)), Hf r.2)) : AG G M_X10_towers 94 [some (.ref (b + 0)), some (.int (x1)), some (.int (x2)), some (.int (x3)), some (.int (x4)), some (.int (x5)), some (.int (x6)), some (.int (x7))] [] (Hf w) (.inl (some (.int r.1)), Hf r.2) := by
  unfold J_X10_towers_94 at hL
  refine g_iload dX10_towers_94 rfl ?_
  refine g_none 6 ?_
  exact J_X10_towers_96_ok E hL Hkh51 Hke104
def B_X10_towers_51 (kh51 : Int32 → Int32 → Int32 → Int32 → Int32 → Int32 → Int32 → wS → Option (Int32 × wS)) (ke104 : Int32 → Int32 → Int32 → Int32 → Int32 → wS → Option (Int32 × wS)) (x1 : Int32) (x2 : Int32) (x3 : Int32) (x4 : Int32) (x5 : Int32) (x6 : Int32) (x7 : Int32) (w : wS) : Option (Int32 × wS) :=
  xB (xGet w 1) fun v1 => if v1 ≤ x7 then ke104 (x1) (x2) (x3) (x4) (x6) w else xB (xAld w 3 8 (x7)) fun v2 => if x5 ≤ v2 then J_X10_towers_94 kh51 ke104 (x1) (x2) (x3) (x4) (x5) (x6) (x7) w else xB (xAld w 3 8 (x7)) fun v3 => if v3 ≤ x6 then J_X10_towers_94 kh51 ke104 (x1) (x2) (x3) (x4) (x5) (x6) (x7) w else xB (xAld w 3 8 (x7)) fun v4 => J_X10_towers_96 kh51 ke104 (x1) (x2) (x3) (x4) (x5) (x7) (v4) w
set_option maxRecDepth 20000 in
theorem B_X10_towers_51_ok {G : aG} {Hf : wS → aH} {b : Nat} {kh51 : Int32 → Int32 → Int32 → Int32 → Int32 → Int32 → Int32 → wS → Option (Int32 × wS)} {ke104 : Int32 → Int32 → Int32 → Int32 → Int32 → wS → Option (Int32 × wS)} {x1 : Int32} {x2 : Int32} {x3 : Int32} {x4 : Int32} {x5 : Int32} {x6 : Int32} {x7 : Int32} {w : wS} {r : Int32 × wS} (E : Emb Hf b 0 tbM) (hL : B_X10_towers_51 kh51 ke104 x1 x2 x3 x4 x5 x6 x7 w = some r) (Hkh51 : ∀ (z0 : Int32) (z1 : Int32) (z2 : Int32) (z3 : Int32) (z4 : Int32) (z5 : Int32) (z6 : Int32) (w : wS), kh51 z0 z1 z2 z3 z4 z5 z6 w = some r → AG G M_X10_towers 51 [some (.ref (b + 0)), some (.int (z0)), some (.int (z1)), some (.int (z2)), some (.int (z3)), some (.int (z4)), some (.int (z5)), some (.int (z6))] [] (Hf w) (.inl (some (.int r.1)), Hf r.2)) (Hke104 : ∀ (z0 : Int32) (z1 : Int32) (z2 : Int32) (z3 : Int32) (z4 : Int32) (w : wS), ke104 z0 z1 z2 z3 z4 w = some r → AG G M_X10_towers 104 [some (.ref (b + 0)), some (.int (z0)), some (.int (z1)), some (.int (z2)), some (.int (z3)), none, some (.int (z4)), none] [] (Hf w) (.inl (some (.int r.1)), Hf r.2)) : AG G M_X10_towers 51 [some (.ref (b + 0)), some (.int (x1)), some (.int (x2)), some (.int (x3)), some (.int (x4)), some (.int (x5)), some (.int (x6)), some (.int (x7))] [] (Hf w) (.inl (some (.int r.1)), Hf r.2) := by
  unfold B_X10_towers_51 at hL
  refine g_iload dX10_towers_51 rfl ?_
  refine g_aload_n dX10_towers_53 rfl rfl ?_
  refine s_getI (k := 0) (j := 1) E hL rfl rfl f_X10_278 dX10_towers_54 ?_
  intro v1 hL
  refine g_icmp_ge (tgt := 104) dX10_towers_57 (by decide) (fun q7 => ?_) (fun q7 => ?_)
  · rw [if_pos q7] at hL
    refine g_none 5 ?_
    refine g_none 7 ?_
    exact Hke104 _ _ _ _ _ _ hL
  · rw [if_neg q7] at hL
    refine g_aload_n dX10_towers_60 rfl rfl ?_
    refine s_getR (j := 8) E rfl rfl f_X10_26 dX10_towers_61 ?_
    refine g_iload dX10_towers_64 rfl ?_
    refine s_iald (k := 3) E hL rfl dX10_towers_66 ?_
    intro v2 hL
    refine g_iload dX10_towers_67 rfl ?_
    refine g_icmp_ge (tgt := 94) dX10_towers_69 (by decide) (fun q6 => ?_) (fun q6 => ?_)
    · rw [if_pos q6] at hL
      exact J_X10_towers_94_ok E hL Hkh51 Hke104
    · rw [if_neg q6] at hL
      refine g_aload_n dX10_towers_72 rfl rfl ?_
      refine s_getR (j := 8) E rfl rfl f_X10_26 dX10_towers_73 ?_
      refine g_iload dX10_towers_76 rfl ?_
      refine s_iald (k := 3) E hL rfl dX10_towers_78 ?_
      intro v3 hL
      refine g_iload dX10_towers_79 rfl ?_
      refine g_icmp_le (tgt := 94) dX10_towers_81 (by decide) (fun q5 => ?_) (fun q5 => ?_)
      · rw [if_pos q5] at hL
        exact J_X10_towers_94_ok E hL Hkh51 Hke104
      · rw [if_neg q5] at hL
        refine g_none 6 ?_
        refine g_aload_n dX10_towers_84 rfl rfl ?_
        refine s_getR (j := 8) E rfl rfl f_X10_26 dX10_towers_85 ?_
        refine g_iload dX10_towers_88 rfl ?_
        refine s_iald (k := 3) E hL rfl dX10_towers_90 ?_
        intro v4 hL
        refine g_goto (tgt := 96) dX10_towers_91 (by decide) ?_
        exact J_X10_towers_96_ok E hL Hkh51 Hke104
def P_X10_towers_51 (ke104 : Int32 → Int32 → Int32 → Int32 → Int32 → wS → Option (Int32 × wS)) (n : Nat) (x1 : Int32) (x2 : Int32) (x3 : Int32) (x4 : Int32) (x5 : Int32) (x6 : Int32) (x7 : Int32) (w : wS) : Option (Int32 × wS) :=
  xLoop (fun (kk : Int32 × Int32 × Int32 × Int32 × Int32 × Int32 × Int32 × wS → Option (Int32 × wS)) σ => B_X10_towers_51 (fun x1 x2 x3 x4 x5 x6 x7 w => kk (x1, x2, x3, x4, x5, x6, x7, w)) ke104 (σ.1) (σ.2.1) (σ.2.2.1) (σ.2.2.2.1) (σ.2.2.2.2.1) (σ.2.2.2.2.2.1) (σ.2.2.2.2.2.2.1) (σ.2.2.2.2.2.2.2)) n (x1, x2, x3, x4, x5, x6, x7, w)
theorem P_X10_towers_51_ok {G : aG} {Hf : wS → aH} {b : Nat} {ke104 : Int32 → Int32 → Int32 → Int32 → Int32 → wS → Option (Int32 × wS)} {n : Nat} {x1 : Int32} {x2 : Int32} {x3 : Int32} {x4 : Int32} {x5 : Int32} {x6 : Int32} {x7 : Int32} {w : wS} {r : Int32 × wS} (E : Emb Hf b 0 tbM) (hL : P_X10_towers_51 ke104 n x1 x2 x3 x4 x5 x6 x7 w = some r) (Hke104 : ∀ (z0 : Int32) (z1 : Int32) (z2 : Int32) (z3 : Int32) (z4 : Int32) (w : wS), ke104 z0 z1 z2 z3 z4 w = some r → AG G M_X10_towers 104 [some (.ref (b + 0)), some (.int (z0)), some (.int (z1)), some (.int (z2)), some (.int (z3)), none, some (.int (z4)), none] [] (Hf w) (.inl (some (.int r.1)), Hf r.2)) : AG G M_X10_towers 51 [some (.ref (b + 0)), some (.int (x1)), some (.int (x2)), some (.int (x3)), some (.int (x4)), some (.int (x5)), some (.int (x6)), some (.int (x7))] [] (Hf w) (.inl (some (.int r.1)), Hf r.2) :=
  xLoop_ok (Q := fun (σ : Int32 × Int32 × Int32 × Int32 × Int32 × Int32 × Int32 × wS) => AG G M_X10_towers 51 [some (.ref (b + 0)), some (.int (σ.1)), some (.int (σ.2.1)), some (.int (σ.2.2.1)), some (.int (σ.2.2.2.1)), some (.int (σ.2.2.2.2.1)), some (.int (σ.2.2.2.2.2.1)), some (.int (σ.2.2.2.2.2.2.1))] [] (Hf σ.2.2.2.2.2.2.2) (.inl (some (.int r.1)), Hf r.2)) (fun kk hk σ hσ => B_X10_towers_51_ok E hσ (fun x1 x2 x3 x4 x5 x6 x7 w h9 => hk (x1, x2, x3, x4, x5, x6, x7, w) h9) Hke104) n (x1, x2, x3, x4, x5, x6, x7, w) hL
def B_X10_towers_40 (kh40 : Int32 → Int32 → Int32 → Int32 → Int32 → wS → Option (Int32 × wS)) (ke110 : Int32 → Int32 → Int32 → wS → Option (Int32 × wS)) (ke158 : Int32 → Int32 → Int32 → wS → Option (Int32 × wS)) (x1 : Int32) (x2 : Int32) (x3 : Int32) (x4 : Int32) (x5 : Int32) (w : wS) : Option (Int32 × wS) :=
  if x5 ≤ 0 then ke158 (x2) (x3) (x4) w else P_X10_towers_51 (fun z8 z9 z10 z11 z12 w13 => if z12 = (-1) then ke110 (z9) (z10) (z11) w13 else if z8 ≤ z12 then J_X10_towers_135 kh40 ke110 ke158 (z8) (z9) (z10) (z11) ((z12 - z8)) w13 else J_X10_towers_135 kh40 ke110 ke158 (z8) (z9) (z10) (z11) (0) w13) 5000 (x1) (x2) (x3) (x4) (x5) ((-1)) (0) w
set_option maxRecDepth 20000 in
theorem B_X10_towers_40_ok {G : aG} {Hf : wS → aH} {b : Nat} {kh40 : Int32 → Int32 → Int32 → Int32 → Int32 → wS → Option (Int32 × wS)} {ke110 : Int32 → Int32 → Int32 → wS → Option (Int32 × wS)} {ke158 : Int32 → Int32 → Int32 → wS → Option (Int32 × wS)} {x1 : Int32} {x2 : Int32} {x3 : Int32} {x4 : Int32} {x5 : Int32} {w : wS} {r : Int32 × wS} (E : Emb Hf b 0 tbM) (hL : B_X10_towers_40 kh40 ke110 ke158 x1 x2 x3 x4 x5 w = some r) (Hkh40 : ∀ (z0 : Int32) (z1 : Int32) (z2 : Int32) (z3 : Int32) (z4 : Int32) (w : wS), kh40 z0 z1 z2 z3 z4 w = some r → AG G M_X10_towers 40 [some (.ref (b + 0)), some (.int (z0)), some (.int (z1)), some (.int (z2)), some (.int (z3)), some (.int (z4)), none, none] [] (Hf w) (.inl (some (.int r.1)), Hf r.2)) (Hke110 : ∀ (z0 : Int32) (z1 : Int32) (z2 : Int32) (w : wS), ke110 z0 z1 z2 w = some r → AG G M_X10_towers 110 [none, none, some (.int (z0)), some (.int (z1)), some (.int (z2)), none, none, none] [] (Hf w) (.inl (some (.int r.1)), Hf r.2)) (Hke158 : ∀ (z0 : Int32) (z1 : Int32) (z2 : Int32) (w : wS), ke158 z0 z1 z2 w = some r → AG G M_X10_towers 158 [none, none, some (.int (z0)), some (.int (z1)), some (.int (z2)), none, none, none] [] (Hf w) (.inl (some (.int r.1)), Hf r.2)) : AG G M_X10_towers 40 [some (.ref (b + 0)), some (.int (x1)), some (.int (x2)), some (.int (x3)), some (.int (x4)), some (.int (x5)), none, none] [] (Hf w) (.inl (some (.int r.1)), Hf r.2) := by
  unfold B_X10_towers_40 at hL
  refine g_iload dX10_towers_40 rfl ?_
  refine g_if_le (tgt := 158) dX10_towers_42 (by decide) (fun q16 => ?_) (fun q16 => ?_)
  · rw [if_pos q16] at hL
    refine g_none 0 ?_
    refine g_none 1 ?_
    refine g_none 5 ?_
    exact Hke158 _ _ _ _ hL
  · rw [if_neg q16] at hL
    refine g_iconst (v := (-1)) dX10_towers_45 (by decide) ?_
    refine g_istore (i := 6) dX10_towers_46 (by decide) rfl ?_
    refine g_iconst (v := 0) dX10_towers_48 (by decide) ?_
    refine g_istore (i := 7) dX10_towers_49 (by decide) rfl ?_
    refine P_X10_towers_51_ok E hL ?_
    · intro z8 z9 z10 z11 z12 w13 hL
      refine g_iload dX10_towers_104 rfl ?_
      refine g_iconst (v := (-1)) dX10_towers_106 (by decide) ?_
      refine g_icmp_ne (tgt := 121) dX10_towers_107 (by decide) (fun q15 => ?_) (fun q15 => ?_)
      · rw [if_neg q15] at hL
        refine g_iload dX10_towers_121 rfl ?_
        refine g_iload_n dX10_towers_123 rfl rfl ?_
        refine g_icmp_ge (tgt := 131) dX10_towers_124 (by decide) (fun q14 => ?_) (fun q14 => ?_)
        · rw [if_pos q14] at hL
          refine g_iload dX10_towers_131 rfl ?_
          refine g_none 6 ?_
          refine g_iload_n dX10_towers_133 rfl rfl ?_
          refine g_isub dX10_towers_134 ?_
          exact J_X10_towers_135_ok E hL Hkh40 Hke110 Hke158
        · rw [if_neg q14] at hL
          refine g_none 6 ?_
          refine g_iconst (v := 0) dX10_towers_127 (by decide) ?_
          refine g_goto (tgt := 135) dX10_towers_128 (by decide) ?_
          exact J_X10_towers_135_ok E hL Hkh40 Hke110 Hke158
      · rw [if_pos q15] at hL
        refine g_none 0 ?_
        refine g_none 1 ?_
        refine g_none 6 ?_
        exact Hke110 _ _ _ _ hL
def P_X10_towers_40 (ke110 : Int32 → Int32 → Int32 → wS → Option (Int32 × wS)) (ke158 : Int32 → Int32 → Int32 → wS → Option (Int32 × wS)) (n : Nat) (x1 : Int32) (x2 : Int32) (x3 : Int32) (x4 : Int32) (x5 : Int32) (w : wS) : Option (Int32 × wS) :=
  xLoop (fun (kk : Int32 × Int32 × Int32 × Int32 × Int32 × wS → Option (Int32 × wS)) σ => B_X10_towers_40 (fun x1 x2 x3 x4 x5 w => kk (x1, x2, x3, x4, x5, w)) ke110 ke158 (σ.1) (σ.2.1) (σ.2.2.1) (σ.2.2.2.1) (σ.2.2.2.2.1) (σ.2.2.2.2.2)) n (x1, x2, x3, x4, x5, w)
theorem P_X10_towers_40_ok {G : aG} {Hf : wS → aH} {b : Nat} {ke110 : Int32 → Int32 → Int32 → wS → Option (Int32 × wS)} {ke158 : Int32 → Int32 → Int32 → wS → Option (Int32 × wS)} {n : Nat} {x1 : Int32} {x2 : Int32} {x3 : Int32} {x4 : Int32} {x5 : Int32} {w : wS} {r : Int32 × wS} (E : Emb Hf b 0 tbM) (hL : P_X10_towers_40 ke110 ke158 n x1 x2 x3 x4 x5 w = some r) (Hke110 : ∀ (z0 : Int32) (z1 : Int32) (z2 : Int32) (w : wS), ke110 z0 z1 z2 w = some r → AG G M_X10_towers 110 [none, none, some (.int (z0)), some (.int (z1)), some (.int (z2)), none, none, none] [] (Hf w) (.inl (some (.int r.1)), Hf r.2)) (Hke158 : ∀ (z0 : Int32) (z1 : Int32) (z2 : Int32) (w : wS), ke158 z0 z1 z2 w = some r → AG G M_X10_towers 158 [none, none, some (.int (z0)), some (.int (z1)), some (.int (z2)), none, none, none] [] (Hf w) (.inl (some (.int r.1)), Hf r.2)) : AG G M_X10_towers 40 [some (.ref (b + 0)), some (.int (x1)), some (.int (x2)), some (.int (x3)), some (.int (x4)), some (.int (x5)), none, none] [] (Hf w) (.inl (some (.int r.1)), Hf r.2) :=
  xLoop_ok (Q := fun (σ : Int32 × Int32 × Int32 × Int32 × Int32 × wS) => AG G M_X10_towers 40 [some (.ref (b + 0)), some (.int (σ.1)), some (.int (σ.2.1)), some (.int (σ.2.2.1)), some (.int (σ.2.2.2.1)), some (.int (σ.2.2.2.2.1)), none, none] [] (Hf σ.2.2.2.2.2) (.inl (some (.int r.1)), Hf r.2)) (fun kk hk σ hσ => B_X10_towers_40_ok E hσ (fun x1 x2 x3 x4 x5 w h9 => hk (x1, x2, x3, x4, x5, w) h9) Hke110 Hke158) n (x1, x2, x3, x4, x5, w) hL
def J_X10_towers_29 (w : wS) : Option (Int32 × wS) :=
  some (0, w)
set_option maxRecDepth 20000 in
theorem J_X10_towers_29_ok {G : aG} {Hf : wS → aH} {b : Nat} {w : wS} {r : Int32 × wS} (E : Emb Hf b 0 tbM) (hL : J_X10_towers_29   w = some r) : AG G M_X10_towers 29 [none, none, none, none, none, none, none, none] [] (Hf w) (.inl (some (.int r.1)), Hf r.2) := by
  unfold J_X10_towers_29 at hL
  refine g_iconst (v := 0) dX10_towers_29 (by decide) ?_
  obtain rfl := Option.some.inj hL
  exact g_iret rfl dX10_towers_30
def L_X10_towers (a1 : Int32) (a2 : Int32) (w : wS) : Option (Int32 × wS) :=
  xB (xPut w 0 (0)) fun w17 => xB2 (L_X10_isWhat (a2) (1) w17) fun v18 w19 => if v18 = 0 then J_X10_towers_29   w19 else xB (L_X10_within (a1) (0) (30)) fun v20 => xB2 (L_X10_right (v20) (2) w19) fun v21 w22 => if v21 = 0 then J_X10_towers_29   w22 else P_X10_towers_40 (fun z23 z24 z25 w26 => if z23 = 0 then J_X10_towers_120  (z24) w26 else J_X10_towers_120  (z25) w26) (fun z28 z29 z30 w31 => if z28 = 0 then J_X10_towers_168  (z29) w31 else J_X10_towers_168  (z30) w31) 5000 (a1) (a2) (0) (0) (31) w22
set_option maxRecDepth 20000 in
theorem C_X10_towers {G : aG} {Hf : wS → aH} {b : Nat} {a1 : Int32} {a2 : Int32} {w : wS} {r : Int32 × wS} (E : Emb Hf b 0 tbM) (hL : L_X10_towers a1 a2 w = some r) : AC G M_X10_towers [.ref (b + 0), .int a1, .int a2] (Hf w) (.inl (some (.int r.1)), Hf r.2) := by
  unfold L_X10_towers at hL
  refine AC.of (by decide) rfl (Nat.le_of_ble_eq_true rfl) ?_
  show AG G M_X10_towers 0 [some (.ref (b + 0)), some (.int (a1)), some (.int (a2)), none, none, none, none, none] [] _ _
  refine g_aload_n dX10_towers_0 rfl rfl ?_
  refine g_iconst (v := 0) dX10_towers_1 (by decide) ?_
  refine s_putI (k := 0) (j := 0) E hL rfl rfl (by decide) fw_X10_120 rfl rfl dX10_towers_2 ?_
  intro w17 hL
  refine g_aload_n dX10_towers_5 rfl rfl ?_
  refine g_iload_n dX10_towers_6 rfl rfl ?_
  refine g_iconst (v := 1) dX10_towers_7 (by decide) ?_
  obtain ⟨v18, w19, hc, hL⟩ := xB2_some hL
  refine g_callV (M' := M_X10_isWhat) (as := [.int (a2), .int (1)]) (v := some (.int (v18))) l_X10_373 kV_X10_isWhat (by decide) (C_X10_isWhat E hc) rfl (by have := E.1; omega) (E.2.1 _ 0 _ rfl) ⟨_, _, rfl⟩ (Nat.le_of_ble_eq_true rfl) dX10_towers_8 ?_
  refine g_if_eq (tgt := 29) dX10_towers_11 (by decide) (fun q34 => ?_) (fun q34 => ?_)
  · rw [if_pos q34] at hL
    refine g_none 0 ?_
    refine g_none 1 ?_
    refine g_none 2 ?_
    exact J_X10_towers_29_ok E hL 
  · rw [if_neg q34] at hL
    refine g_aload_n dX10_towers_14 rfl rfl ?_
    refine g_iload_n dX10_towers_15 rfl rfl ?_
    refine g_iconst (v := 0) dX10_towers_16 (by decide) ?_
    refine g_bipush (v := 30) dX10_towers_17 (by decide) ?_
    obtain ⟨v20, hc, hL⟩ := xB_some hL
    refine g_callS (M' := M_X10_within) (as := [.int (a1), .int (0), .int (30)]) (v := some (.int (v20))) l_X10_361 kS_X10_within (by decide) (C_X10_within hc) rfl (Nat.le_of_ble_eq_true rfl) dX10_towers_19 ?_
    refine g_iconst (v := 2) dX10_towers_22 (by decide) ?_
    obtain ⟨v21, w22, hc, hL⟩ := xB2_some hL
    refine g_callV (M' := M_X10_right) (as := [.int (v20), .int (2)]) (v := some (.int (v21))) l_X10_271 kV_X10_right (by decide) (C_X10_right E hc) rfl (by have := E.1; omega) (E.2.1 _ 0 _ rfl) ⟨_, _, rfl⟩ (Nat.le_of_ble_eq_true rfl) dX10_towers_23 ?_
    refine g_if_ne (tgt := 31) dX10_towers_26 (by decide) (fun q33 => ?_) (fun q33 => ?_)
    · rw [if_neg q33] at hL
      refine g_iconst (v := 0) dX10_towers_31 (by decide) ?_
      refine g_istore_n (i := 3) dX10_towers_32 rfl (by decide) rfl ?_
      refine g_iconst (v := 0) dX10_towers_33 (by decide) ?_
      refine g_istore (i := 4) dX10_towers_34 (by decide) rfl ?_
      refine g_bipush (v := 31) dX10_towers_36 (by decide) ?_
      refine g_istore (i := 5) dX10_towers_38 (by decide) rfl ?_
      refine P_X10_towers_40_ok E hL ?_ ?_
      · intro z23 z24 z25 w26 hL
        refine g_iload_n dX10_towers_110 rfl rfl ?_
        refine g_none 2 ?_
        refine g_if_ne (tgt := 118) dX10_towers_111 (by decide) (fun q27 => ?_) (fun q27 => ?_)
        · rw [if_neg q27] at hL
          refine g_none 3 ?_
          refine g_iload dX10_towers_118 rfl ?_
          refine g_none 4 ?_
          exact J_X10_towers_120_ok E hL 
        · rw [if_pos q27] at hL
          refine g_none 4 ?_
          refine g_iload_n dX10_towers_114 rfl rfl ?_
          refine g_none 3 ?_
          refine g_goto (tgt := 120) dX10_towers_115 (by decide) ?_
          exact J_X10_towers_120_ok E hL 
      · intro z28 z29 z30 w31 hL
        refine g_iload_n dX10_towers_158 rfl rfl ?_
        refine g_none 2 ?_
        refine g_if_ne (tgt := 166) dX10_towers_159 (by decide) (fun q32 => ?_) (fun q32 => ?_)
        · rw [if_neg q32] at hL
          refine g_none 3 ?_
          refine g_iload dX10_towers_166 rfl ?_
          refine g_none 4 ?_
          exact J_X10_towers_168_ok E hL 
        · rw [if_pos q32] at hL
          refine g_none 4 ?_
          refine g_iload_n dX10_towers_162 rfl rfl ?_
          refine g_none 3 ?_
          refine g_goto (tgt := 168) dX10_towers_163 (by decide) ?_
          exact J_X10_towers_168_ok E hL 
    · rw [if_pos q33] at hL
      refine g_none 0 ?_
      refine g_none 1 ?_
      refine g_none 2 ?_
      exact J_X10_towers_29_ok E hL 
def J_X10_see_45 (w : wS) : Option (Int32 × wS) :=
  xB2 (L_X10_refuses (2) w) fun v1 w2 => some (v1, w2)
set_option maxRecDepth 20000 in
theorem J_X10_see_45_ok {G : aG} {Hf : wS → aH} {b : Nat} {w : wS} {r : Int32 × wS} (E : Emb Hf b 0 tbM) (hL : J_X10_see_45   w = some r) : AG G M_X10_see 45 [some (.ref (b + 0)), none, none, none] [] (Hf w) (.inl (some (.int r.1)), Hf r.2) := by
  unfold J_X10_see_45 at hL
  refine g_aload_n dX10_see_45 rfl rfl ?_
  refine g_none 0 ?_
  refine g_iconst (v := 2) dX10_see_46 (by decide) ?_
  obtain ⟨v1, w2, hc, hL⟩ := xB2_some hL
  refine g_callV (M' := M_X10_refuses) (as := [.int (2)]) (v := some (.int (v1))) l_X10_382 kV_X10_refuses (by decide) (C_X10_refuses E hc) rfl (by have := E.1; omega) (E.2.1 _ 0 _ rfl) ⟨_, _, rfl⟩ (Nat.le_of_ble_eq_true rfl) dX10_see_47 ?_
  obtain rfl := Option.some.inj hL
  exact g_iret rfl dX10_see_50
def L_X10_see (a1 : Int32) (a2 : Int32) (a3 : Int32) (w : wS) : Option (Int32 × wS) :=
  xB (xPut w 0 (0)) fun w3 => xB2 (L_X10_isDuty (a1) w3) fun v4 w5 => if v4 = 0 then some (0, w5) else xB (xGet w5 58) fun v6 => if v6 = 8 then J_X10_see_45   w5 else xB (L_X10_within (a2) (1) (12)) fun v7 => if v7 = 0 then J_X10_see_45   w5 else xB (L_X10_within (a3) (0) (1999)) fun v8 => if v8 = 0 then J_X10_see_45   w5 else xB (xGet w5 58) fun v9 => xB (xAst w5 25 24 ((3 * v9)) (a1)) fun w10 => xB (xGet w10 58) fun v11 => xB (xAst w10 25 24 (((3 * v11) + 1)) (a2)) fun w12 => xB (xGet w12 58) fun v13 => xB (xAst w12 25 24 (((3 * v13) + 2)) (a3)) fun w14 => xB (xGet w14 58) fun v15 => xB (xPut w14 58 ((v15 + 1))) fun w16 => xB (xGet w16 58) fun v17 => some (v17, w16)
set_option maxRecDepth 20000 in
theorem C_X10_see {G : aG} {Hf : wS → aH} {b : Nat} {a1 : Int32} {a2 : Int32} {a3 : Int32} {w : wS} {r : Int32 × wS} (E : Emb Hf b 0 tbM) (hL : L_X10_see a1 a2 a3 w = some r) : AC G M_X10_see [.ref (b + 0), .int a1, .int a2, .int a3] (Hf w) (.inl (some (.int r.1)), Hf r.2) := by
  unfold L_X10_see at hL
  refine AC.of (by decide) rfl (Nat.le_of_ble_eq_true rfl) ?_
  show AG G M_X10_see 0 [some (.ref (b + 0)), some (.int (a1)), some (.int (a2)), some (.int (a3))] [] _ _
  refine g_aload_n dX10_see_0 rfl rfl ?_
  refine g_iconst (v := 0) dX10_see_1 (by decide) ?_
  refine s_putI (k := 0) (j := 0) E hL rfl rfl (by decide) fw_X10_120 rfl rfl dX10_see_2 ?_
  intro w3 hL
  refine g_aload_n dX10_see_5 rfl rfl ?_
  refine g_iload_n dX10_see_6 rfl rfl ?_
  obtain ⟨v4, w5, hc, hL⟩ := xB2_some hL
  refine g_callV (M' := M_X10_isDuty) (as := [.int (a1)]) (v := some (.int (v4))) l_X10_376 kV_X10_isDuty (by decide) (C_X10_isDuty E hc) rfl (by have := E.1; omega) (E.2.1 _ 0 _ rfl) ⟨_, _, rfl⟩ (Nat.le_of_ble_eq_true rfl) dX10_see_7 ?_
  refine g_if_ne (tgt := 15) dX10_see_10 (by decide) (fun q21 => ?_) (fun q21 => ?_)
  · rw [if_neg q21] at hL
    refine g_aload_n dX10_see_15 rfl rfl ?_
    refine s_getI (k := 0) (j := 58) E hL rfl rfl f_X10_291 dX10_see_16 ?_
    intro v6 hL
    refine g_bipush (v := 8) dX10_see_19 (by decide) ?_
    refine g_icmp_eq (tgt := 45) dX10_see_21 (by decide) (fun q20 => ?_) (fun q20 => ?_)
    · rw [if_pos q20] at hL
      refine g_none 1 ?_
      refine g_none 2 ?_
      refine g_none 3 ?_
      exact J_X10_see_45_ok E hL 
    · rw [if_neg q20] at hL
      refine g_iload_n dX10_see_24 rfl rfl ?_
      refine g_iconst (v := 1) dX10_see_25 (by decide) ?_
      refine g_bipush (v := 12) dX10_see_26 (by decide) ?_
      obtain ⟨v7, hc, hL⟩ := xB_some hL
      refine g_callS (M' := M_X10_within) (as := [.int (a2), .int (1), .int (12)]) (v := some (.int (v7))) l_X10_361 kS_X10_within (by decide) (C_X10_within hc) rfl (Nat.le_of_ble_eq_true rfl) dX10_see_28 ?_
      refine g_if_eq (tgt := 45) dX10_see_31 (by decide) (fun q19 => ?_) (fun q19 => ?_)
      · rw [if_pos q19] at hL
        refine g_none 1 ?_
        refine g_none 2 ?_
        refine g_none 3 ?_
        exact J_X10_see_45_ok E hL 
      · rw [if_neg q19] at hL
        refine g_iload_n dX10_see_34 rfl rfl ?_
        refine g_iconst (v := 0) dX10_see_35 (by decide) ?_
        refine g_sipush (v := 1999) dX10_see_36 (by decide) ?_
        obtain ⟨v8, hc, hL⟩ := xB_some hL
        refine g_callS (M' := M_X10_within) (as := [.int (a3), .int (0), .int (1999)]) (v := some (.int (v8))) l_X10_361 kS_X10_within (by decide) (C_X10_within hc) rfl (Nat.le_of_ble_eq_true rfl) dX10_see_39 ?_
        refine g_if_ne (tgt := 51) dX10_see_42 (by decide) (fun q18 => ?_) (fun q18 => ?_)
        · rw [if_neg q18] at hL
          refine g_aload_n dX10_see_51 rfl rfl ?_
          refine s_getR (j := 59) E rfl rfl f_X10_99 dX10_see_52 ?_
          refine g_iconst (v := 3) dX10_see_55 (by decide) ?_
          refine g_aload_n dX10_see_56 rfl rfl ?_
          refine s_getI (k := 0) (j := 58) E hL rfl rfl f_X10_291 dX10_see_57 ?_
          intro v9 hL
          refine g_imul dX10_see_60 ?_
          refine g_iload_n dX10_see_61 rfl rfl ?_
          refine g_none 1 ?_
          refine s_iast (k := 25) E hL rfl dX10_see_62 ?_
          intro w10 hL
          refine g_aload_n dX10_see_63 rfl rfl ?_
          refine s_getR (j := 59) E rfl rfl f_X10_99 dX10_see_64 ?_
          refine g_iconst (v := 3) dX10_see_67 (by decide) ?_
          refine g_aload_n dX10_see_68 rfl rfl ?_
          refine s_getI (k := 0) (j := 58) E hL rfl rfl f_X10_291 dX10_see_69 ?_
          intro v11 hL
          refine g_imul dX10_see_72 ?_
          refine g_iconst (v := 1) dX10_see_73 (by decide) ?_
          refine g_iadd dX10_see_74 ?_
          refine g_iload_n dX10_see_75 rfl rfl ?_
          refine g_none 2 ?_
          refine s_iast (k := 25) E hL rfl dX10_see_76 ?_
          intro w12 hL
          refine g_aload_n dX10_see_77 rfl rfl ?_
          refine s_getR (j := 59) E rfl rfl f_X10_99 dX10_see_78 ?_
          refine g_iconst (v := 3) dX10_see_81 (by decide) ?_
          refine g_aload_n dX10_see_82 rfl rfl ?_
          refine s_getI (k := 0) (j := 58) E hL rfl rfl f_X10_291 dX10_see_83 ?_
          intro v13 hL
          refine g_imul dX10_see_86 ?_
          refine g_iconst (v := 2) dX10_see_87 (by decide) ?_
          refine g_iadd dX10_see_88 ?_
          refine g_iload_n dX10_see_89 rfl rfl ?_
          refine g_none 3 ?_
          refine s_iast (k := 25) E hL rfl dX10_see_90 ?_
          intro w14 hL
          refine g_aload_n dX10_see_91 rfl rfl ?_
          refine g_dup dX10_see_92 rfl ?_
          refine s_getI (k := 0) (j := 58) E hL rfl rfl f_X10_291 dX10_see_93 ?_
          intro v15 hL
          refine g_iconst (v := 1) dX10_see_96 (by decide) ?_
          refine g_iadd dX10_see_97 ?_
          refine s_putI (k := 0) (j := 58) E hL rfl rfl (by decide) fw_X10_291 rfl rfl dX10_see_98 ?_
          intro w16 hL
          refine g_aload_n dX10_see_101 rfl rfl ?_
          refine g_none 0 ?_
          refine s_getI (k := 0) (j := 58) E hL rfl rfl f_X10_291 dX10_see_102 ?_
          intro v17 hL
          obtain rfl := Option.some.inj hL
          exact g_iret rfl dX10_see_105
        · rw [if_pos q18] at hL
          refine g_none 1 ?_
          refine g_none 2 ?_
          refine g_none 3 ?_
          exact J_X10_see_45_ok E hL 
  · rw [if_pos q21] at hL
    refine g_none 0 ?_
    refine g_none 1 ?_
    refine g_none 2 ?_
    refine g_none 3 ?_
    refine g_iconst (v := 0) dX10_see_13 (by decide) ?_
    obtain rfl := Option.some.inj hL
    exact g_iret rfl dX10_see_14
def L_X10_forget (w : wS) : Option (wS) :=
  xB (xPut w 0 (0)) fun w1 => xB (xPut w1 58 (0)) fun w2 => some w2
set_option maxRecDepth 20000 in
theorem C_X10_forget {G : aG} {Hf : wS → aH} {b : Nat} {w : wS} {r : wS} (E : Emb Hf b 0 tbM) (hL : L_X10_forget  w = some r) : AC G M_X10_forget [.ref (b + 0)] (Hf w) (.inl none, Hf r) := by
  unfold L_X10_forget at hL
  refine AC.of (by decide) rfl (Nat.le_of_ble_eq_true rfl) ?_
  show AG G M_X10_forget 0 [some (.ref (b + 0))] [] _ _
  refine g_aload_n dX10_forget_0 rfl rfl ?_
  refine g_iconst (v := 0) dX10_forget_1 (by decide) ?_
  refine s_putI (k := 0) (j := 0) E hL rfl rfl (by decide) fw_X10_120 rfl rfl dX10_forget_2 ?_
  intro w1 hL
  refine g_aload_n dX10_forget_5 rfl rfl ?_
  refine g_none 0 ?_
  refine g_iconst (v := 0) dX10_forget_6 (by decide) ?_
  refine s_putI (k := 0) (j := 58) E hL rfl rfl (by decide) fw_X10_291 rfl rfl dX10_forget_7 ?_
  intro w2 hL
  obtain rfl := Option.some.inj hL
  exact g_vret rfl dX10_forget_10
def J_X10_isSeen_106 (kh2 : Int32 → wS → Option (Int32 × wS)) (ke81 : wS → Option (Int32 × wS)) (ke112 : wS → Option (Int32 × wS)) (x1 : Int32) (w : wS) : Option (Int32 × wS) :=
  kh2 ((x1 + 1)) w
set_option maxRecDepth 20000 in
theorem J_X10_isSeen_106_ok {G : aG} {Hf : wS → aH} {b : Nat} {kh2 : Int32 → wS → Option (Int32 × wS)} {ke81 : wS → Option (Int32 × wS)} {ke112 : wS → Option (Int32 × wS)} {x1 : Int32} {w : wS} {r : Int32 × wS} (E : Emb Hf b 0 tbM) (hL : J_X10_isSeen_106 kh2 ke81 ke112 x1 w = some r) (Hkh2 : ∀ (z0 : Int32) (w : wS), kh2 z0 w = some r → AG G M_X10_isSeen 2 [some (.ref (b + 0)), some (.int (z0)), none] [] (Hf w) (.inl (some (.int r.1)), Hf r.2)) (Hke81 : ∀ (w : wS), ke81  w = some r → AG G M_X10_isSeen 81 [none, none, none] [] (Hf w) (.inl (some (.int r.1)), Hf r.2)) (Hke112 : ∀ (w : wS), ke112  w = some r → AG G M_X10_isSeen 112 [none, none, none] [] (Hf w) (.inl (some (.int r.1)), Hf r.2)) : AG G M_X10_isSeen 106 [some (.ref (b + 0)), some (.int (x1)), none] [] (Hf w) (.inl (some (.int r.1)), Hf r.2) := by
  unfold J_X10_isSeen_106 at hL
  refine g_iincV (v := (x1 + 1)) dX10_isSeen_106 rfl rfl (by decide) rfl ?_
  refine g_goto (tgt := 2) dX10_isSeen_109 (by decide) ?_
  exact Hkh2 _ _ hL
def J_X10_isSeen_83 (kh16 : Int32 → Int32 → wS → Option (Int32 × wS)) (ke81 : wS → Option (Int32 × wS)) (ke89 : Int32 → wS → Option (Int32 × wS)) (x1 : Int32) (x2 : Int32) (w : wS) : Option (Int32 × wS) :=
  kh16 (x1) ((x2 + 1)) w
set_option maxRecDepth 20000 in
theorem J_X10_isSeen_83_ok {G : aG} {Hf : wS → aH} {b : Nat} {kh16 : Int32 → Int32 → wS → Option (Int32 × wS)} {ke81 : wS → Option (Int32 × wS)} {ke89 : Int32 → wS → Option (Int32 × wS)} {x1 : Int32} {x2 : Int32} {w : wS} {r : Int32 × wS} (E : Emb Hf b 0 tbM) (hL : J_X10_isSeen_83 kh16 ke81 ke89 x1 x2 w = some r) (Hkh16 : ∀ (z0 : Int32) (z1 : Int32) (w : wS), kh16 z0 z1 w = some r → AG G M_X10_isSeen 16 [some (.ref (b + 0)), some (.int (z0)), some (.int (z1))] [] (Hf w) (.inl (some (.int r.1)), Hf r.2)) (Hke81 : ∀ (w : wS), ke81  w = some r → AG G M_X10_isSeen 81 [none, none, none] [] (Hf w) (.inl (some (.int r.1)), Hf r.2)) (Hke89 : ∀ (z0 : Int32) (w : wS), ke89 z0 w = some r → AG G M_X10_isSeen 89 [some (.ref (b + 0)), some (.int (z0)), none] [] (Hf w) (.inl (some (.int r.1)), Hf r.2)) : AG G M_X10_isSeen 83 [some (.ref (b + 0)), some (.int (x1)), some (.int (x2))] [] (Hf w) (.inl (some (.int r.1)), Hf r.2) := by
  unfold J_X10_isSeen_83 at hL
  refine g_iincV (v := (x2 + 1)) dX10_isSeen_83 rfl rfl (by decide) rfl ?_
  refine g_goto (tgt := 16) dX10_isSeen_86 (by decide) ?_
  exact Hkh16 _ _ _ hL
def B_X10_isSeen_16 (kh16 : Int32 → Int32 → wS → Option (Int32 × wS)) (ke81 : wS → Option (Int32 × wS)) (ke89 : Int32 → wS → Option (Int32 × wS)) (x1 : Int32) (x2 : Int32) (w : wS) : Option (Int32 × wS) :=
  xB (xGet w 58) fun v1 => if v1 ≤ x2 then ke89 (x1) w else xB (xAld w 25 24 (((3 * x2) + 1))) fun v2 => if v2 = x1 then xB (xAld w 25 24 ((3 * x2))) fun v3 => xB (xAld w 16 66 ((27 + v3))) fun v4 => xB (xAld w 25 24 ((3 * x2))) fun v5 => xB (xAld w 20 6 (v5)) fun v6 => xB (xAld w 25 24 (((3 * x2) + 2))) fun v7 => if (v4 + v6) = v7 then J_X10_isSeen_83 kh16 ke81 ke89 (x1) (x2) w else ke81  w else J_X10_isSeen_83 kh16 ke81 ke89 (x1) (x2) w
set_option maxRecDepth 20000 in
theorem B_X10_isSeen_16_ok {G : aG} {Hf : wS → aH} {b : Nat} {kh16 : Int32 → Int32 → wS → Option (Int32 × wS)} {ke81 : wS → Option (Int32 × wS)} {ke89 : Int32 → wS → Option (Int32 × wS)} {x1 : Int32} {x2 : Int32} {w : wS} {r : Int32 × wS} (E : Emb Hf b 0 tbM) (hL : B_X10_isSeen_16 kh16 ke81 ke89 x1 x2 w = some r) (Hkh16 : ∀ (z0 : Int32) (z1 : Int32) (w : wS), kh16 z0 z1 w = some r → AG G M_X10_isSeen 16 [some (.ref (b + 0)), some (.int (z0)), some (.int (z1))] [] (Hf w) (.inl (some (.int r.1)), Hf r.2)) (Hke81 : ∀ (w : wS), ke81  w = some r → AG G M_X10_isSeen 81 [none, none, none] [] (Hf w) (.inl (some (.int r.1)), Hf r.2)) (Hke89 : ∀ (z0 : Int32) (w : wS), ke89 z0 w = some r → AG G M_X10_isSeen 89 [some (.ref (b + 0)), some (.int (z0)), none] [] (Hf w) (.inl (some (.int r.1)), Hf r.2)) : AG G M_X10_isSeen 16 [some (.ref (b + 0)), some (.int (x1)), some (.int (x2))] [] (Hf w) (.inl (some (.int r.1)), Hf r.2) := by
  unfold B_X10_isSeen_16 at hL
  refine g_iload_n dX10_isSeen_16 rfl rfl ?_
  refine g_aload_n dX10_isSeen_17 rfl rfl ?_
  refine s_getI (k := 0) (j := 58) E hL rfl rfl f_X10_291 dX10_isSeen_18 ?_
  intro v1 hL
  refine g_icmp_ge (tgt := 89) dX10_isSeen_21 (by decide) (fun q10 => ?_) (fun q10 => ?_)
  · rw [if_pos q10] at hL
    refine g_none 2 ?_
    exact Hke89 _ _ hL
  · rw [if_neg q10] at hL
    refine g_aload_n dX10_isSeen_24 rfl rfl ?_
    refine s_getR (j := 59) E rfl rfl f_X10_99 dX10_isSeen_25 ?_
    refine g_iconst (v := 3) dX10_isSeen_28 (by decide) ?_
    refine g_iload_n dX10_isSeen_29 rfl rfl ?_
    refine g_imul dX10_isSeen_30 ?_
    refine g_iconst (v := 1) dX10_isSeen_31 (by decide) ?_
    refine g_iadd dX10_isSeen_32 ?_
    refine s_iald (k := 25) E hL rfl dX10_isSeen_33 ?_
    intro v2 hL
    refine g_iload_n dX10_isSeen_34 rfl rfl ?_
    refine g_icmp_ne (tgt := 83) dX10_isSeen_35 (by decide) (fun q9 => ?_) (fun q9 => ?_)
    · rw [if_neg q9] at hL
      exact J_X10_isSeen_83_ok E hL Hkh16 Hke81 Hke89
    · rw [if_pos q9] at hL
      refine g_aload_n dX10_isSeen_38 rfl rfl ?_
      refine s_getR (j := 41) E rfl rfl f_X10_69 dX10_isSeen_39 ?_
      refine g_bipush (v := 27) dX10_isSeen_42 (by decide) ?_
      refine g_aload_n dX10_isSeen_44 rfl rfl ?_
      refine s_getR (j := 59) E rfl rfl f_X10_99 dX10_isSeen_45 ?_
      refine g_iconst (v := 3) dX10_isSeen_48 (by decide) ?_
      refine g_iload_n dX10_isSeen_49 rfl rfl ?_
      refine g_imul dX10_isSeen_50 ?_
      refine s_iald (k := 25) E hL rfl dX10_isSeen_51 ?_
      intro v3 hL
      refine g_iadd dX10_isSeen_52 ?_
      refine s_iald (k := 16) E hL rfl dX10_isSeen_53 ?_
      intro v4 hL
      refine g_aload_n dX10_isSeen_54 rfl rfl ?_
      refine s_getR (j := 46) E rfl rfl f_X10_81 dX10_isSeen_55 ?_
      refine g_aload_n dX10_isSeen_58 rfl rfl ?_
      refine s_getR (j := 59) E rfl rfl f_X10_99 dX10_isSeen_59 ?_
      refine g_iconst (v := 3) dX10_isSeen_62 (by decide) ?_
      refine g_iload_n dX10_isSeen_63 rfl rfl ?_
      refine g_imul dX10_isSeen_64 ?_
      refine s_iald (k := 25) E hL rfl dX10_isSeen_65 ?_
      intro v5 hL
      refine s_iald (k := 20) E hL rfl dX10_isSeen_66 ?_
      intro v6 hL
      refine g_iadd dX10_isSeen_67 ?_
      refine g_aload_n dX10_isSeen_68 rfl rfl ?_
      refine s_getR (j := 59) E rfl rfl f_X10_99 dX10_isSeen_69 ?_
      refine g_iconst (v := 3) dX10_isSeen_72 (by decide) ?_
      refine g_iload_n dX10_isSeen_73 rfl rfl ?_
      refine g_imul dX10_isSeen_74 ?_
      refine g_iconst (v := 2) dX10_isSeen_75 (by decide) ?_
      refine g_iadd dX10_isSeen_76 ?_
      refine s_iald (k := 25) E hL rfl dX10_isSeen_77 ?_
      intro v7 hL
      refine g_icmp_eq (tgt := 83) dX10_isSeen_78 (by decide) (fun q8 => ?_) (fun q8 => ?_)
      · rw [if_pos q8] at hL
        exact J_X10_isSeen_83_ok E hL Hkh16 Hke81 Hke89
      · rw [if_neg q8] at hL
        refine g_none 0 ?_
        refine g_none 1 ?_
        refine g_none 2 ?_
        exact Hke81  _ hL
def P_X10_isSeen_16 (ke81 : wS → Option (Int32 × wS)) (ke89 : Int32 → wS → Option (Int32 × wS)) (n : Nat) (x1 : Int32) (x2 : Int32) (w : wS) : Option (Int32 × wS) :=
  xLoop (fun (kk : Int32 × Int32 × wS → Option (Int32 × wS)) σ => B_X10_isSeen_16 (fun x1 x2 w => kk (x1, x2, w)) ke81 ke89 (σ.1) (σ.2.1) (σ.2.2)) n (x1, x2, w)
theorem P_X10_isSeen_16_ok {G : aG} {Hf : wS → aH} {b : Nat} {ke81 : wS → Option (Int32 × wS)} {ke89 : Int32 → wS → Option (Int32 × wS)} {n : Nat} {x1 : Int32} {x2 : Int32} {w : wS} {r : Int32 × wS} (E : Emb Hf b 0 tbM) (hL : P_X10_isSeen_16 ke81 ke89 n x1 x2 w = some r) (Hke81 : ∀ (w : wS), ke81  w = some r → AG G M_X10_isSeen 81 [none, none, none] [] (Hf w) (.inl (some (.int r.1)), Hf r.2)) (Hke89 : ∀ (z0 : Int32) (w : wS), ke89 z0 w = some r → AG G M_X10_isSeen 89 [some (.ref (b + 0)), some (.int (z0)), none] [] (Hf w) (.inl (some (.int r.1)), Hf r.2)) : AG G M_X10_isSeen 16 [some (.ref (b + 0)), some (.int (x1)), some (.int (x2))] [] (Hf w) (.inl (some (.int r.1)), Hf r.2) :=
  xLoop_ok (Q := fun (σ : Int32 × Int32 × wS) => AG G M_X10_isSeen 16 [some (.ref (b + 0)), some (.int (σ.1)), some (.int (σ.2.1))] [] (Hf σ.2.2) (.inl (some (.int r.1)), Hf r.2)) (fun kk hk σ hσ => B_X10_isSeen_16_ok E hσ (fun x1 x2 w h9 => hk (x1, x2, w) h9) Hke81 Hke89) n (x1, x2, w) hL
def B_X10_isSeen_2 (kh2 : Int32 → wS → Option (Int32 × wS)) (ke81 : wS → Option (Int32 × wS)) (ke112 : wS → Option (Int32 × wS)) (x1 : Int32) (w : wS) : Option (Int32 × wS) :=
  if 12 < x1 then ke112  w else xB (L_X10_dayGoes (33) w) fun w11 => P_X10_isSeen_16 (fun w12 => ke81  w12) (fun z13 w14 => if z13 = 2 then xB (xCopies 20 26 6 w14) fun w15 => J_X10_isSeen_106 kh2 ke81 ke112 (z13) w15 else J_X10_isSeen_106 kh2 ke81 ke112 (z13) w14) 5000 (x1) (0) w11
set_option maxRecDepth 20000 in
theorem B_X10_isSeen_2_ok {G : aG} {Hf : wS → aH} {b : Nat} {kh2 : Int32 → wS → Option (Int32 × wS)} {ke81 : wS → Option (Int32 × wS)} {ke112 : wS → Option (Int32 × wS)} {x1 : Int32} {w : wS} {r : Int32 × wS} (E : Emb Hf b 0 tbM) (hL : B_X10_isSeen_2 kh2 ke81 ke112 x1 w = some r) (Hkh2 : ∀ (z0 : Int32) (w : wS), kh2 z0 w = some r → AG G M_X10_isSeen 2 [some (.ref (b + 0)), some (.int (z0)), none] [] (Hf w) (.inl (some (.int r.1)), Hf r.2)) (Hke81 : ∀ (w : wS), ke81  w = some r → AG G M_X10_isSeen 81 [none, none, none] [] (Hf w) (.inl (some (.int r.1)), Hf r.2)) (Hke112 : ∀ (w : wS), ke112  w = some r → AG G M_X10_isSeen 112 [none, none, none] [] (Hf w) (.inl (some (.int r.1)), Hf r.2)) : AG G M_X10_isSeen 2 [some (.ref (b + 0)), some (.int (x1)), none] [] (Hf w) (.inl (some (.int r.1)), Hf r.2) := by
  unfold B_X10_isSeen_2 at hL
  refine g_iload_n dX10_isSeen_2 rfl rfl ?_
  refine g_bipush (v := 12) dX10_isSeen_3 (by decide) ?_
  refine g_icmp_gt (tgt := 112) dX10_isSeen_5 (by decide) (fun q17 => ?_) (fun q17 => ?_)
  · rw [if_pos q17] at hL
    refine g_none 0 ?_
    refine g_none 1 ?_
    exact Hke112  _ hL
  · rw [if_neg q17] at hL
    refine g_aload_n dX10_isSeen_8 rfl rfl ?_
    refine g_bipush (v := 33) dX10_isSeen_9 (by decide) ?_
    obtain ⟨w11, hc, hL⟩ := xB_some hL
    refine g_callV (M' := M_X10_dayGoes) (as := [.int (33)]) (v := none) l_X10_358 kV_X10_dayGoes (by decide) (C_X10_dayGoes E hc) rfl (by have := E.1; omega) (E.2.1 _ 0 _ rfl) ⟨_, _, rfl⟩ (Nat.le_of_ble_eq_true rfl) dX10_isSeen_11 ?_
    refine g_iconst (v := 0) dX10_isSeen_14 (by decide) ?_
    refine g_istore_n (i := 2) dX10_isSeen_15 rfl (by decide) rfl ?_
    refine P_X10_isSeen_16_ok E hL ?_ ?_
    · intro w12 hL
      exact Hke81  _ hL
    · intro z13 w14 hL
      refine g_iload_n dX10_isSeen_89 rfl rfl ?_
      refine g_iconst (v := 2) dX10_isSeen_90 (by decide) ?_
      refine g_icmp_ne (tgt := 106) dX10_isSeen_91 (by decide) (fun q16 => ?_) (fun q16 => ?_)
      · rw [if_neg q16] at hL
        exact J_X10_isSeen_106_ok E hL Hkh2 Hke81 Hke112
      · rw [if_pos q16] at hL
        refine g_aload_n dX10_isSeen_94 rfl rfl ?_
        refine g_aload_n dX10_isSeen_95 rfl rfl ?_
        refine s_getR (j := 46) E rfl rfl f_X10_81 dX10_isSeen_96 ?_
        refine g_aload_n dX10_isSeen_99 rfl rfl ?_
        refine s_getR (j := 60) E rfl rfl f_X10_102 dX10_isSeen_100 ?_
        obtain ⟨w15, hc, hL⟩ := xB_some hL
        refine g_callV (M' := M_X10_copies) (as := [.ref (b + 20), .ref (b + 26)]) (v := none) l_X10_284 kV_X10_copies (by decide) (C_copies E (ka := 20) (kb := 26) (na := 6) (nb := 6) rfl rfl (by decide) hc) rfl (by have := E.1; omega) (E.2.1 _ 0 _ rfl) ⟨_, _, rfl⟩ (Nat.le_of_ble_eq_true rfl) dX10_isSeen_103 ?_
        exact J_X10_isSeen_106_ok E hL Hkh2 Hke81 Hke112
def P_X10_isSeen_2 (ke81 : wS → Option (Int32 × wS)) (ke112 : wS → Option (Int32 × wS)) (n : Nat) (x1 : Int32) (w : wS) : Option (Int32 × wS) :=
  xLoop (fun (kk : Int32 × wS → Option (Int32 × wS)) σ => B_X10_isSeen_2 (fun x1 w => kk (x1, w)) ke81 ke112 (σ.1) (σ.2)) n (x1, w)
theorem P_X10_isSeen_2_ok {G : aG} {Hf : wS → aH} {b : Nat} {ke81 : wS → Option (Int32 × wS)} {ke112 : wS → Option (Int32 × wS)} {n : Nat} {x1 : Int32} {w : wS} {r : Int32 × wS} (E : Emb Hf b 0 tbM) (hL : P_X10_isSeen_2 ke81 ke112 n x1 w = some r) (Hke81 : ∀ (w : wS), ke81  w = some r → AG G M_X10_isSeen 81 [none, none, none] [] (Hf w) (.inl (some (.int r.1)), Hf r.2)) (Hke112 : ∀ (w : wS), ke112  w = some r → AG G M_X10_isSeen 112 [none, none, none] [] (Hf w) (.inl (some (.int r.1)), Hf r.2)) : AG G M_X10_isSeen 2 [some (.ref (b + 0)), some (.int (x1)), none] [] (Hf w) (.inl (some (.int r.1)), Hf r.2) :=
  xLoop_ok (Q := fun (σ : Int32 × wS) => AG G M_X10_isSeen 2 [some (.ref (b + 0)), some (.int (σ.1)), none] [] (Hf σ.2) (.inl (some (.int r.1)), Hf r.2)) (fun kk hk σ hσ => B_X10_isSeen_2_ok E hσ (fun x1 w h9 => hk (x1, w) h9) Hke81 Hke112) n (x1, w) hL
def L_X10_isSeen (w : wS) : Option (Int32 × wS) :=
  P_X10_isSeen_2 (fun w18 => some (0, w18)) (fun w19 => some (1, w19)) 5000 (1) w
set_option maxRecDepth 20000 in
theorem C_X10_isSeen {G : aG} {Hf : wS → aH} {b : Nat} {w : wS} {r : Int32 × wS} (E : Emb Hf b 0 tbM) (hL : L_X10_isSeen  w = some r) : AC G M_X10_isSeen [.ref (b + 0)] (Hf w) (.inl (some (.int r.1)), Hf r.2) := by
  unfold L_X10_isSeen at hL
  refine AC.of (by decide) rfl (Nat.le_of_ble_eq_true rfl) ?_
  show AG G M_X10_isSeen 0 [some (.ref (b + 0)), none, none] [] _ _
  refine g_iconst (v := 1) dX10_isSeen_0 (by decide) ?_
  refine g_istore_n (i := 1) dX10_isSeen_1 rfl (by decide) rfl ?_
  refine P_X10_isSeen_2_ok E hL ?_ ?_
  · intro w18 hL
    refine g_iconst (v := 0) dX10_isSeen_81 (by decide) ?_
    obtain rfl := Option.some.inj hL
    exact g_zret rfl (by decide) dX10_isSeen_82
  · intro w19 hL
    refine g_iconst (v := 1) dX10_isSeen_112 (by decide) ?_
    obtain rfl := Option.some.inj hL
    exact g_zret rfl (by decide) dX10_isSeen_113
def L_X10_isGuess (a1 : Int32) (w : wS) : Option (Int32 × wS) :=
  xB (xDiv (a1) (61)) fun v1 => xB (xAld w 2 8 (v1)) fun v2 => xB (xRem (a1) (61)) fun v3 => if v3 = v2 then some (0, w) else xB (xRem (a1) (61)) fun v4 => xB (xAst w 2 8 (v1) (v4)) fun w5 => xB (L_X10_tries  w5) fun w6 => xB2 (L_X10_isSeen  w6) fun v7 w8 => xB (xAst w8 2 8 (v1) (v2)) fun w9 => xB (xBool (v7)) fun v10 => some (v10, w9)
set_option maxRecDepth 20000 in
theorem C_X10_isGuess {G : aG} {Hf : wS → aH} {b : Nat} {a1 : Int32} {w : wS} {r : Int32 × wS} (E : Emb Hf b 0 tbM) (hL : L_X10_isGuess a1 w = some r) : AC G M_X10_isGuess [.ref (b + 0), .int a1] (Hf w) (.inl (some (.int r.1)), Hf r.2) := by
  unfold L_X10_isGuess at hL
  refine AC.of (by decide) rfl (Nat.le_of_ble_eq_true rfl) ?_
  show AG G M_X10_isGuess 0 [some (.ref (b + 0)), some (.int (a1)), none, none, none] [] _ _
  refine g_iload_n dX10_isGuess_0 rfl rfl ?_
  refine g_bipush (v := 61) dX10_isGuess_1 (by decide) ?_
  refine s_idiv hL dX10_isGuess_3 ?_
  intro v1 hL
  refine g_istore_n (i := 2) dX10_isGuess_4 rfl (by decide) rfl ?_
  refine g_aload_n dX10_isGuess_5 rfl rfl ?_
  refine s_getR (j := 7) E rfl rfl f_X10_23 dX10_isGuess_6 ?_
  refine g_iload_n dX10_isGuess_9 rfl rfl ?_
  refine s_iald (k := 2) E hL rfl dX10_isGuess_10 ?_
  intro v2 hL
  refine g_istore_n (i := 3) dX10_isGuess_11 rfl (by decide) rfl ?_
  refine g_iload_n dX10_isGuess_12 rfl rfl ?_
  refine g_bipush (v := 61) dX10_isGuess_13 (by decide) ?_
  refine s_irem hL dX10_isGuess_15 ?_
  intro v3 hL
  refine g_iload_n dX10_isGuess_16 rfl rfl ?_
  refine g_icmp_ne (tgt := 22) dX10_isGuess_17 (by decide) (fun q11 => ?_) (fun q11 => ?_)
  · rw [if_neg q11] at hL
    refine g_aload_n dX10_isGuess_22 rfl rfl ?_
    refine s_getR (j := 7) E rfl rfl f_X10_23 dX10_isGuess_23 ?_
    refine g_iload_n dX10_isGuess_26 rfl rfl ?_
    refine g_iload_n dX10_isGuess_27 rfl rfl ?_
    refine g_none 1 ?_
    refine g_bipush (v := 61) dX10_isGuess_28 (by decide) ?_
    refine s_irem hL dX10_isGuess_30 ?_
    intro v4 hL
    refine s_iast (k := 2) E hL rfl dX10_isGuess_31 ?_
    intro w5 hL
    refine g_aload_n dX10_isGuess_32 rfl rfl ?_
    obtain ⟨w6, hc, hL⟩ := xB_some hL
    refine g_callV (M' := M_X10_tries) (as := []) (v := none) l_X10_388 kV_X10_tries (by decide) (C_X10_tries E hc) rfl (by have := E.1; omega) (E.2.1 _ 0 _ rfl) ⟨_, _, rfl⟩ (Nat.le_of_ble_eq_true rfl) dX10_isGuess_33 ?_
    refine g_aload_n dX10_isGuess_36 rfl rfl ?_
    obtain ⟨v7, w8, hc, hL⟩ := xB2_some hL
    refine g_callV (M' := M_X10_isSeen) (as := []) (v := some (.int (v7))) l_X10_409 kV_X10_isSeen (by decide) (C_X10_isSeen E hc) rfl (by have := E.1; omega) (E.2.1 _ 0 _ rfl) ⟨_, _, rfl⟩ (Nat.le_of_ble_eq_true rfl) dX10_isGuess_37 ?_
    refine g_istore (i := 4) dX10_isGuess_40 (by decide) rfl ?_
    refine g_aload_n dX10_isGuess_42 rfl rfl ?_
    refine g_none 0 ?_
    refine s_getR (j := 7) E rfl rfl f_X10_23 dX10_isGuess_43 ?_
    refine g_iload_n dX10_isGuess_46 rfl rfl ?_
    refine g_none 2 ?_
    refine g_iload_n dX10_isGuess_47 rfl rfl ?_
    refine g_none 3 ?_
    refine s_iast (k := 2) E hL rfl dX10_isGuess_48 ?_
    intro w9 hL
    refine g_iload dX10_isGuess_49 rfl ?_
    refine g_none 4 ?_
    obtain ⟨v10, hb, hR⟩ := xB_some hL
    obtain ⟨hz, hb2⟩ := xBool_some hb
    clear hL
    subst hz
    obtain rfl := Option.some.inj hR
    exact g_zret rfl (narrow_bool hb2) dX10_isGuess_51
  · rw [if_pos q11] at hL
    refine g_none 0 ?_
    refine g_none 1 ?_
    refine g_none 2 ?_
    refine g_none 3 ?_
    refine g_iconst (v := 0) dX10_isGuess_20 (by decide) ?_
    obtain rfl := Option.some.inj hL
    exact g_zret rfl (by decide) dX10_isGuess_21
def J_X10_habits_107 (y0 : Int32) (w : wS) : Option (Int32 × wS) :=
  some (y0, w)
set_option maxRecDepth 20000 in
theorem J_X10_habits_107_ok {G : aG} {Hf : wS → aH} {b : Nat} {y0 : Int32} {w : wS} {r : Int32 × wS} (E : Emb Hf b 0 tbM) (hL : J_X10_habits_107  y0 w = some r) : AG G M_X10_habits 107 [none, none, none, none, none] [.int (y0)] (Hf w) (.inl (some (.int r.1)), Hf r.2) := by
  unfold J_X10_habits_107 at hL
  obtain rfl := Option.some.inj hL
  exact g_iret rfl dX10_habits_107
def J_X10_habits_92 (kh45 : Int32 → Int32 → Int32 → Int32 → wS → Option (Int32 × wS)) (ke98 : Int32 → Int32 → Int32 → wS → Option (Int32 × wS)) (x1 : Int32) (x2 : Int32) (x3 : Int32) (x4 : Int32) (w : wS) : Option (Int32 × wS) :=
  kh45 (x1) (x2) (x3) ((x4 + 1)) w
set_option maxRecDepth 20000 in
theorem J_X10_habits_92_ok {G : aG} {Hf : wS → aH} {b : Nat} {kh45 : Int32 → Int32 → Int32 → Int32 → wS → Option (Int32 × wS)} {ke98 : Int32 → Int32 → Int32 → wS → Option (Int32 × wS)} {x1 : Int32} {x2 : Int32} {x3 : Int32} {x4 : Int32} {w : wS} {r : Int32 × wS} (E : Emb Hf b 0 tbM) (hL : J_X10_habits_92 kh45 ke98 x1 x2 x3 x4 w = some r) (Hkh45 : ∀ (z0 : Int32) (z1 : Int32) (z2 : Int32) (z3 : Int32) (w : wS), kh45 z0 z1 z2 z3 w = some r → AG G M_X10_habits 45 [some (.ref (b + 0)), some (.int (z0)), some (.int (z1)), some (.int (z2)), some (.int (z3))] [] (Hf w) (.inl (some (.int r.1)), Hf r.2)) (Hke98 : ∀ (z0 : Int32) (z1 : Int32) (z2 : Int32) (w : wS), ke98 z0 z1 z2 w = some r → AG G M_X10_habits 98 [none, some (.int (z0)), some (.int (z1)), some (.int (z2)), none] [] (Hf w) (.inl (some (.int r.1)), Hf r.2)) : AG G M_X10_habits 92 [some (.ref (b + 0)), some (.int (x1)), some (.int (x2)), some (.int (x3)), some (.int (x4))] [] (Hf w) (.inl (some (.int r.1)), Hf r.2) := by
  unfold J_X10_habits_92 at hL
  refine g_iincV (v := (x4 + 1)) dX10_habits_92 rfl rfl (by decide) rfl ?_
  refine g_goto (tgt := 45) dX10_habits_95 (by decide) ?_
  exact Hkh45 _ _ _ _ _ hL
def B_X10_habits_45 (kh45 : Int32 → Int32 → Int32 → Int32 → wS → Option (Int32 × wS)) (ke98 : Int32 → Int32 → Int32 → wS → Option (Int32 × wS)) (x1 : Int32) (x2 : Int32) (x3 : Int32) (x4 : Int32) (w : wS) : Option (Int32 × wS) :=
  xB (xGet w 1) fun v1 => if (61 * v1) ≤ x4 then ke98 (x1) (x2) (x3) w else xB2 (L_X10_isGuess (x4) w) fun v2 w3 => if v2 = 0 then J_X10_habits_92 kh45 ke98 (x1) (x2) (x3) (x4) w3 else if x3 = (-1) then xB (xDiv (x4) (61)) fun v4 => xB (xRem (x4) (61)) fun v5 => J_X10_habits_92 kh45 ke98 (x1) ((x2 + 1)) (((v4 * 100) + v5)) (x4) w3 else J_X10_habits_92 kh45 ke98 (x1) ((x2 + 1)) (x3) (x4) w3
set_option maxRecDepth 20000 in
theorem B_X10_habits_45_ok {G : aG} {Hf : wS → aH} {b : Nat} {kh45 : Int32 → Int32 → Int32 → Int32 → wS → Option (Int32 × wS)} {ke98 : Int32 → Int32 → Int32 → wS → Option (Int32 × wS)} {x1 : Int32} {x2 : Int32} {x3 : Int32} {x4 : Int32} {w : wS} {r : Int32 × wS} (E : Emb Hf b 0 tbM) (hL : B_X10_habits_45 kh45 ke98 x1 x2 x3 x4 w = some r) (Hkh45 : ∀ (z0 : Int32) (z1 : Int32) (z2 : Int32) (z3 : Int32) (w : wS), kh45 z0 z1 z2 z3 w = some r → AG G M_X10_habits 45 [some (.ref (b + 0)), some (.int (z0)), some (.int (z1)), some (.int (z2)), some (.int (z3))] [] (Hf w) (.inl (some (.int r.1)), Hf r.2)) (Hke98 : ∀ (z0 : Int32) (z1 : Int32) (z2 : Int32) (w : wS), ke98 z0 z1 z2 w = some r → AG G M_X10_habits 98 [none, some (.int (z0)), some (.int (z1)), some (.int (z2)), none] [] (Hf w) (.inl (some (.int r.1)), Hf r.2)) : AG G M_X10_habits 45 [some (.ref (b + 0)), some (.int (x1)), some (.int (x2)), some (.int (x3)), some (.int (x4))] [] (Hf w) (.inl (some (.int r.1)), Hf r.2) := by
  unfold B_X10_habits_45 at hL
  refine g_iload dX10_habits_45 rfl ?_
  refine g_bipush (v := 61) dX10_habits_47 (by decide) ?_
  refine g_aload_n dX10_habits_49 rfl rfl ?_
  refine s_getI (k := 0) (j := 1) E hL rfl rfl f_X10_278 dX10_habits_50 ?_
  intro v1 hL
  refine g_imul dX10_habits_53 ?_
  refine g_icmp_ge (tgt := 98) dX10_habits_54 (by decide) (fun q8 => ?_) (fun q8 => ?_)
  · rw [if_pos q8] at hL
    refine g_none 0 ?_
    refine g_none 4 ?_
    exact Hke98 _ _ _ _ hL
  · rw [if_neg q8] at hL
    refine g_aload_n dX10_habits_57 rfl rfl ?_
    refine g_iload dX10_habits_58 rfl ?_
    obtain ⟨v2, w3, hc, hL⟩ := xB2_some hL
    refine g_callV (M' := M_X10_isGuess) (as := [.int (x4)]) (v := some (.int (v2))) l_X10_412 kV_X10_isGuess (by decide) (C_X10_isGuess E hc) rfl (by have := E.1; omega) (E.2.1 _ 0 _ rfl) ⟨_, _, rfl⟩ (Nat.le_of_ble_eq_true rfl) dX10_habits_60 ?_
    refine g_if_ne (tgt := 69) dX10_habits_63 (by decide) (fun q7 => ?_) (fun q7 => ?_)
    · rw [if_neg q7] at hL
      refine g_iincV (v := (x2 + 1)) dX10_habits_69 rfl rfl (by decide) rfl ?_
      refine g_iload_n dX10_habits_72 rfl rfl ?_
      refine g_iconst (v := (-1)) dX10_habits_73 (by decide) ?_
      refine g_icmp_ne (tgt := 92) dX10_habits_74 (by decide) (fun q6 => ?_) (fun q6 => ?_)
      · rw [if_neg q6] at hL
        exact J_X10_habits_92_ok E hL Hkh45 Hke98
      · rw [if_pos q6] at hL
        refine g_none 3 ?_
        refine g_iload dX10_habits_77 rfl ?_
        refine g_bipush (v := 61) dX10_habits_79 (by decide) ?_
        refine s_idiv hL dX10_habits_81 ?_
        intro v4 hL
        refine g_bipush (v := 100) dX10_habits_82 (by decide) ?_
        refine g_imul dX10_habits_84 ?_
        refine g_iload dX10_habits_85 rfl ?_
        refine g_bipush (v := 61) dX10_habits_87 (by decide) ?_
        refine s_irem hL dX10_habits_89 ?_
        intro v5 hL
        refine g_iadd dX10_habits_90 ?_
        refine g_istore_n (i := 3) dX10_habits_91 rfl (by decide) rfl ?_
        exact J_X10_habits_92_ok E hL Hkh45 Hke98
    · rw [if_pos q7] at hL
      refine g_goto (tgt := 92) dX10_habits_66 (by decide) ?_
      exact J_X10_habits_92_ok E hL Hkh45 Hke98
def P_X10_habits_45 (ke98 : Int32 → Int32 → Int32 → wS → Option (Int32 × wS)) (n : Nat) (x1 : Int32) (x2 : Int32) (x3 : Int32) (x4 : Int32) (w : wS) : Option (Int32 × wS) :=
  xLoop (fun (kk : Int32 × Int32 × Int32 × Int32 × wS → Option (Int32 × wS)) σ => B_X10_habits_45 (fun x1 x2 x3 x4 w => kk (x1, x2, x3, x4, w)) ke98 (σ.1) (σ.2.1) (σ.2.2.1) (σ.2.2.2.1) (σ.2.2.2.2)) n (x1, x2, x3, x4, w)
theorem P_X10_habits_45_ok {G : aG} {Hf : wS → aH} {b : Nat} {ke98 : Int32 → Int32 → Int32 → wS → Option (Int32 × wS)} {n : Nat} {x1 : Int32} {x2 : Int32} {x3 : Int32} {x4 : Int32} {w : wS} {r : Int32 × wS} (E : Emb Hf b 0 tbM) (hL : P_X10_habits_45 ke98 n x1 x2 x3 x4 w = some r) (Hke98 : ∀ (z0 : Int32) (z1 : Int32) (z2 : Int32) (w : wS), ke98 z0 z1 z2 w = some r → AG G M_X10_habits 98 [none, some (.int (z0)), some (.int (z1)), some (.int (z2)), none] [] (Hf w) (.inl (some (.int r.1)), Hf r.2)) : AG G M_X10_habits 45 [some (.ref (b + 0)), some (.int (x1)), some (.int (x2)), some (.int (x3)), some (.int (x4))] [] (Hf w) (.inl (some (.int r.1)), Hf r.2) :=
  xLoop_ok (Q := fun (σ : Int32 × Int32 × Int32 × Int32 × wS) => AG G M_X10_habits 45 [some (.ref (b + 0)), some (.int (σ.1)), some (.int (σ.2.1)), some (.int (σ.2.2.1)), some (.int (σ.2.2.2.1))] [] (Hf σ.2.2.2.2) (.inl (some (.int r.1)), Hf r.2)) (fun kk hk σ hσ => B_X10_habits_45_ok E hσ (fun x1 x2 x3 x4 w h9 => hk (x1, x2, x3, x4, w) h9) Hke98) n (x1, x2, x3, x4, w) hL
def J_X10_habits_37 (y0 : Int32) (w : wS) : Option (Int32 × wS) :=
  some (y0, w)
set_option maxRecDepth 20000 in
theorem J_X10_habits_37_ok {G : aG} {Hf : wS → aH} {b : Nat} {y0 : Int32} {w : wS} {r : Int32 × wS} (E : Emb Hf b 0 tbM) (hL : J_X10_habits_37  y0 w = some r) : AG G M_X10_habits 37 [none, none, none, none, none] [.int (y0)] (Hf w) (.inl (some (.int r.1)), Hf r.2) := by
  unfold J_X10_habits_37 at hL
  obtain rfl := Option.some.inj hL
  exact g_iret rfl dX10_habits_37
def L_X10_habits (a1 : Int32) (w : wS) : Option (Int32 × wS) :=
  xB (xPut w 0 (0)) fun w9 => xB2 (L_X10_isWhat (a1) (2) w9) fun v10 w11 => if v10 = 0 then some (0, w11) else if a1 = 2 then xB (L_X10_tries  w11) fun w17 => xB2 (L_X10_isSeen  w17) fun v18 w19 => if v18 = 0 then J_X10_habits_37  (0) w19 else J_X10_habits_37  (1) w19 else P_X10_habits_45 (fun z12 z13 z14 w15 => if z12 = 0 then J_X10_habits_107  (z13) w15 else J_X10_habits_107  (z14) w15) 5000 (a1) (0) ((-1)) (0) w11
set_option maxRecDepth 20000 in
theorem C_X10_habits {G : aG} {Hf : wS → aH} {b : Nat} {a1 : Int32} {w : wS} {r : Int32 × wS} (E : Emb Hf b 0 tbM) (hL : L_X10_habits a1 w = some r) : AC G M_X10_habits [.ref (b + 0), .int a1] (Hf w) (.inl (some (.int r.1)), Hf r.2) := by
  unfold L_X10_habits at hL
  refine AC.of (by decide) rfl (Nat.le_of_ble_eq_true rfl) ?_
  show AG G M_X10_habits 0 [some (.ref (b + 0)), some (.int (a1)), none, none, none] [] _ _
  refine g_aload_n dX10_habits_0 rfl rfl ?_
  refine g_iconst (v := 0) dX10_habits_1 (by decide) ?_
  refine s_putI (k := 0) (j := 0) E hL rfl rfl (by decide) fw_X10_120 rfl rfl dX10_habits_2 ?_
  intro w9 hL
  refine g_aload_n dX10_habits_5 rfl rfl ?_
  refine g_iload_n dX10_habits_6 rfl rfl ?_
  refine g_iconst (v := 2) dX10_habits_7 (by decide) ?_
  obtain ⟨v10, w11, hc, hL⟩ := xB2_some hL
  refine g_callV (M' := M_X10_isWhat) (as := [.int (a1), .int (2)]) (v := some (.int (v10))) l_X10_373 kV_X10_isWhat (by decide) (C_X10_isWhat E hc) rfl (by have := E.1; omega) (E.2.1 _ 0 _ rfl) ⟨_, _, rfl⟩ (Nat.le_of_ble_eq_true rfl) dX10_habits_8 ?_
  refine g_if_ne (tgt := 16) dX10_habits_11 (by decide) (fun q22 => ?_) (fun q22 => ?_)
  · rw [if_neg q22] at hL
    refine g_iload_n dX10_habits_16 rfl rfl ?_
    refine g_iconst (v := 2) dX10_habits_17 (by decide) ?_
    refine g_icmp_ne (tgt := 38) dX10_habits_18 (by decide) (fun q21 => ?_) (fun q21 => ?_)
    · rw [if_neg q21] at hL
      refine g_iconst (v := 0) dX10_habits_38 (by decide) ?_
      refine g_istore_n (i := 2) dX10_habits_39 rfl (by decide) rfl ?_
      refine g_iconst (v := (-1)) dX10_habits_40 (by decide) ?_
      refine g_istore_n (i := 3) dX10_habits_41 rfl (by decide) rfl ?_
      refine g_iconst (v := 0) dX10_habits_42 (by decide) ?_
      refine g_istore (i := 4) dX10_habits_43 (by decide) rfl ?_
      refine P_X10_habits_45_ok E hL ?_
      · intro z12 z13 z14 w15 hL
        refine g_iload_n dX10_habits_98 rfl rfl ?_
        refine g_none 1 ?_
        refine g_if_ne (tgt := 106) dX10_habits_99 (by decide) (fun q16 => ?_) (fun q16 => ?_)
        · rw [if_neg q16] at hL
          refine g_none 2 ?_
          refine g_iload_n dX10_habits_106 rfl rfl ?_
          refine g_none 3 ?_
          exact J_X10_habits_107_ok E hL 
        · rw [if_pos q16] at hL
          refine g_none 3 ?_
          refine g_iload_n dX10_habits_102 rfl rfl ?_
          refine g_none 2 ?_
          refine g_goto (tgt := 107) dX10_habits_103 (by decide) ?_
          exact J_X10_habits_107_ok E hL 
    · rw [if_pos q21] at hL
      refine g_none 1 ?_
      refine g_aload_n dX10_habits_21 rfl rfl ?_
      obtain ⟨w17, hc, hL⟩ := xB_some hL
      refine g_callV (M' := M_X10_tries) (as := []) (v := none) l_X10_388 kV_X10_tries (by decide) (C_X10_tries E hc) rfl (by have := E.1; omega) (E.2.1 _ 0 _ rfl) ⟨_, _, rfl⟩ (Nat.le_of_ble_eq_true rfl) dX10_habits_22 ?_
      refine g_aload_n dX10_habits_25 rfl rfl ?_
      refine g_none 0 ?_
      obtain ⟨v18, w19, hc, hL⟩ := xB2_some hL
      refine g_callV (M' := M_X10_isSeen) (as := []) (v := some (.int (v18))) l_X10_409 kV_X10_isSeen (by decide) (C_X10_isSeen E hc) rfl (by have := E.1; omega) (E.2.1 _ 0 _ rfl) ⟨_, _, rfl⟩ (Nat.le_of_ble_eq_true rfl) dX10_habits_26 ?_
      refine g_if_eq (tgt := 36) dX10_habits_29 (by decide) (fun q20 => ?_) (fun q20 => ?_)
      · rw [if_pos q20] at hL
        refine g_iconst (v := 0) dX10_habits_36 (by decide) ?_
        exact J_X10_habits_37_ok E hL 
      · rw [if_neg q20] at hL
        refine g_iconst (v := 1) dX10_habits_32 (by decide) ?_
        refine g_goto (tgt := 37) dX10_habits_33 (by decide) ?_
        exact J_X10_habits_37_ok E hL 
  · rw [if_pos q22] at hL
    refine g_none 0 ?_
    refine g_none 1 ?_
    refine g_iconst (v := 0) dX10_habits_14 (by decide) ?_
    obtain rfl := Option.some.inj hL
    exact g_iret rfl dX10_habits_15
def J_X10_next_231 (y0 : Int32) (w : wS) : Option (Int32 × wS) :=
  some (y0, w)
set_option maxRecDepth 20000 in
theorem J_X10_next_231_ok {G : aG} {Hf : wS → aH} {b : Nat} {y0 : Int32} {w : wS} {r : Int32 × wS} (E : Emb Hf b 0 tbM) (hL : J_X10_next_231  y0 w = some r) : AG G M_X10_next 231 [none, none, none, none, none, none, none, none, none, none] [.int (y0)] (Hf w) (.inl (some (.int r.1)), Hf r.2) := by
  unfold J_X10_next_231 at hL
  obtain rfl := Option.some.inj hL
  exact g_iret rfl dX10_next_231
def J_X10_next_215 (kh96 : Int32 → Int32 → Int32 → Int32 → Int32 → wS → Option (Int32 × wS)) (ke221 : Int32 → Int32 → Int32 → wS → Option (Int32 × wS)) (x1 : Int32) (x2 : Int32) (x3 : Int32) (x4 : Int32) (x5 : Int32) (w : wS) : Option (Int32 × wS) :=
  kh96 (x1) (x2) (x3) (x4) ((x5 + 1)) w
set_option maxRecDepth 20000 in
theorem J_X10_next_215_ok {G : aG} {Hf : wS → aH} {b : Nat} {kh96 : Int32 → Int32 → Int32 → Int32 → Int32 → wS → Option (Int32 × wS)} {ke221 : Int32 → Int32 → Int32 → wS → Option (Int32 × wS)} {x1 : Int32} {x2 : Int32} {x3 : Int32} {x4 : Int32} {x5 : Int32} {w : wS} {r : Int32 × wS} (E : Emb Hf b 0 tbM) (hL : J_X10_next_215 kh96 ke221 x1 x2 x3 x4 x5 w = some r) (Hkh96 : ∀ (z0 : Int32) (z1 : Int32) (z2 : Int32) (z3 : Int32) (z4 : Int32) (w : wS), kh96 z0 z1 z2 z3 z4 w = some r → AG G M_X10_next 96 [some (.ref (b + 0)), some (.int (z0)), some (.int (z1)), some (.int (z2)), some (.int (z3)), some (.int (z4)), none, none, none, none] [] (Hf w) (.inl (some (.int r.1)), Hf r.2)) (Hke221 : ∀ (z0 : Int32) (z1 : Int32) (z2 : Int32) (w : wS), ke221 z0 z1 z2 w = some r → AG G M_X10_next 221 [none, some (.int (z0)), none, some (.int (z1)), some (.int (z2)), none, none, none, none, none] [] (Hf w) (.inl (some (.int r.1)), Hf r.2)) : AG G M_X10_next 215 [some (.ref (b + 0)), some (.int (x1)), some (.int (x2)), some (.int (x3)), some (.int (x4)), some (.int (x5)), none, none, none, none] [] (Hf w) (.inl (some (.int r.1)), Hf r.2) := by
  unfold J_X10_next_215 at hL
  refine g_iincV (v := (x5 + 1)) dX10_next_215 rfl rfl (by decide) rfl ?_
  refine g_goto (tgt := 96) dX10_next_218 (by decide) ?_
  exact Hkh96 _ _ _ _ _ _ hL
def J_X10_next_189 (kh111 : Int32 → Int32 → Int32 → Int32 → Int32 → Int32 → Int32 → wS → Option (Int32 × wS)) (ke198 : Int32 → Int32 → Int32 → Int32 → Int32 → Int32 → wS → Option (Int32 × wS)) (x1 : Int32) (x2 : Int32) (x3 : Int32) (x4 : Int32) (x5 : Int32) (x7 : Int32) (y0 : Int32) (y1 : Int32) (w : wS) : Option (Int32 × wS) :=
  kh111 (x1) (x2) (x3) (x4) (x5) ((y0 + y1)) ((x7 + 1)) w
set_option maxRecDepth 20000 in
theorem J_X10_next_189_ok {G : aG} {Hf : wS → aH} {b : Nat} {kh111 : Int32 → Int32 → Int32 → Int32 → Int32 → Int32 → Int32 → wS → Option (Int32 × wS)} {ke198 : Int32 → Int32 → Int32 → Int32 → Int32 → Int32 → wS → Option (Int32 × wS)} {x1 : Int32} {x2 : Int32} {x3 : Int32} {x4 : Int32} {x5 : Int32} {x7 : Int32} {y0 : Int32} {y1 : Int32} {w : wS} {r : Int32 × wS} (E : Emb Hf b 0 tbM) (hL : J_X10_next_189 kh111 ke198 x1 x2 x3 x4 x5 x7 y0 y1 w = some r) (Hkh111 : ∀ (z0 : Int32) (z1 : Int32) (z2 : Int32) (z3 : Int32) (z4 : Int32) (z5 : Int32) (z6 : Int32) (w : wS), kh111 z0 z1 z2 z3 z4 z5 z6 w = some r → AG G M_X10_next 111 [some (.ref (b + 0)), some (.int (z0)), some (.int (z1)), some (.int (z2)), some (.int (z3)), some (.int (z4)), some (.int (z5)), some (.int (z6)), none, none] [] (Hf w) (.inl (some (.int r.1)), Hf r.2)) (Hke198 : ∀ (z0 : Int32) (z1 : Int32) (z2 : Int32) (z3 : Int32) (z4 : Int32) (z5 : Int32) (w : wS), ke198 z0 z1 z2 z3 z4 z5 w = some r → AG G M_X10_next 198 [some (.ref (b + 0)), some (.int (z0)), some (.int (z1)), some (.int (z2)), some (.int (z3)), some (.int (z4)), some (.int (z5)), none, none, none] [] (Hf w) (.inl (some (.int r.1)), Hf r.2)) : AG G M_X10_next 189 [some (.ref (b + 0)), some (.int (x1)), some (.int (x2)), some (.int (x3)), some (.int (x4)), some (.int (x5)), none, some (.int (x7)), none, none] [.int (y1), .int (y0)] (Hf w) (.inl (some (.int r.1)), Hf r.2) := by
  unfold J_X10_next_189 at hL
  refine g_iadd dX10_next_189 ?_
  refine g_istore (i := 6) dX10_next_190 (by decide) rfl ?_
  refine g_iincV (v := (x7 + 1)) dX10_next_192 rfl rfl (by decide) rfl ?_
  refine g_goto (tgt := 111) dX10_next_195 (by decide) ?_
  exact Hkh111 _ _ _ _ _ _ _ _ hL
def J_X10_next_177 (kh111 : Int32 → Int32 → Int32 → Int32 → Int32 → Int32 → Int32 → wS → Option (Int32 × wS)) (ke198 : Int32 → Int32 → Int32 → Int32 → Int32 → Int32 → wS → Option (Int32 × wS)) (x1 : Int32) (x2 : Int32) (x3 : Int32) (x4 : Int32) (x5 : Int32) (x6 : Int32) (x7 : Int32) (x8 : Int32) (w : wS) : Option (Int32 × wS) :=
  if x8 = 0 then J_X10_next_189 kh111 ke198 (x1) (x2) (x3) (x4) (x5) (x7) (x6) (0) w else J_X10_next_189 kh111 ke198 (x1) (x2) (x3) (x4) (x5) (x7) (x6) (1) w
set_option maxRecDepth 20000 in
theorem J_X10_next_177_ok {G : aG} {Hf : wS → aH} {b : Nat} {kh111 : Int32 → Int32 → Int32 → Int32 → Int32 → Int32 → Int32 → wS → Option (Int32 × wS)} {ke198 : Int32 → Int32 → Int32 → Int32 → Int32 → Int32 → wS → Option (Int32 × wS)} {x1 : Int32} {x2 : Int32} {x3 : Int32} {x4 : Int32} {x5 : Int32} {x6 : Int32} {x7 : Int32} {x8 : Int32} {w : wS} {r : Int32 × wS} (E : Emb Hf b 0 tbM) (hL : J_X10_next_177 kh111 ke198 x1 x2 x3 x4 x5 x6 x7 x8 w = some r) (Hkh111 : ∀ (z0 : Int32) (z1 : Int32) (z2 : Int32) (z3 : Int32) (z4 : Int32) (z5 : Int32) (z6 : Int32) (w : wS), kh111 z0 z1 z2 z3 z4 z5 z6 w = some r → AG G M_X10_next 111 [some (.ref (b + 0)), some (.int (z0)), some (.int (z1)), some (.int (z2)), some (.int (z3)), some (.int (z4)), some (.int (z5)), some (.int (z6)), none, none] [] (Hf w) (.inl (some (.int r.1)), Hf r.2)) (Hke198 : ∀ (z0 : Int32) (z1 : Int32) (z2 : Int32) (z3 : Int32) (z4 : Int32) (z5 : Int32) (w : wS), ke198 z0 z1 z2 z3 z4 z5 w = some r → AG G M_X10_next 198 [some (.ref (b + 0)), some (.int (z0)), some (.int (z1)), some (.int (z2)), some (.int (z3)), some (.int (z4)), some (.int (z5)), none, none, none] [] (Hf w) (.inl (some (.int r.1)), Hf r.2)) : AG G M_X10_next 177 [some (.ref (b + 0)), some (.int (x1)), some (.int (x2)), some (.int (x3)), some (.int (x4)), some (.int (x5)), some (.int (x6)), some (.int (x7)), some (.int (x8)), none] [] (Hf w) (.inl (some (.int r.1)), Hf r.2) := by
  unfold J_X10_next_177 at hL
  refine g_iload dX10_next_177 rfl ?_
  refine g_none 6 ?_
  refine g_iload dX10_next_179 rfl ?_
  refine g_none 8 ?_
  refine g_if_eq (tgt := 188) dX10_next_181 (by decide) (fun q1 => ?_) (fun q1 => ?_)
  · rw [if_pos q1] at hL
    refine g_iconst (v := 0) dX10_next_188 (by decide) ?_
    exact J_X10_next_189_ok E hL Hkh111 Hke198
  · rw [if_neg q1] at hL
    refine g_iconst (v := 1) dX10_next_184 (by decide) ?_
    refine g_goto (tgt := 189) dX10_next_185 (by decide) ?_
    exact J_X10_next_189_ok E hL Hkh111 Hke198
def J_X10_next_169 (kh123 : Int32 → Int32 → Int32 → Int32 → Int32 → Int32 → Int32 → Int32 → Int32 → wS → Option (Int32 × wS)) (ke177 : Int32 → Int32 → Int32 → Int32 → Int32 → Int32 → Int32 → Int32 → wS → Option (Int32 × wS)) (x1 : Int32) (x2 : Int32) (x3 : Int32) (x4 : Int32) (x5 : Int32) (x6 : Int32) (x7 : Int32) (x9 : Int32) (y0 : Int32) (w : wS) : Option (Int32 × wS) :=
  kh123 (x1) (x2) (x3) (x4) (x5) (x6) (x7) (y0) ((x9 + 1)) w
set_option maxRecDepth 20000 in
theorem J_X10_next_169_ok {G : aG} {Hf : wS → aH} {b : Nat} {kh123 : Int32 → Int32 → Int32 → Int32 → Int32 → Int32 → Int32 → Int32 → Int32 → wS → Option (Int32 × wS)} {ke177 : Int32 → Int32 → Int32 → Int32 → Int32 → Int32 → Int32 → Int32 → wS → Option (Int32 × wS)} {x1 : Int32} {x2 : Int32} {x3 : Int32} {x4 : Int32} {x5 : Int32} {x6 : Int32} {x7 : Int32} {x9 : Int32} {y0 : Int32} {w : wS} {r : Int32 × wS} (E : Emb Hf b 0 tbM) (hL : J_X10_next_169 kh123 ke177 x1 x2 x3 x4 x5 x6 x7 x9 y0 w = some r) (Hkh123 : ∀ (z0 : Int32) (z1 : Int32) (z2 : Int32) (z3 : Int32) (z4 : Int32) (z5 : Int32) (z6 : Int32) (z7 : Int32) (z8 : Int32) (w : wS), kh123 z0 z1 z2 z3 z4 z5 z6 z7 z8 w = some r → AG G M_X10_next 123 [some (.ref (b + 0)), some (.int (z0)), some (.int (z1)), some (.int (z2)), some (.int (z3)), some (.int (z4)), some (.int (z5)), some (.int (z6)), some (.int (z7)), some (.int (z8))] [] (Hf w) (.inl (some (.int r.1)), Hf r.2)) (Hke177 : ∀ (z0 : Int32) (z1 : Int32) (z2 : Int32) (z3 : Int32) (z4 : Int32) (z5 : Int32) (z6 : Int32) (z7 : Int32) (w : wS), ke177 z0 z1 z2 z3 z4 z5 z6 z7 w = some r → AG G M_X10_next 177 [some (.ref (b + 0)), some (.int (z0)), some (.int (z1)), some (.int (z2)), some (.int (z3)), some (.int (z4)), some (.int (z5)), some (.int (z6)), some (.int (z7)), none] [] (Hf w) (.inl (some (.int r.1)), Hf r.2)) : AG G M_X10_next 169 [some (.ref (b + 0)), some (.int (x1)), some (.int (x2)), some (.int (x3)), some (.int (x4)), some (.int (x5)), some (.int (x6)), some (.int (x7)), none, some (.int (x9))] [.int (y0)] (Hf w) (.inl (some (.int r.1)), Hf r.2) := by
  unfold J_X10_next_169 at hL
  refine g_istore (i := 8) dX10_next_169 (by decide) rfl ?_
  refine g_iincV (v := (x9 + 1)) dX10_next_171 rfl rfl (by decide) rfl ?_
  refine g_goto (tgt := 123) dX10_next_174 (by decide) ?_
  exact Hkh123 _ _ _ _ _ _ _ _ _ _ hL
def B_X10_next_123 (kh123 : Int32 → Int32 → Int32 → Int32 → Int32 → Int32 → Int32 → Int32 → Int32 → wS → Option (Int32 × wS)) (ke177 : Int32 → Int32 → Int32 → Int32 → Int32 → Int32 → Int32 → Int32 → wS → Option (Int32 × wS)) (x1 : Int32) (x2 : Int32) (x3 : Int32) (x4 : Int32) (x5 : Int32) (x6 : Int32) (x7 : Int32) (x8 : Int32) (x9 : Int32) (w : wS) : Option (Int32 × wS) :=
  if x7 ≤ x9 then ke177 (x1) (x2) (x3) (x4) (x5) (x6) (x7) (x8) w else if x8 = 0 then ke177 (x1) (x2) (x3) (x4) (x5) (x6) (x7) (x8) w else xB (xAld w 27 2928 (((6 * x7) + x5))) fun v2 => xB (xAld w 27 2928 (((6 * x9) + x5))) fun v3 => if v2 = v3 then J_X10_next_169 kh123 ke177 (x1) (x2) (x3) (x4) (x5) (x6) (x7) (x9) (0) w else J_X10_next_169 kh123 ke177 (x1) (x2) (x3) (x4) (x5) (x6) (x7) (x9) (1) w
set_option maxRecDepth 20000 in
theorem B_X10_next_123_ok {G : aG} {Hf : wS → aH} {b : Nat} {kh123 : Int32 → Int32 → Int32 → Int32 → Int32 → Int32 → Int32 → Int32 → Int32 → wS → Option (Int32 × wS)} {ke177 : Int32 → Int32 → Int32 → Int32 → Int32 → Int32 → Int32 → Int32 → wS → Option (Int32 × wS)} {x1 : Int32} {x2 : Int32} {x3 : Int32} {x4 : Int32} {x5 : Int32} {x6 : Int32} {x7 : Int32} {x8 : Int32} {x9 : Int32} {w : wS} {r : Int32 × wS} (E : Emb Hf b 0 tbM) (hL : B_X10_next_123 kh123 ke177 x1 x2 x3 x4 x5 x6 x7 x8 x9 w = some r) (Hkh123 : ∀ (z0 : Int32) (z1 : Int32) (z2 : Int32) (z3 : Int32) (z4 : Int32) (z5 : Int32) (z6 : Int32) (z7 : Int32) (z8 : Int32) (w : wS), kh123 z0 z1 z2 z3 z4 z5 z6 z7 z8 w = some r → AG G M_X10_next 123 [some (.ref (b + 0)), some (.int (z0)), some (.int (z1)), some (.int (z2)), some (.int (z3)), some (.int (z4)), some (.int (z5)), some (.int (z6)), some (.int (z7)), some (.int (z8))] [] (Hf w) (.inl (some (.int r.1)), Hf r.2)) (Hke177 : ∀ (z0 : Int32) (z1 : Int32) (z2 : Int32) (z3 : Int32) (z4 : Int32) (z5 : Int32) (z6 : Int32) (z7 : Int32) (w : wS), ke177 z0 z1 z2 z3 z4 z5 z6 z7 w = some r → AG G M_X10_next 177 [some (.ref (b + 0)), some (.int (z0)), some (.int (z1)), some (.int (z2)), some (.int (z3)), some (.int (z4)), some (.int (z5)), some (.int (z6)), some (.int (z7)), none] [] (Hf w) (.inl (some (.int r.1)), Hf r.2)) : AG G M_X10_next 123 [some (.ref (b + 0)), some (.int (x1)), some (.int (x2)), some (.int (x3)), some (.int (x4)), some (.int (x5)), some (.int (x6)), some (.int (x7)), some (.int (x8)), some (.int (x9))] [] (Hf w) (.inl (some (.int r.1)), Hf r.2) := by
  unfold B_X10_next_123 at hL
  refine g_iload dX10_next_123 rfl ?_
  refine g_iload dX10_next_125 rfl ?_
  refine g_icmp_ge (tgt := 177) dX10_next_127 (by decide) (fun q6 => ?_) (fun q6 => ?_)
  · rw [if_pos q6] at hL
    refine g_none 9 ?_
    exact Hke177 _ _ _ _ _ _ _ _ _ hL
  · rw [if_neg q6] at hL
    refine g_iload dX10_next_130 rfl ?_
    refine g_if_eq (tgt := 177) dX10_next_132 (by decide) (fun q5 => ?_) (fun q5 => ?_)
    · rw [if_pos q5] at hL
      refine g_none 9 ?_
      exact Hke177 _ _ _ _ _ _ _ _ _ hL
    · rw [if_neg q5] at hL
      refine g_none 8 ?_
      refine g_aload_n dX10_next_135 rfl rfl ?_
      refine s_getR (j := 61) E rfl rfl f_X10_105 dX10_next_136 ?_
      refine g_bipush (v := 6) dX10_next_139 (by decide) ?_
      refine g_iload dX10_next_141 rfl ?_
      refine g_imul dX10_next_143 ?_
      refine g_iload dX10_next_144 rfl ?_
      refine g_iadd dX10_next_146 ?_
      refine s_iald (k := 27) E hL rfl dX10_next_147 ?_
      intro v2 hL
      refine g_aload_n dX10_next_148 rfl rfl ?_
      refine s_getR (j := 61) E rfl rfl f_X10_105 dX10_next_149 ?_
      refine g_bipush (v := 6) dX10_next_152 (by decide) ?_
      refine g_iload dX10_next_154 rfl ?_
      refine g_imul dX10_next_156 ?_
      refine g_iload dX10_next_157 rfl ?_
      refine g_iadd dX10_next_159 ?_
      refine s_iald (k := 27) E hL rfl dX10_next_160 ?_
      intro v3 hL
      refine g_icmp_eq (tgt := 168) dX10_next_161 (by decide) (fun q4 => ?_) (fun q4 => ?_)
      · rw [if_pos q4] at hL
        refine g_iconst (v := 0) dX10_next_168 (by decide) ?_
        exact J_X10_next_169_ok E hL Hkh123 Hke177
      · rw [if_neg q4] at hL
        refine g_iconst (v := 1) dX10_next_164 (by decide) ?_
        refine g_goto (tgt := 169) dX10_next_165 (by decide) ?_
        exact J_X10_next_169_ok E hL Hkh123 Hke177
def P_X10_next_123 (ke177 : Int32 → Int32 → Int32 → Int32 → Int32 → Int32 → Int32 → Int32 → wS → Option (Int32 × wS)) (n : Nat) (x1 : Int32) (x2 : Int32) (x3 : Int32) (x4 : Int32) (x5 : Int32) (x6 : Int32) (x7 : Int32) (x8 : Int32) (x9 : Int32) (w : wS) : Option (Int32 × wS) :=
  xLoop (fun (kk : Int32 × Int32 × Int32 × Int32 × Int32 × Int32 × Int32 × Int32 × Int32 × wS → Option (Int32 × wS)) σ => B_X10_next_123 (fun x1 x2 x3 x4 x5 x6 x7 x8 x9 w => kk (x1, x2, x3, x4, x5, x6, x7, x8, x9, w)) ke177 (σ.1) (σ.2.1) (σ.2.2.1) (σ.2.2.2.1) (σ.2.2.2.2.1) (σ.2.2.2.2.2.1) (σ.2.2.2.2.2.2.1) (σ.2.2.2.2.2.2.2.1) (σ.2.2.2.2.2.2.2.2.1) (σ.2.2.2.2.2.2.2.2.2)) n (x1, x2, x3, x4, x5, x6, x7, x8, x9, w)
theorem P_X10_next_123_ok {G : aG} {Hf : wS → aH} {b : Nat} {ke177 : Int32 → Int32 → Int32 → Int32 → Int32 → Int32 → Int32 → Int32 → wS → Option (Int32 × wS)} {n : Nat} {x1 : Int32} {x2 : Int32} {x3 : Int32} {x4 : Int32} {x5 : Int32} {x6 : Int32} {x7 : Int32} {x8 : Int32} {x9 : Int32} {w : wS} {r : Int32 × wS} (E : Emb Hf b 0 tbM) (hL : P_X10_next_123 ke177 n x1 x2 x3 x4 x5 x6 x7 x8 x9 w = some r) (Hke177 : ∀ (z0 : Int32) (z1 : Int32) (z2 : Int32) (z3 : Int32) (z4 : Int32) (z5 : Int32) (z6 : Int32) (z7 : Int32) (w : wS), ke177 z0 z1 z2 z3 z4 z5 z6 z7 w = some r → AG G M_X10_next 177 [some (.ref (b + 0)), some (.int (z0)), some (.int (z1)), some (.int (z2)), some (.int (z3)), some (.int (z4)), some (.int (z5)), some (.int (z6)), some (.int (z7)), none] [] (Hf w) (.inl (some (.int r.1)), Hf r.2)) : AG G M_X10_next 123 [some (.ref (b + 0)), some (.int (x1)), some (.int (x2)), some (.int (x3)), some (.int (x4)), some (.int (x5)), some (.int (x6)), some (.int (x7)), some (.int (x8)), some (.int (x9))] [] (Hf w) (.inl (some (.int r.1)), Hf r.2) :=
  xLoop_ok (Q := fun (σ : Int32 × Int32 × Int32 × Int32 × Int32 × Int32 × Int32 × Int32 × Int32 × wS) => AG G M_X10_next 123 [some (.ref (b + 0)), some (.int (σ.1)), some (.int (σ.2.1)), some (.int (σ.2.2.1)), some (.int (σ.2.2.2.1)), some (.int (σ.2.2.2.2.1)), some (.int (σ.2.2.2.2.2.1)), some (.int (σ.2.2.2.2.2.2.1)), some (.int (σ.2.2.2.2.2.2.2.1)), some (.int (σ.2.2.2.2.2.2.2.2.1))] [] (Hf σ.2.2.2.2.2.2.2.2.2) (.inl (some (.int r.1)), Hf r.2)) (fun kk hk σ hσ => B_X10_next_123_ok E hσ (fun x1 x2 x3 x4 x5 x6 x7 x8 x9 w h9 => hk (x1, x2, x3, x4, x5, x6, x7, x8, x9, w) h9) Hke177) n (x1, x2, x3, x4, x5, x6, x7, x8, x9, w) hL
def B_X10_next_111 (kh111 : Int32 → Int32 → Int32 → Int32 → Int32 → Int32 → Int32 → wS → Option (Int32 × wS)) (ke198 : Int32 → Int32 → Int32 → Int32 → Int32 → Int32 → wS → Option (Int32 × wS)) (x1 : Int32) (x2 : Int32) (x3 : Int32) (x4 : Int32) (x5 : Int32) (x6 : Int32) (x7 : Int32) (w : wS) : Option (Int32 × wS) :=
  if x2 ≤ x7 then ke198 (x1) (x2) (x3) (x4) (x5) (x6) w else P_X10_next_123 (fun z7 z8 z9 z10 z11 z12 z13 z14 w15 => J_X10_next_177 kh111 ke198 (z7) (z8) (z9) (z10) (z11) (z12) (z13) (z14) w15) 5000 (x1) (x2) (x3) (x4) (x5) (x6) (x7) (1) (0) w
set_option maxRecDepth 20000 in
theorem B_X10_next_111_ok {G : aG} {Hf : wS → aH} {b : Nat} {kh111 : Int32 → Int32 → Int32 → Int32 → Int32 → Int32 → Int32 → wS → Option (Int32 × wS)} {ke198 : Int32 → Int32 → Int32 → Int32 → Int32 → Int32 → wS → Option (Int32 × wS)} {x1 : Int32} {x2 : Int32} {x3 : Int32} {x4 : Int32} {x5 : Int32} {x6 : Int32} {x7 : Int32} {w : wS} {r : Int32 × wS} (E : Emb Hf b 0 tbM) (hL : B_X10_next_111 kh111 ke198 x1 x2 x3 x4 x5 x6 x7 w = some r) (Hkh111 : ∀ (z0 : Int32) (z1 : Int32) (z2 : Int32) (z3 : Int32) (z4 : Int32) (z5 : Int32) (z6 : Int32) (w : wS), kh111 z0 z1 z2 z3 z4 z5 z6 w = some r → AG G M_X10_next 111 [some (.ref (b + 0)), some (.int (z0)), some (.int (z1)), some (.int (z2)), some (.int (z3)), some (.int (z4)), some (.int (z5)), some (.int (z6)), none, none] [] (Hf w) (.inl (some (.int r.1)), Hf r.2)) (Hke198 : ∀ (z0 : Int32) (z1 : Int32) (z2 : Int32) (z3 : Int32) (z4 : Int32) (z5 : Int32) (w : wS), ke198 z0 z1 z2 z3 z4 z5 w = some r → AG G M_X10_next 198 [some (.ref (b + 0)), some (.int (z0)), some (.int (z1)), some (.int (z2)), some (.int (z3)), some (.int (z4)), some (.int (z5)), none, none, none] [] (Hf w) (.inl (some (.int r.1)), Hf r.2)) : AG G M_X10_next 111 [some (.ref (b + 0)), some (.int (x1)), some (.int (x2)), some (.int (x3)), some (.int (x4)), some (.int (x5)), some (.int (x6)), some (.int (x7)), none, none] [] (Hf w) (.inl (some (.int r.1)), Hf r.2) := by
  unfold B_X10_next_111 at hL
  refine g_iload dX10_next_111 rfl ?_
  refine g_iload_n dX10_next_113 rfl rfl ?_
  refine g_icmp_ge (tgt := 198) dX10_next_114 (by decide) (fun q16 => ?_) (fun q16 => ?_)
  · rw [if_pos q16] at hL
    refine g_none 7 ?_
    exact Hke198 _ _ _ _ _ _ _ hL
  · rw [if_neg q16] at hL
    refine g_iconst (v := 1) dX10_next_117 (by decide) ?_
    refine g_istore (i := 8) dX10_next_118 (by decide) rfl ?_
    refine g_iconst (v := 0) dX10_next_120 (by decide) ?_
    refine g_istore (i := 9) dX10_next_121 (by decide) rfl ?_
    refine P_X10_next_123_ok E hL ?_
    · intro z7 z8 z9 z10 z11 z12 z13 z14 w15 hL
      exact J_X10_next_177_ok E hL Hkh111 Hke198
def P_X10_next_111 (ke198 : Int32 → Int32 → Int32 → Int32 → Int32 → Int32 → wS → Option (Int32 × wS)) (n : Nat) (x1 : Int32) (x2 : Int32) (x3 : Int32) (x4 : Int32) (x5 : Int32) (x6 : Int32) (x7 : Int32) (w : wS) : Option (Int32 × wS) :=
  xLoop (fun (kk : Int32 × Int32 × Int32 × Int32 × Int32 × Int32 × Int32 × wS → Option (Int32 × wS)) σ => B_X10_next_111 (fun x1 x2 x3 x4 x5 x6 x7 w => kk (x1, x2, x3, x4, x5, x6, x7, w)) ke198 (σ.1) (σ.2.1) (σ.2.2.1) (σ.2.2.2.1) (σ.2.2.2.2.1) (σ.2.2.2.2.2.1) (σ.2.2.2.2.2.2.1) (σ.2.2.2.2.2.2.2)) n (x1, x2, x3, x4, x5, x6, x7, w)
theorem P_X10_next_111_ok {G : aG} {Hf : wS → aH} {b : Nat} {ke198 : Int32 → Int32 → Int32 → Int32 → Int32 → Int32 → wS → Option (Int32 × wS)} {n : Nat} {x1 : Int32} {x2 : Int32} {x3 : Int32} {x4 : Int32} {x5 : Int32} {x6 : Int32} {x7 : Int32} {w : wS} {r : Int32 × wS} (E : Emb Hf b 0 tbM) (hL : P_X10_next_111 ke198 n x1 x2 x3 x4 x5 x6 x7 w = some r) (Hke198 : ∀ (z0 : Int32) (z1 : Int32) (z2 : Int32) (z3 : Int32) (z4 : Int32) (z5 : Int32) (w : wS), ke198 z0 z1 z2 z3 z4 z5 w = some r → AG G M_X10_next 198 [some (.ref (b + 0)), some (.int (z0)), some (.int (z1)), some (.int (z2)), some (.int (z3)), some (.int (z4)), some (.int (z5)), none, none, none] [] (Hf w) (.inl (some (.int r.1)), Hf r.2)) : AG G M_X10_next 111 [some (.ref (b + 0)), some (.int (x1)), some (.int (x2)), some (.int (x3)), some (.int (x4)), some (.int (x5)), some (.int (x6)), some (.int (x7)), none, none] [] (Hf w) (.inl (some (.int r.1)), Hf r.2) :=
  xLoop_ok (Q := fun (σ : Int32 × Int32 × Int32 × Int32 × Int32 × Int32 × Int32 × wS) => AG G M_X10_next 111 [some (.ref (b + 0)), some (.int (σ.1)), some (.int (σ.2.1)), some (.int (σ.2.2.1)), some (.int (σ.2.2.2.1)), some (.int (σ.2.2.2.2.1)), some (.int (σ.2.2.2.2.2.1)), some (.int (σ.2.2.2.2.2.2.1)), none, none] [] (Hf σ.2.2.2.2.2.2.2) (.inl (some (.int r.1)), Hf r.2)) (fun kk hk σ hσ => B_X10_next_111_ok E hσ (fun x1 x2 x3 x4 x5 x6 x7 w h9 => hk (x1, x2, x3, x4, x5, x6, x7, w) h9) Hke198) n (x1, x2, x3, x4, x5, x6, x7, w) hL
def B_X10_next_96 (kh96 : Int32 → Int32 → Int32 → Int32 → Int32 → wS → Option (Int32 × wS)) (ke221 : Int32 → Int32 → Int32 → wS → Option (Int32 × wS)) (x1 : Int32) (x2 : Int32) (x3 : Int32) (x4 : Int32) (x5 : Int32) (w : wS) : Option (Int32 × wS) :=
  xB (xGet w 2) fun v17 => if v17 ≤ x5 then ke221 (x1) (x3) (x4) w else P_X10_next_111 (fun z18 z19 z20 z21 z22 z23 w24 => if z21 < z23 then J_X10_next_215 kh96 ke221 (z18) (z19) (z22) (z23) (z22) w24 else J_X10_next_215 kh96 ke221 (z18) (z19) (z20) (z21) (z22) w24) 5000 (x1) (x2) (x3) (x4) (x5) (0) (0) w
set_option maxRecDepth 20000 in
theorem B_X10_next_96_ok {G : aG} {Hf : wS → aH} {b : Nat} {kh96 : Int32 → Int32 → Int32 → Int32 → Int32 → wS → Option (Int32 × wS)} {ke221 : Int32 → Int32 → Int32 → wS → Option (Int32 × wS)} {x1 : Int32} {x2 : Int32} {x3 : Int32} {x4 : Int32} {x5 : Int32} {w : wS} {r : Int32 × wS} (E : Emb Hf b 0 tbM) (hL : B_X10_next_96 kh96 ke221 x1 x2 x3 x4 x5 w = some r) (Hkh96 : ∀ (z0 : Int32) (z1 : Int32) (z2 : Int32) (z3 : Int32) (z4 : Int32) (w : wS), kh96 z0 z1 z2 z3 z4 w = some r → AG G M_X10_next 96 [some (.ref (b + 0)), some (.int (z0)), some (.int (z1)), some (.int (z2)), some (.int (z3)), some (.int (z4)), none, none, none, none] [] (Hf w) (.inl (some (.int r.1)), Hf r.2)) (Hke221 : ∀ (z0 : Int32) (z1 : Int32) (z2 : Int32) (w : wS), ke221 z0 z1 z2 w = some r → AG G M_X10_next 221 [none, some (.int (z0)), none, some (.int (z1)), some (.int (z2)), none, none, none, none, none] [] (Hf w) (.inl (some (.int r.1)), Hf r.2)) : AG G M_X10_next 96 [some (.ref (b + 0)), some (.int (x1)), some (.int (x2)), some (.int (x3)), some (.int (x4)), some (.int (x5)), none, none, none, none] [] (Hf w) (.inl (some (.int r.1)), Hf r.2) := by
  unfold B_X10_next_96 at hL
  refine g_iload dX10_next_96 rfl ?_
  refine g_aload_n dX10_next_98 rfl rfl ?_
  refine s_getI (k := 0) (j := 2) E hL rfl rfl f_X10_281 dX10_next_99 ?_
  intro v17 hL
  refine g_icmp_ge (tgt := 221) dX10_next_102 (by decide) (fun q26 => ?_) (fun q26 => ?_)
  · rw [if_pos q26] at hL
    refine g_none 0 ?_
    refine g_none 2 ?_
    refine g_none 5 ?_
    exact Hke221 _ _ _ _ hL
  · rw [if_neg q26] at hL
    refine g_iconst (v := 0) dX10_next_105 (by decide) ?_
    refine g_istore (i := 6) dX10_next_106 (by decide) rfl ?_
    refine g_iconst (v := 0) dX10_next_108 (by decide) ?_
    refine g_istore (i := 7) dX10_next_109 (by decide) rfl ?_
    refine P_X10_next_111_ok E hL ?_
    · intro z18 z19 z20 z21 z22 z23 w24 hL
      refine g_iload dX10_next_198 rfl ?_
      refine g_iload dX10_next_200 rfl ?_
      refine g_icmp_gt (tgt := 208) dX10_next_202 (by decide) (fun q25 => ?_) (fun q25 => ?_)
      · rw [if_pos q25] at hL
        refine g_none 3 ?_
        refine g_none 4 ?_
        refine g_iload dX10_next_208 rfl ?_
        refine g_istore_n (i := 3) dX10_next_210 rfl (by decide) rfl ?_
        refine g_iload dX10_next_211 rfl ?_
        refine g_none 6 ?_
        refine g_istore (i := 4) dX10_next_213 (by decide) rfl ?_
        exact J_X10_next_215_ok E hL Hkh96 Hke221
      · rw [if_neg q25] at hL
        refine g_none 6 ?_
        refine g_goto (tgt := 215) dX10_next_205 (by decide) ?_
        exact J_X10_next_215_ok E hL Hkh96 Hke221
def P_X10_next_96 (ke221 : Int32 → Int32 → Int32 → wS → Option (Int32 × wS)) (n : Nat) (x1 : Int32) (x2 : Int32) (x3 : Int32) (x4 : Int32) (x5 : Int32) (w : wS) : Option (Int32 × wS) :=
  xLoop (fun (kk : Int32 × Int32 × Int32 × Int32 × Int32 × wS → Option (Int32 × wS)) σ => B_X10_next_96 (fun x1 x2 x3 x4 x5 w => kk (x1, x2, x3, x4, x5, w)) ke221 (σ.1) (σ.2.1) (σ.2.2.1) (σ.2.2.2.1) (σ.2.2.2.2.1) (σ.2.2.2.2.2)) n (x1, x2, x3, x4, x5, w)
theorem P_X10_next_96_ok {G : aG} {Hf : wS → aH} {b : Nat} {ke221 : Int32 → Int32 → Int32 → wS → Option (Int32 × wS)} {n : Nat} {x1 : Int32} {x2 : Int32} {x3 : Int32} {x4 : Int32} {x5 : Int32} {w : wS} {r : Int32 × wS} (E : Emb Hf b 0 tbM) (hL : P_X10_next_96 ke221 n x1 x2 x3 x4 x5 w = some r) (Hke221 : ∀ (z0 : Int32) (z1 : Int32) (z2 : Int32) (w : wS), ke221 z0 z1 z2 w = some r → AG G M_X10_next 221 [none, some (.int (z0)), none, some (.int (z1)), some (.int (z2)), none, none, none, none, none] [] (Hf w) (.inl (some (.int r.1)), Hf r.2)) : AG G M_X10_next 96 [some (.ref (b + 0)), some (.int (x1)), some (.int (x2)), some (.int (x3)), some (.int (x4)), some (.int (x5)), none, none, none, none] [] (Hf w) (.inl (some (.int r.1)), Hf r.2) :=
  xLoop_ok (Q := fun (σ : Int32 × Int32 × Int32 × Int32 × Int32 × wS) => AG G M_X10_next 96 [some (.ref (b + 0)), some (.int (σ.1)), some (.int (σ.2.1)), some (.int (σ.2.2.1)), some (.int (σ.2.2.2.1)), some (.int (σ.2.2.2.2.1)), none, none, none, none] [] (Hf σ.2.2.2.2.2) (.inl (some (.int r.1)), Hf r.2)) (fun kk hk σ hσ => B_X10_next_96_ok E hσ (fun x1 x2 x3 x4 x5 w h9 => hk (x1, x2, x3, x4, x5, w) h9) Hke221) n (x1, x2, x3, x4, x5, w) hL
def J_X10_next_82 (kh20 : Int32 → Int32 → Int32 → wS → Option (Int32 × wS)) (ke88 : Int32 → Int32 → wS → Option (Int32 × wS)) (x1 : Int32) (x2 : Int32) (x3 : Int32) (w : wS) : Option (Int32 × wS) :=
  kh20 (x1) (x2) ((x3 + 1)) w
set_option maxRecDepth 20000 in
theorem J_X10_next_82_ok {G : aG} {Hf : wS → aH} {b : Nat} {kh20 : Int32 → Int32 → Int32 → wS → Option (Int32 × wS)} {ke88 : Int32 → Int32 → wS → Option (Int32 × wS)} {x1 : Int32} {x2 : Int32} {x3 : Int32} {w : wS} {r : Int32 × wS} (E : Emb Hf b 0 tbM) (hL : J_X10_next_82 kh20 ke88 x1 x2 x3 w = some r) (Hkh20 : ∀ (z0 : Int32) (z1 : Int32) (z2 : Int32) (w : wS), kh20 z0 z1 z2 w = some r → AG G M_X10_next 20 [some (.ref (b + 0)), some (.int (z0)), some (.int (z1)), some (.int (z2)), none, none, none, none, none, none] [] (Hf w) (.inl (some (.int r.1)), Hf r.2)) (Hke88 : ∀ (z0 : Int32) (z1 : Int32) (w : wS), ke88 z0 z1 w = some r → AG G M_X10_next 88 [some (.ref (b + 0)), some (.int (z0)), some (.int (z1)), none, none, none, none, none, none, none] [] (Hf w) (.inl (some (.int r.1)), Hf r.2)) : AG G M_X10_next 82 [some (.ref (b + 0)), some (.int (x1)), some (.int (x2)), some (.int (x3)), none, none, none, none, none, none] [] (Hf w) (.inl (some (.int r.1)), Hf r.2) := by
  unfold J_X10_next_82 at hL
  refine g_iincV (v := (x3 + 1)) dX10_next_82 rfl rfl (by decide) rfl ?_
  refine g_goto (tgt := 20) dX10_next_85 (by decide) ?_
  exact Hkh20 _ _ _ _ hL
def B_X10_next_45 (kh45 : Int32 → Int32 → Int32 → Int32 → wS → Option (Int32 × wS)) (ke79 : Int32 → Int32 → Int32 → wS → Option (Int32 × wS)) (x1 : Int32) (x2 : Int32) (x3 : Int32) (x4 : Int32) (w : wS) : Option (Int32 × wS) :=
  xB (xGet w 2) fun v27 => if v27 ≤ x4 then ke79 (x1) (x2) (x3) w else xB (xAld w 26 6 (x4)) fun v28 => xB (xAst w 27 2928 (((6 * x2) + x4)) (v28)) fun w29 => kh45 (x1) (x2) (x3) ((x4 + 1)) w29
set_option maxRecDepth 20000 in
theorem B_X10_next_45_ok {G : aG} {Hf : wS → aH} {b : Nat} {kh45 : Int32 → Int32 → Int32 → Int32 → wS → Option (Int32 × wS)} {ke79 : Int32 → Int32 → Int32 → wS → Option (Int32 × wS)} {x1 : Int32} {x2 : Int32} {x3 : Int32} {x4 : Int32} {w : wS} {r : Int32 × wS} (E : Emb Hf b 0 tbM) (hL : B_X10_next_45 kh45 ke79 x1 x2 x3 x4 w = some r) (Hkh45 : ∀ (z0 : Int32) (z1 : Int32) (z2 : Int32) (z3 : Int32) (w : wS), kh45 z0 z1 z2 z3 w = some r → AG G M_X10_next 45 [some (.ref (b + 0)), some (.int (z0)), some (.int (z1)), some (.int (z2)), some (.int (z3)), none, none, none, none, none] [] (Hf w) (.inl (some (.int r.1)), Hf r.2)) (Hke79 : ∀ (z0 : Int32) (z1 : Int32) (z2 : Int32) (w : wS), ke79 z0 z1 z2 w = some r → AG G M_X10_next 79 [some (.ref (b + 0)), some (.int (z0)), some (.int (z1)), some (.int (z2)), none, none, none, none, none, none] [] (Hf w) (.inl (some (.int r.1)), Hf r.2)) : AG G M_X10_next 45 [some (.ref (b + 0)), some (.int (x1)), some (.int (x2)), some (.int (x3)), some (.int (x4)), none, none, none, none, none] [] (Hf w) (.inl (some (.int r.1)), Hf r.2) := by
  unfold B_X10_next_45 at hL
  refine g_iload dX10_next_45 rfl ?_
  refine g_aload_n dX10_next_47 rfl rfl ?_
  refine s_getI (k := 0) (j := 2) E hL rfl rfl f_X10_281 dX10_next_48 ?_
  intro v27 hL
  refine g_icmp_ge (tgt := 79) dX10_next_51 (by decide) (fun q30 => ?_) (fun q30 => ?_)
  · rw [if_pos q30] at hL
    refine g_none 4 ?_
    exact Hke79 _ _ _ _ hL
  · rw [if_neg q30] at hL
    refine g_aload_n dX10_next_54 rfl rfl ?_
    refine s_getR (j := 61) E rfl rfl f_X10_105 dX10_next_55 ?_
    refine g_bipush (v := 6) dX10_next_58 (by decide) ?_
    refine g_iload_n dX10_next_60 rfl rfl ?_
    refine g_imul dX10_next_61 ?_
    refine g_iload dX10_next_62 rfl ?_
    refine g_iadd dX10_next_64 ?_
    refine g_aload_n dX10_next_65 rfl rfl ?_
    refine s_getR (j := 60) E rfl rfl f_X10_102 dX10_next_66 ?_
    refine g_iload dX10_next_69 rfl ?_
    refine s_iald (k := 26) E hL rfl dX10_next_71 ?_
    intro v28 hL
    refine s_iast (k := 27) E hL rfl dX10_next_72 ?_
    intro w29 hL
    refine g_iincV (v := (x4 + 1)) dX10_next_73 rfl rfl (by decide) rfl ?_
    refine g_goto (tgt := 45) dX10_next_76 (by decide) ?_
    exact Hkh45 _ _ _ _ _ hL
def P_X10_next_45 (ke79 : Int32 → Int32 → Int32 → wS → Option (Int32 × wS)) (n : Nat) (x1 : Int32) (x2 : Int32) (x3 : Int32) (x4 : Int32) (w : wS) : Option (Int32 × wS) :=
  xLoop (fun (kk : Int32 × Int32 × Int32 × Int32 × wS → Option (Int32 × wS)) σ => B_X10_next_45 (fun x1 x2 x3 x4 w => kk (x1, x2, x3, x4, w)) ke79 (σ.1) (σ.2.1) (σ.2.2.1) (σ.2.2.2.1) (σ.2.2.2.2)) n (x1, x2, x3, x4, w)
theorem P_X10_next_45_ok {G : aG} {Hf : wS → aH} {b : Nat} {ke79 : Int32 → Int32 → Int32 → wS → Option (Int32 × wS)} {n : Nat} {x1 : Int32} {x2 : Int32} {x3 : Int32} {x4 : Int32} {w : wS} {r : Int32 × wS} (E : Emb Hf b 0 tbM) (hL : P_X10_next_45 ke79 n x1 x2 x3 x4 w = some r) (Hke79 : ∀ (z0 : Int32) (z1 : Int32) (z2 : Int32) (w : wS), ke79 z0 z1 z2 w = some r → AG G M_X10_next 79 [some (.ref (b + 0)), some (.int (z0)), some (.int (z1)), some (.int (z2)), none, none, none, none, none, none] [] (Hf w) (.inl (some (.int r.1)), Hf r.2)) : AG G M_X10_next 45 [some (.ref (b + 0)), some (.int (x1)), some (.int (x2)), some (.int (x3)), some (.int (x4)), none, none, none, none, none] [] (Hf w) (.inl (some (.int r.1)), Hf r.2) :=
  xLoop_ok (Q := fun (σ : Int32 × Int32 × Int32 × Int32 × wS) => AG G M_X10_next 45 [some (.ref (b + 0)), some (.int (σ.1)), some (.int (σ.2.1)), some (.int (σ.2.2.1)), some (.int (σ.2.2.2.1)), none, none, none, none, none] [] (Hf σ.2.2.2.2) (.inl (some (.int r.1)), Hf r.2)) (fun kk hk σ hσ => B_X10_next_45_ok E hσ (fun x1 x2 x3 x4 w h9 => hk (x1, x2, x3, x4, w) h9) Hke79) n (x1, x2, x3, x4, w) hL
def B_X10_next_20 (kh20 : Int32 → Int32 → Int32 → wS → Option (Int32 × wS)) (ke88 : Int32 → Int32 → wS → Option (Int32 × wS)) (x1 : Int32) (x2 : Int32) (x3 : Int32) (w : wS) : Option (Int32 × wS) :=
  xB (xGet w 1) fun v31 => if (61 * v31) ≤ x3 then ke88 (x1) (x2) w else xB2 (L_X10_isGuess (x3) w) fun v32 w33 => if v32 = 0 then J_X10_next_82 kh20 ke88 (x1) (x2) (x3) w33 else P_X10_next_45 (fun z34 z35 z36 w37 => J_X10_next_82 kh20 ke88 (z34) ((z35 + 1)) (z36) w37) 5000 (x1) (x2) (x3) (0) w33
set_option maxRecDepth 20000 in
theorem B_X10_next_20_ok {G : aG} {Hf : wS → aH} {b : Nat} {kh20 : Int32 → Int32 → Int32 → wS → Option (Int32 × wS)} {ke88 : Int32 → Int32 → wS → Option (Int32 × wS)} {x1 : Int32} {x2 : Int32} {x3 : Int32} {w : wS} {r : Int32 × wS} (E : Emb Hf b 0 tbM) (hL : B_X10_next_20 kh20 ke88 x1 x2 x3 w = some r) (Hkh20 : ∀ (z0 : Int32) (z1 : Int32) (z2 : Int32) (w : wS), kh20 z0 z1 z2 w = some r → AG G M_X10_next 20 [some (.ref (b + 0)), some (.int (z0)), some (.int (z1)), some (.int (z2)), none, none, none, none, none, none] [] (Hf w) (.inl (some (.int r.1)), Hf r.2)) (Hke88 : ∀ (z0 : Int32) (z1 : Int32) (w : wS), ke88 z0 z1 w = some r → AG G M_X10_next 88 [some (.ref (b + 0)), some (.int (z0)), some (.int (z1)), none, none, none, none, none, none, none] [] (Hf w) (.inl (some (.int r.1)), Hf r.2)) : AG G M_X10_next 20 [some (.ref (b + 0)), some (.int (x1)), some (.int (x2)), some (.int (x3)), none, none, none, none, none, none] [] (Hf w) (.inl (some (.int r.1)), Hf r.2) := by
  unfold B_X10_next_20 at hL
  refine g_iload_n dX10_next_20 rfl rfl ?_
  refine g_bipush (v := 61) dX10_next_21 (by decide) ?_
  refine g_aload_n dX10_next_23 rfl rfl ?_
  refine s_getI (k := 0) (j := 1) E hL rfl rfl f_X10_278 dX10_next_24 ?_
  intro v31 hL
  refine g_imul dX10_next_27 ?_
  refine g_icmp_ge (tgt := 88) dX10_next_28 (by decide) (fun q39 => ?_) (fun q39 => ?_)
  · rw [if_pos q39] at hL
    refine g_none 3 ?_
    exact Hke88 _ _ _ hL
  · rw [if_neg q39] at hL
    refine g_aload_n dX10_next_31 rfl rfl ?_
    refine g_iload_n dX10_next_32 rfl rfl ?_
    obtain ⟨v32, w33, hc, hL⟩ := xB2_some hL
    refine g_callV (M' := M_X10_isGuess) (as := [.int (x3)]) (v := some (.int (v32))) l_X10_412 kV_X10_isGuess (by decide) (C_X10_isGuess E hc) rfl (by have := E.1; omega) (E.2.1 _ 0 _ rfl) ⟨_, _, rfl⟩ (Nat.le_of_ble_eq_true rfl) dX10_next_33 ?_
    refine g_if_ne (tgt := 42) dX10_next_36 (by decide) (fun q38 => ?_) (fun q38 => ?_)
    · rw [if_neg q38] at hL
      refine g_iconst (v := 0) dX10_next_42 (by decide) ?_
      refine g_istore (i := 4) dX10_next_43 (by decide) rfl ?_
      refine P_X10_next_45_ok E hL ?_
      · intro z34 z35 z36 w37 hL
        refine g_iincV (v := (z35 + 1)) dX10_next_79 rfl rfl (by decide) rfl ?_
        exact J_X10_next_82_ok E hL Hkh20 Hke88
    · rw [if_pos q38] at hL
      refine g_goto (tgt := 82) dX10_next_39 (by decide) ?_
      exact J_X10_next_82_ok E hL Hkh20 Hke88
def P_X10_next_20 (ke88 : Int32 → Int32 → wS → Option (Int32 × wS)) (n : Nat) (x1 : Int32) (x2 : Int32) (x3 : Int32) (w : wS) : Option (Int32 × wS) :=
  xLoop (fun (kk : Int32 × Int32 × Int32 × wS → Option (Int32 × wS)) σ => B_X10_next_20 (fun x1 x2 x3 w => kk (x1, x2, x3, w)) ke88 (σ.1) (σ.2.1) (σ.2.2.1) (σ.2.2.2)) n (x1, x2, x3, w)
theorem P_X10_next_20_ok {G : aG} {Hf : wS → aH} {b : Nat} {ke88 : Int32 → Int32 → wS → Option (Int32 × wS)} {n : Nat} {x1 : Int32} {x2 : Int32} {x3 : Int32} {w : wS} {r : Int32 × wS} (E : Emb Hf b 0 tbM) (hL : P_X10_next_20 ke88 n x1 x2 x3 w = some r) (Hke88 : ∀ (z0 : Int32) (z1 : Int32) (w : wS), ke88 z0 z1 w = some r → AG G M_X10_next 88 [some (.ref (b + 0)), some (.int (z0)), some (.int (z1)), none, none, none, none, none, none, none] [] (Hf w) (.inl (some (.int r.1)), Hf r.2)) : AG G M_X10_next 20 [some (.ref (b + 0)), some (.int (x1)), some (.int (x2)), some (.int (x3)), none, none, none, none, none, none] [] (Hf w) (.inl (some (.int r.1)), Hf r.2) :=
  xLoop_ok (Q := fun (σ : Int32 × Int32 × Int32 × wS) => AG G M_X10_next 20 [some (.ref (b + 0)), some (.int (σ.1)), some (.int (σ.2.1)), some (.int (σ.2.2.1)), none, none, none, none, none, none] [] (Hf σ.2.2.2) (.inl (some (.int r.1)), Hf r.2)) (fun kk hk σ hσ => B_X10_next_20_ok E hσ (fun x1 x2 x3 w h9 => hk (x1, x2, x3, w) h9) Hke88) n (x1, x2, x3, w) hL
def L_X10_next (a1 : Int32) (w : wS) : Option (Int32 × wS) :=
  xB (xPut w 0 (0)) fun w40 => xB2 (L_X10_isWhat (a1) (1) w40) fun v41 w42 => if v41 = 0 then some (0, w42) else P_X10_next_20 (fun z43 z44 w45 => P_X10_next_96 (fun z46 z47 z48 w49 => if z46 = 0 then J_X10_next_231  (z47) w49 else J_X10_next_231  (z48) w49) 5000 (z43) (z44) ((-1)) (0) (0) w45) 5000 (a1) (0) (0) w42
set_option maxRecDepth 20000 in
theorem C_X10_next {G : aG} {Hf : wS → aH} {b : Nat} {a1 : Int32} {w : wS} {r : Int32 × wS} (E : Emb Hf b 0 tbM) (hL : L_X10_next a1 w = some r) : AC G M_X10_next [.ref (b + 0), .int a1] (Hf w) (.inl (some (.int r.1)), Hf r.2) := by
  unfold L_X10_next at hL
  refine AC.of (by decide) rfl (Nat.le_of_ble_eq_true rfl) ?_
  show AG G M_X10_next 0 [some (.ref (b + 0)), some (.int (a1)), none, none, none, none, none, none, none, none] [] _ _
  refine g_aload_n dX10_next_0 rfl rfl ?_
  refine g_iconst (v := 0) dX10_next_1 (by decide) ?_
  refine s_putI (k := 0) (j := 0) E hL rfl rfl (by decide) fw_X10_120 rfl rfl dX10_next_2 ?_
  intro w40 hL
  refine g_aload_n dX10_next_5 rfl rfl ?_
  refine g_iload_n dX10_next_6 rfl rfl ?_
  refine g_iconst (v := 1) dX10_next_7 (by decide) ?_
  obtain ⟨v41, w42, hc, hL⟩ := xB2_some hL
  refine g_callV (M' := M_X10_isWhat) (as := [.int (a1), .int (1)]) (v := some (.int (v41))) l_X10_373 kV_X10_isWhat (by decide) (C_X10_isWhat E hc) rfl (by have := E.1; omega) (E.2.1 _ 0 _ rfl) ⟨_, _, rfl⟩ (Nat.le_of_ble_eq_true rfl) dX10_next_8 ?_
  refine g_if_ne (tgt := 16) dX10_next_11 (by decide) (fun q51 => ?_) (fun q51 => ?_)
  · rw [if_neg q51] at hL
    refine g_iconst (v := 0) dX10_next_16 (by decide) ?_
    refine g_istore_n (i := 2) dX10_next_17 rfl (by decide) rfl ?_
    refine g_iconst (v := 0) dX10_next_18 (by decide) ?_
    refine g_istore_n (i := 3) dX10_next_19 rfl (by decide) rfl ?_
    refine P_X10_next_20_ok E hL ?_
    · intro z43 z44 w45 hL
      refine g_iconst (v := (-1)) dX10_next_88 (by decide) ?_
      refine g_istore_n (i := 3) dX10_next_89 rfl (by decide) rfl ?_
      refine g_iconst (v := 0) dX10_next_90 (by decide) ?_
      refine g_istore (i := 4) dX10_next_91 (by decide) rfl ?_
      refine g_iconst (v := 0) dX10_next_93 (by decide) ?_
      refine g_istore (i := 5) dX10_next_94 (by decide) rfl ?_
      refine P_X10_next_96_ok E hL ?_
      · intro z46 z47 z48 w49 hL
        refine g_iload_n dX10_next_221 rfl rfl ?_
        refine g_none 1 ?_
        refine g_if_ne (tgt := 229) dX10_next_222 (by decide) (fun q50 => ?_) (fun q50 => ?_)
        · rw [if_neg q50] at hL
          refine g_none 3 ?_
          refine g_iload dX10_next_229 rfl ?_
          refine g_none 4 ?_
          exact J_X10_next_231_ok E hL 
        · rw [if_pos q50] at hL
          refine g_none 4 ?_
          refine g_iload_n dX10_next_225 rfl rfl ?_
          refine g_none 3 ?_
          refine g_goto (tgt := 231) dX10_next_226 (by decide) ?_
          exact J_X10_next_231_ok E hL 
  · rw [if_pos q51] at hL
    refine g_none 0 ?_
    refine g_none 1 ?_
    refine g_iconst (v := 0) dX10_next_14 (by decide) ?_
    obtain rfl := Option.some.inj hL
    exact g_iret rfl dX10_next_15
