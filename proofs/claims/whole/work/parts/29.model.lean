def J_X10_ringsOften_39 (kh16 : Int32 → Int32 → wS → Option (wS)) (ke52 : wS → Option (wS)) (x2 : Int32) (w : wS) : Option (wS) :=
  xB (xAld w 21 6 (x2)) fun v1 => kh16 (v1) ((x2 + 1)) w
set_option maxRecDepth 20000 in
theorem J_X10_ringsOften_39_ok {G : aG} {Hf : wS → aH} {b : Nat} {kh16 : Int32 → Int32 → wS → Option (wS)} {ke52 : wS → Option (wS)} {x2 : Int32} {w : wS} {r : wS} (E : Emb Hf b 0 tbM) (hL : J_X10_ringsOften_39 kh16 ke52 x2 w = some r) (Hkh16 : ∀ (z0 : Int32) (z1 : Int32) (w : wS), kh16 z0 z1 w = some r → AG G M_X10_ringsOften 16 [some (.ref (b + 0)), some (.int (z0)), some (.int (z1))] [] (Hf w) (.inl none, Hf r)) (Hke52 : ∀ (w : wS), ke52  w = some r → AG G M_X10_ringsOften 52 [none, none, none] [] (Hf w) (.inl none, Hf r)) : AG G M_X10_ringsOften 39 [some (.ref (b + 0)), none, some (.int (x2))] [] (Hf w) (.inl none, Hf r) := by
  unfold J_X10_ringsOften_39 at hL
  refine g_aload_n dX10_ringsOften_39 rfl rfl ?_
  refine s_getR (j := 47) E rfl rfl f_X10_84 dX10_ringsOften_40 ?_
  refine g_iload_n dX10_ringsOften_43 rfl rfl ?_
  refine s_iald (k := 21) E hL rfl dX10_ringsOften_44 ?_
  intro v1 hL
  refine g_istore_n (i := 1) dX10_ringsOften_45 rfl (by decide) rfl ?_
  refine g_iincV (v := (x2 + 1)) dX10_ringsOften_46 rfl rfl (by decide) rfl ?_
  refine g_goto (tgt := 16) dX10_ringsOften_49 (by decide) ?_
  exact Hkh16 _ _ _ hL
def B_X10_ringsOften_16 (kh16 : Int32 → Int32 → wS → Option (wS)) (ke52 : wS → Option (wS)) (x1 : Int32) (x2 : Int32) (w : wS) : Option (wS) :=
  xB (xGet w 2) fun v2 => if v2 ≤ x2 then ke52  w else if x1 = (-1) then J_X10_ringsOften_39 kh16 ke52 (x2) w else xB (xAld w 28 8 (x1)) fun v3 => xB (xAst w 28 8 (x1) ((v3 + 1))) fun w4 => J_X10_ringsOften_39 kh16 ke52 (x2) w4
set_option maxRecDepth 20000 in
theorem B_X10_ringsOften_16_ok {G : aG} {Hf : wS → aH} {b : Nat} {kh16 : Int32 → Int32 → wS → Option (wS)} {ke52 : wS → Option (wS)} {x1 : Int32} {x2 : Int32} {w : wS} {r : wS} (E : Emb Hf b 0 tbM) (hL : B_X10_ringsOften_16 kh16 ke52 x1 x2 w = some r) (Hkh16 : ∀ (z0 : Int32) (z1 : Int32) (w : wS), kh16 z0 z1 w = some r → AG G M_X10_ringsOften 16 [some (.ref (b + 0)), some (.int (z0)), some (.int (z1))] [] (Hf w) (.inl none, Hf r)) (Hke52 : ∀ (w : wS), ke52  w = some r → AG G M_X10_ringsOften 52 [none, none, none] [] (Hf w) (.inl none, Hf r)) : AG G M_X10_ringsOften 16 [some (.ref (b + 0)), some (.int (x1)), some (.int (x2))] [] (Hf w) (.inl none, Hf r) := by
  unfold B_X10_ringsOften_16 at hL
  refine g_iload_n dX10_ringsOften_16 rfl rfl ?_
  refine g_aload_n dX10_ringsOften_17 rfl rfl ?_
  refine s_getI (k := 0) (j := 2) E hL rfl rfl f_X10_281 dX10_ringsOften_18 ?_
  intro v2 hL
  refine g_icmp_ge (tgt := 52) dX10_ringsOften_21 (by decide) (fun q6 => ?_) (fun q6 => ?_)
  · rw [if_pos q6] at hL
    refine g_none 0 ?_
    refine g_none 1 ?_
    refine g_none 2 ?_
    exact Hke52  _ hL
  · rw [if_neg q6] at hL
    refine g_iload_n dX10_ringsOften_24 rfl rfl ?_
    refine g_iconst (v := (-1)) dX10_ringsOften_25 (by decide) ?_
    refine g_icmp_eq (tgt := 39) dX10_ringsOften_26 (by decide) (fun q5 => ?_) (fun q5 => ?_)
    · rw [if_pos q5] at hL
      refine g_none 1 ?_
      exact J_X10_ringsOften_39_ok E hL Hkh16 Hke52
    · rw [if_neg q5] at hL
      refine g_aload_n dX10_ringsOften_29 rfl rfl ?_
      refine s_getR (j := 63) E rfl rfl f_X10_108 dX10_ringsOften_30 ?_
      refine g_iload_n dX10_ringsOften_33 rfl rfl ?_
      refine g_none 1 ?_
      refine g_dup2 dX10_ringsOften_34 rfl rfl ?_
      refine s_iald (k := 28) E hL rfl dX10_ringsOften_35 ?_
      intro v3 hL
      refine g_iconst (v := 1) dX10_ringsOften_36 (by decide) ?_
      refine g_iadd dX10_ringsOften_37 ?_
      refine s_iast (k := 28) E hL rfl dX10_ringsOften_38 ?_
      intro w4 hL
      exact J_X10_ringsOften_39_ok E hL Hkh16 Hke52
def P_X10_ringsOften_16 (ke52 : wS → Option (wS)) (n : Nat) (x1 : Int32) (x2 : Int32) (w : wS) : Option (wS) :=
  xLoop (fun (kk : Int32 × Int32 × wS → Option (wS)) σ => B_X10_ringsOften_16 (fun x1 x2 w => kk (x1, x2, w)) ke52 (σ.1) (σ.2.1) (σ.2.2)) n (x1, x2, w)
theorem P_X10_ringsOften_16_ok {G : aG} {Hf : wS → aH} {b : Nat} {ke52 : wS → Option (wS)} {n : Nat} {x1 : Int32} {x2 : Int32} {w : wS} {r : wS} (E : Emb Hf b 0 tbM) (hL : P_X10_ringsOften_16 ke52 n x1 x2 w = some r) (Hke52 : ∀ (w : wS), ke52  w = some r → AG G M_X10_ringsOften 52 [none, none, none] [] (Hf w) (.inl none, Hf r)) : AG G M_X10_ringsOften 16 [some (.ref (b + 0)), some (.int (x1)), some (.int (x2))] [] (Hf w) (.inl none, Hf r) :=
  xLoop_ok (Q := fun (σ : Int32 × Int32 × wS) => AG G M_X10_ringsOften 16 [some (.ref (b + 0)), some (.int (σ.1)), some (.int (σ.2.1))] [] (Hf σ.2.2) (.inl none, Hf r)) (fun kk hk σ hσ => B_X10_ringsOften_16_ok E hσ (fun x1 x2 w h9 => hk (x1, x2, w) h9) Hke52) n (x1, x2, w) hL
def L_X10_ringsOften (w : wS) : Option (wS) :=
  xB (xAld w 16 66 (34)) fun v7 => xB (L_X10_dayGoes (33) w) fun w8 => P_X10_ringsOften_16 (fun w9 => some w9) 5000 (v7) (0) w8
set_option maxRecDepth 20000 in
theorem C_X10_ringsOften {G : aG} {Hf : wS → aH} {b : Nat} {w : wS} {r : wS} (E : Emb Hf b 0 tbM) (hL : L_X10_ringsOften  w = some r) : AC G M_X10_ringsOften [.ref (b + 0)] (Hf w) (.inl none, Hf r) := by
  unfold L_X10_ringsOften at hL
  refine AC.of (by decide) rfl (Nat.le_of_ble_eq_true rfl) ?_
  show AG G M_X10_ringsOften 0 [some (.ref (b + 0)), none, none] [] _ _
  refine g_aload_n dX10_ringsOften_0 rfl rfl ?_
  refine s_getR (j := 41) E rfl rfl f_X10_69 dX10_ringsOften_1 ?_
  refine g_bipush (v := 34) dX10_ringsOften_4 (by decide) ?_
  refine s_iald (k := 16) E hL rfl dX10_ringsOften_6 ?_
  intro v7 hL
  refine g_istore_n (i := 1) dX10_ringsOften_7 rfl (by decide) rfl ?_
  refine g_aload_n dX10_ringsOften_8 rfl rfl ?_
  refine g_bipush (v := 33) dX10_ringsOften_9 (by decide) ?_
  obtain ⟨w8, hc, hL⟩ := xB_some hL
  refine g_callV (M' := M_X10_dayGoes) (as := [.int (33)]) (v := none) l_X10_358 kV_X10_dayGoes (by decide) (C_X10_dayGoes E hc) rfl (by have := E.1; omega) (E.2.1 _ 0 _ rfl) ⟨_, _, rfl⟩ (Nat.le_of_ble_eq_true rfl) dX10_ringsOften_11 ?_
  refine g_iconst (v := 0) dX10_ringsOften_14 (by decide) ?_
  refine g_istore_n (i := 2) dX10_ringsOften_15 rfl (by decide) rfl ?_
  refine P_X10_ringsOften_16_ok E hL ?_
  · intro w9 hL
    obtain rfl := Option.some.inj hL
    exact g_vret rfl dX10_ringsOften_52
def J_X10_most_97 (kh63 : Int32 → Int32 → wS → Option (Int32 × wS)) (ke103 : Int32 → wS → Option (Int32 × wS)) (x2 : Int32) (x3 : Int32) (w : wS) : Option (Int32 × wS) :=
  kh63 (x2) ((x3 + 1)) w
set_option maxRecDepth 20000 in
theorem J_X10_most_97_ok {G : aG} {Hf : wS → aH} {b : Nat} {kh63 : Int32 → Int32 → wS → Option (Int32 × wS)} {ke103 : Int32 → wS → Option (Int32 × wS)} {x2 : Int32} {x3 : Int32} {w : wS} {r : Int32 × wS} (E : Emb Hf b 0 tbM) (hL : J_X10_most_97 kh63 ke103 x2 x3 w = some r) (Hkh63 : ∀ (z0 : Int32) (z1 : Int32) (w : wS), kh63 z0 z1 w = some r → AG G M_X10_most 63 [some (.ref (b + 0)), none, some (.int (z0)), some (.int (z1))] [] (Hf w) (.inl (some (.int r.1)), Hf r.2)) (Hke103 : ∀ (z0 : Int32) (w : wS), ke103 z0 w = some r → AG G M_X10_most 103 [none, none, some (.int (z0)), none] [] (Hf w) (.inl (some (.int r.1)), Hf r.2)) : AG G M_X10_most 97 [some (.ref (b + 0)), none, some (.int (x2)), some (.int (x3))] [] (Hf w) (.inl (some (.int r.1)), Hf r.2) := by
  unfold J_X10_most_97 at hL
  refine g_iincV (v := (x3 + 1)) dX10_most_97 rfl rfl (by decide) rfl ?_
  refine g_goto (tgt := 63) dX10_most_100 (by decide) ?_
  exact Hkh63 _ _ _ hL
def J_X10_most_92 (kh63 : Int32 → Int32 → wS → Option (Int32 × wS)) (ke103 : Int32 → wS → Option (Int32 × wS)) (x2 : Int32) (x3 : Int32) (y0 : Int32) (y1 : Int32) (w : wS) : Option (Int32 × wS) :=
  if y0 ≤ y1 then J_X10_most_97 kh63 ke103 (x2) (x3) w else J_X10_most_97 kh63 ke103 (x3) (x3) w
set_option maxRecDepth 20000 in
theorem J_X10_most_92_ok {G : aG} {Hf : wS → aH} {b : Nat} {kh63 : Int32 → Int32 → wS → Option (Int32 × wS)} {ke103 : Int32 → wS → Option (Int32 × wS)} {x2 : Int32} {x3 : Int32} {y0 : Int32} {y1 : Int32} {w : wS} {r : Int32 × wS} (E : Emb Hf b 0 tbM) (hL : J_X10_most_92 kh63 ke103 x2 x3 y0 y1 w = some r) (Hkh63 : ∀ (z0 : Int32) (z1 : Int32) (w : wS), kh63 z0 z1 w = some r → AG G M_X10_most 63 [some (.ref (b + 0)), none, some (.int (z0)), some (.int (z1))] [] (Hf w) (.inl (some (.int r.1)), Hf r.2)) (Hke103 : ∀ (z0 : Int32) (w : wS), ke103 z0 w = some r → AG G M_X10_most 103 [none, none, some (.int (z0)), none] [] (Hf w) (.inl (some (.int r.1)), Hf r.2)) : AG G M_X10_most 92 [some (.ref (b + 0)), none, some (.int (x2)), some (.int (x3))] [.int (y1), .int (y0)] (Hf w) (.inl (some (.int r.1)), Hf r.2) := by
  unfold J_X10_most_92 at hL
  refine g_icmp_le (tgt := 97) dX10_most_92 (by decide) (fun q1 => ?_) (fun q1 => ?_)
  · rw [if_pos q1] at hL
    exact J_X10_most_97_ok E hL Hkh63 Hke103
  · rw [if_neg q1] at hL
    refine g_none 2 ?_
    refine g_iload_n dX10_most_95 rfl rfl ?_
    refine g_istore_n (i := 2) dX10_most_96 rfl (by decide) rfl ?_
    exact J_X10_most_97_ok E hL Hkh63 Hke103
def B_X10_most_63 (kh63 : Int32 → Int32 → wS → Option (Int32 × wS)) (ke103 : Int32 → wS → Option (Int32 × wS)) (x2 : Int32) (x3 : Int32) (w : wS) : Option (Int32 × wS) :=
  xB (xGet w 1) fun v2 => if v2 ≤ x3 then ke103 (x2) w else xB (xAld w 28 8 (x3)) fun v3 => if x2 = (-1) then J_X10_most_92 kh63 ke103 (x2) (x3) (v3) (0) w else xB (xAld w 28 8 (x2)) fun v4 => J_X10_most_92 kh63 ke103 (x2) (x3) (v3) (v4) w
set_option maxRecDepth 20000 in
theorem B_X10_most_63_ok {G : aG} {Hf : wS → aH} {b : Nat} {kh63 : Int32 → Int32 → wS → Option (Int32 × wS)} {ke103 : Int32 → wS → Option (Int32 × wS)} {x2 : Int32} {x3 : Int32} {w : wS} {r : Int32 × wS} (E : Emb Hf b 0 tbM) (hL : B_X10_most_63 kh63 ke103 x2 x3 w = some r) (Hkh63 : ∀ (z0 : Int32) (z1 : Int32) (w : wS), kh63 z0 z1 w = some r → AG G M_X10_most 63 [some (.ref (b + 0)), none, some (.int (z0)), some (.int (z1))] [] (Hf w) (.inl (some (.int r.1)), Hf r.2)) (Hke103 : ∀ (z0 : Int32) (w : wS), ke103 z0 w = some r → AG G M_X10_most 103 [none, none, some (.int (z0)), none] [] (Hf w) (.inl (some (.int r.1)), Hf r.2)) : AG G M_X10_most 63 [some (.ref (b + 0)), none, some (.int (x2)), some (.int (x3))] [] (Hf w) (.inl (some (.int r.1)), Hf r.2) := by
  unfold B_X10_most_63 at hL
  refine g_iload_n dX10_most_63 rfl rfl ?_
  refine g_aload_n dX10_most_64 rfl rfl ?_
  refine s_getI (k := 0) (j := 1) E hL rfl rfl f_X10_278 dX10_most_65 ?_
  intro v2 hL
  refine g_icmp_ge (tgt := 103) dX10_most_68 (by decide) (fun q6 => ?_) (fun q6 => ?_)
  · rw [if_pos q6] at hL
    refine g_none 0 ?_
    refine g_none 3 ?_
    exact Hke103 _ _ hL
  · rw [if_neg q6] at hL
    refine g_aload_n dX10_most_71 rfl rfl ?_
    refine s_getR (j := 63) E rfl rfl f_X10_108 dX10_most_72 ?_
    refine g_iload_n dX10_most_75 rfl rfl ?_
    refine s_iald (k := 28) E hL rfl dX10_most_76 ?_
    intro v3 hL
    refine g_iload_n dX10_most_77 rfl rfl ?_
    refine g_iconst (v := (-1)) dX10_most_78 (by decide) ?_
    refine g_icmp_ne (tgt := 86) dX10_most_79 (by decide) (fun q5 => ?_) (fun q5 => ?_)
    · rw [if_neg q5] at hL
      refine g_aload_n dX10_most_86 rfl rfl ?_
      refine s_getR (j := 63) E rfl rfl f_X10_108 dX10_most_87 ?_
      refine g_iload_n dX10_most_90 rfl rfl ?_
      refine s_iald (k := 28) E hL rfl dX10_most_91 ?_
      intro v4 hL
      exact J_X10_most_92_ok E hL Hkh63 Hke103
    · rw [if_pos q5] at hL
      refine g_iconst (v := 0) dX10_most_82 (by decide) ?_
      refine g_goto (tgt := 92) dX10_most_83 (by decide) ?_
      exact J_X10_most_92_ok E hL Hkh63 Hke103
def P_X10_most_63 (ke103 : Int32 → wS → Option (Int32 × wS)) (n : Nat) (x2 : Int32) (x3 : Int32) (w : wS) : Option (Int32 × wS) :=
  xLoop (fun (kk : Int32 × Int32 × wS → Option (Int32 × wS)) σ => B_X10_most_63 (fun x2 x3 w => kk (x2, x3, w)) ke103 (σ.1) (σ.2.1) (σ.2.2)) n (x2, x3, w)
theorem P_X10_most_63_ok {G : aG} {Hf : wS → aH} {b : Nat} {ke103 : Int32 → wS → Option (Int32 × wS)} {n : Nat} {x2 : Int32} {x3 : Int32} {w : wS} {r : Int32 × wS} (E : Emb Hf b 0 tbM) (hL : P_X10_most_63 ke103 n x2 x3 w = some r) (Hke103 : ∀ (z0 : Int32) (w : wS), ke103 z0 w = some r → AG G M_X10_most 103 [none, none, some (.int (z0)), none] [] (Hf w) (.inl (some (.int r.1)), Hf r.2)) : AG G M_X10_most 63 [some (.ref (b + 0)), none, some (.int (x2)), some (.int (x3))] [] (Hf w) (.inl (some (.int r.1)), Hf r.2) :=
  xLoop_ok (Q := fun (σ : Int32 × Int32 × wS) => AG G M_X10_most 63 [some (.ref (b + 0)), none, some (.int (σ.1)), some (.int (σ.2.1))] [] (Hf σ.2.2) (.inl (some (.int r.1)), Hf r.2)) (fun kk hk σ hσ => B_X10_most_63_ok E hσ (fun x2 x3 w h9 => hk (x2, x3, w) h9) Hke103) n (x2, x3, w) hL
def B_X10_most_44 (kh44 : Int32 → Int32 → wS → Option (Int32 × wS)) (ke59 : wS → Option (Int32 × wS)) (x1 : Int32) (x2 : Int32) (w : wS) : Option (Int32 × wS) :=
  if x1 ≤ x2 then ke59  w else xB (L_X10_ringsOften  w) fun w7 => kh44 (x1) ((x2 + 1)) w7
set_option maxRecDepth 20000 in
theorem B_X10_most_44_ok {G : aG} {Hf : wS → aH} {b : Nat} {kh44 : Int32 → Int32 → wS → Option (Int32 × wS)} {ke59 : wS → Option (Int32 × wS)} {x1 : Int32} {x2 : Int32} {w : wS} {r : Int32 × wS} (E : Emb Hf b 0 tbM) (hL : B_X10_most_44 kh44 ke59 x1 x2 w = some r) (Hkh44 : ∀ (z0 : Int32) (z1 : Int32) (w : wS), kh44 z0 z1 w = some r → AG G M_X10_most 44 [some (.ref (b + 0)), some (.int (z0)), some (.int (z1)), none] [] (Hf w) (.inl (some (.int r.1)), Hf r.2)) (Hke59 : ∀ (w : wS), ke59  w = some r → AG G M_X10_most 59 [some (.ref (b + 0)), none, none, none] [] (Hf w) (.inl (some (.int r.1)), Hf r.2)) : AG G M_X10_most 44 [some (.ref (b + 0)), some (.int (x1)), some (.int (x2)), none] [] (Hf w) (.inl (some (.int r.1)), Hf r.2) := by
  unfold B_X10_most_44 at hL
  refine g_iload_n dX10_most_44 rfl rfl ?_
  refine g_iload_n dX10_most_45 rfl rfl ?_
  refine g_icmp_ge (tgt := 59) dX10_most_46 (by decide) (fun q8 => ?_) (fun q8 => ?_)
  · rw [if_pos q8] at hL
    refine g_none 1 ?_
    refine g_none 2 ?_
    exact Hke59  _ hL
  · rw [if_neg q8] at hL
    refine g_aload_n dX10_most_49 rfl rfl ?_
    obtain ⟨w7, hc, hL⟩ := xB_some hL
    refine g_callV (M' := M_X10_ringsOften) (as := []) (v := none) l_X10_428 kV_X10_ringsOften (by decide) (C_X10_ringsOften E hc) rfl (by have := E.1; omega) (E.2.1 _ 0 _ rfl) ⟨_, _, rfl⟩ (Nat.le_of_ble_eq_true rfl) dX10_most_50 ?_
    refine g_iincV (v := (x2 + 1)) dX10_most_53 rfl rfl (by decide) rfl ?_
    refine g_goto (tgt := 44) dX10_most_56 (by decide) ?_
    exact Hkh44 _ _ _ hL
def P_X10_most_44 (ke59 : wS → Option (Int32 × wS)) (n : Nat) (x1 : Int32) (x2 : Int32) (w : wS) : Option (Int32 × wS) :=
  xLoop (fun (kk : Int32 × Int32 × wS → Option (Int32 × wS)) σ => B_X10_most_44 (fun x1 x2 w => kk (x1, x2, w)) ke59 (σ.1) (σ.2.1) (σ.2.2)) n (x1, x2, w)
theorem P_X10_most_44_ok {G : aG} {Hf : wS → aH} {b : Nat} {ke59 : wS → Option (Int32 × wS)} {n : Nat} {x1 : Int32} {x2 : Int32} {w : wS} {r : Int32 × wS} (E : Emb Hf b 0 tbM) (hL : P_X10_most_44 ke59 n x1 x2 w = some r) (Hke59 : ∀ (w : wS), ke59  w = some r → AG G M_X10_most 59 [some (.ref (b + 0)), none, none, none] [] (Hf w) (.inl (some (.int r.1)), Hf r.2)) : AG G M_X10_most 44 [some (.ref (b + 0)), some (.int (x1)), some (.int (x2)), none] [] (Hf w) (.inl (some (.int r.1)), Hf r.2) :=
  xLoop_ok (Q := fun (σ : Int32 × Int32 × wS) => AG G M_X10_most 44 [some (.ref (b + 0)), some (.int (σ.1)), some (.int (σ.2.1)), none] [] (Hf σ.2.2) (.inl (some (.int r.1)), Hf r.2)) (fun kk hk σ hσ => B_X10_most_44_ok E hσ (fun x1 x2 w h9 => hk (x1, x2, w) h9) Hke59) n (x1, x2, w) hL
def B_X10_most_19 (kh19 : Int32 → Int32 → wS → Option (Int32 × wS)) (ke38 : Int32 → wS → Option (Int32 × wS)) (x1 : Int32) (x2 : Int32) (w : wS) : Option (Int32 × wS) :=
  if 8 ≤ x2 then ke38 (x1) w else xB (xAst w 28 8 (x2) (0)) fun w9 => kh19 (x1) ((x2 + 1)) w9
set_option maxRecDepth 20000 in
theorem B_X10_most_19_ok {G : aG} {Hf : wS → aH} {b : Nat} {kh19 : Int32 → Int32 → wS → Option (Int32 × wS)} {ke38 : Int32 → wS → Option (Int32 × wS)} {x1 : Int32} {x2 : Int32} {w : wS} {r : Int32 × wS} (E : Emb Hf b 0 tbM) (hL : B_X10_most_19 kh19 ke38 x1 x2 w = some r) (Hkh19 : ∀ (z0 : Int32) (z1 : Int32) (w : wS), kh19 z0 z1 w = some r → AG G M_X10_most 19 [some (.ref (b + 0)), some (.int (z0)), some (.int (z1)), none] [] (Hf w) (.inl (some (.int r.1)), Hf r.2)) (Hke38 : ∀ (z0 : Int32) (w : wS), ke38 z0 w = some r → AG G M_X10_most 38 [some (.ref (b + 0)), some (.int (z0)), none, none] [] (Hf w) (.inl (some (.int r.1)), Hf r.2)) : AG G M_X10_most 19 [some (.ref (b + 0)), some (.int (x1)), some (.int (x2)), none] [] (Hf w) (.inl (some (.int r.1)), Hf r.2) := by
  unfold B_X10_most_19 at hL
  refine g_iload_n dX10_most_19 rfl rfl ?_
  refine g_bipush (v := 8) dX10_most_20 (by decide) ?_
  refine g_icmp_ge (tgt := 38) dX10_most_22 (by decide) (fun q10 => ?_) (fun q10 => ?_)
  · rw [if_pos q10] at hL
    refine g_none 2 ?_
    exact Hke38 _ _ hL
  · rw [if_neg q10] at hL
    refine g_aload_n dX10_most_25 rfl rfl ?_
    refine s_getR (j := 63) E rfl rfl f_X10_108 dX10_most_26 ?_
    refine g_iload_n dX10_most_29 rfl rfl ?_
    refine g_iconst (v := 0) dX10_most_30 (by decide) ?_
    refine s_iast (k := 28) E hL rfl dX10_most_31 ?_
    intro w9 hL
    refine g_iincV (v := (x2 + 1)) dX10_most_32 rfl rfl (by decide) rfl ?_
    refine g_goto (tgt := 19) dX10_most_35 (by decide) ?_
    exact Hkh19 _ _ _ hL
def P_X10_most_19 (ke38 : Int32 → wS → Option (Int32 × wS)) (n : Nat) (x1 : Int32) (x2 : Int32) (w : wS) : Option (Int32 × wS) :=
  xLoop (fun (kk : Int32 × Int32 × wS → Option (Int32 × wS)) σ => B_X10_most_19 (fun x1 x2 w => kk (x1, x2, w)) ke38 (σ.1) (σ.2.1) (σ.2.2)) n (x1, x2, w)
theorem P_X10_most_19_ok {G : aG} {Hf : wS → aH} {b : Nat} {ke38 : Int32 → wS → Option (Int32 × wS)} {n : Nat} {x1 : Int32} {x2 : Int32} {w : wS} {r : Int32 × wS} (E : Emb Hf b 0 tbM) (hL : P_X10_most_19 ke38 n x1 x2 w = some r) (Hke38 : ∀ (z0 : Int32) (w : wS), ke38 z0 w = some r → AG G M_X10_most 38 [some (.ref (b + 0)), some (.int (z0)), none, none] [] (Hf w) (.inl (some (.int r.1)), Hf r.2)) : AG G M_X10_most 19 [some (.ref (b + 0)), some (.int (x1)), some (.int (x2)), none] [] (Hf w) (.inl (some (.int r.1)), Hf r.2) :=
  xLoop_ok (Q := fun (σ : Int32 × Int32 × wS) => AG G M_X10_most 19 [some (.ref (b + 0)), some (.int (σ.1)), some (.int (σ.2.1)), none] [] (Hf σ.2.2) (.inl (some (.int r.1)), Hf r.2)) (fun kk hk σ hσ => B_X10_most_19_ok E hσ (fun x1 x2 w h9 => hk (x1, x2, w) h9) Hke38) n (x1, x2, w) hL
def L_X10_most (a1 : Int32) (w : wS) : Option (Int32 × wS) :=
  xB (xPut w 0 (0)) fun w11 => xB2 (L_X10_isDays (a1) (1) (1) w11) fun v12 w13 => if v12 = 0 then some (0, w13) else P_X10_most_19 (fun z14 w15 => xB (L_X10_tries  w15) fun w16 => P_X10_most_44 (fun w17 => P_X10_most_63 (fun z18 w19 => some (z18, w19)) 5000 ((-1)) (0) w17) 5000 (z14) (0) w16) 5000 (a1) (0) w13
set_option maxRecDepth 20000 in
theorem C_X10_most {G : aG} {Hf : wS → aH} {b : Nat} {a1 : Int32} {w : wS} {r : Int32 × wS} (E : Emb Hf b 0 tbM) (hL : L_X10_most a1 w = some r) : AC G M_X10_most [.ref (b + 0), .int a1] (Hf w) (.inl (some (.int r.1)), Hf r.2) := by
  unfold L_X10_most at hL
  refine AC.of (by decide) rfl (Nat.le_of_ble_eq_true rfl) ?_
  show AG G M_X10_most 0 [some (.ref (b + 0)), some (.int (a1)), none, none] [] _ _
  refine g_aload_n dX10_most_0 rfl rfl ?_
  refine g_iconst (v := 0) dX10_most_1 (by decide) ?_
  refine s_putI (k := 0) (j := 0) E hL rfl rfl (by decide) fw_X10_120 rfl rfl dX10_most_2 ?_
  intro w11 hL
  refine g_aload_n dX10_most_5 rfl rfl ?_
  refine g_iload_n dX10_most_6 rfl rfl ?_
  refine g_iconst (v := 1) dX10_most_7 (by decide) ?_
  refine g_iconst (v := 1) dX10_most_8 (by decide) ?_
  obtain ⟨v12, w13, hc, hL⟩ := xB2_some hL
  refine g_callV (M' := M_X10_isDays) (as := [.int (a1), .int (1), .int (1)]) (v := some (.int (v12))) l_X10_394 kV_X10_isDays (by decide) (C_X10_isDays E hc) rfl (by have := E.1; omega) (E.2.1 _ 0 _ rfl) ⟨_, _, rfl⟩ (Nat.le_of_ble_eq_true rfl) dX10_most_9 ?_
  refine g_if_ne (tgt := 17) dX10_most_12 (by decide) (fun q20 => ?_) (fun q20 => ?_)
  · rw [if_neg q20] at hL
    refine g_iconst (v := 0) dX10_most_17 (by decide) ?_
    refine g_istore_n (i := 2) dX10_most_18 rfl (by decide) rfl ?_
    refine P_X10_most_19_ok E hL ?_
    · intro z14 w15 hL
      refine g_aload_n dX10_most_38 rfl rfl ?_
      obtain ⟨w16, hc, hL⟩ := xB_some hL
      refine g_callV (M' := M_X10_tries) (as := []) (v := none) l_X10_388 kV_X10_tries (by decide) (C_X10_tries E hc) rfl (by have := E.1; omega) (E.2.1 _ 0 _ rfl) ⟨_, _, rfl⟩ (Nat.le_of_ble_eq_true rfl) dX10_most_39 ?_
      refine g_iconst (v := 0) dX10_most_42 (by decide) ?_
      refine g_istore_n (i := 2) dX10_most_43 rfl (by decide) rfl ?_
      refine P_X10_most_44_ok E hL ?_
      · intro w17 hL
        refine g_iconst (v := (-1)) dX10_most_59 (by decide) ?_
        refine g_istore_n (i := 2) dX10_most_60 rfl (by decide) rfl ?_
        refine g_iconst (v := 0) dX10_most_61 (by decide) ?_
        refine g_istore_n (i := 3) dX10_most_62 rfl (by decide) rfl ?_
        refine P_X10_most_63_ok E hL ?_
        · intro z18 w19 hL
          refine g_iload_n dX10_most_103 rfl rfl ?_
          refine g_none 2 ?_
          obtain rfl := Option.some.inj hL
          exact g_iret rfl dX10_most_104
  · rw [if_pos q20] at hL
    refine g_none 0 ?_
    refine g_none 1 ?_
    refine g_iconst (v := 0) dX10_most_15 (by decide) ?_
    obtain rfl := Option.some.inj hL
    exact g_iret rfl dX10_most_16
def B_X10_soonest_36 (kh36 : Int32 → Int32 → Int32 → wS → Option (Int32 × wS)) (ke58 : Int32 → wS → Option (Int32 × wS)) (ke66 : wS → Option (Int32 × wS)) (x1 : Int32) (x2 : Int32) (x3 : Int32) (w : wS) : Option (Int32 × wS) :=
  if 40 < x3 then ke66  w else xB (L_X10_dayGoes (33) w) fun w1 => xB (xAld w1 20 6 (x1)) fun v2 => if v2 < x2 then kh36 (x1) (x2) ((x3 + 1)) w1 else ke58 (x3) w1
set_option maxRecDepth 20000 in
theorem B_X10_soonest_36_ok {G : aG} {Hf : wS → aH} {b : Nat} {kh36 : Int32 → Int32 → Int32 → wS → Option (Int32 × wS)} {ke58 : Int32 → wS → Option (Int32 × wS)} {ke66 : wS → Option (Int32 × wS)} {x1 : Int32} {x2 : Int32} {x3 : Int32} {w : wS} {r : Int32 × wS} (E : Emb Hf b 0 tbM) (hL : B_X10_soonest_36 kh36 ke58 ke66 x1 x2 x3 w = some r) (Hkh36 : ∀ (z0 : Int32) (z1 : Int32) (z2 : Int32) (w : wS), kh36 z0 z1 z2 w = some r → AG G M_X10_soonest 36 [some (.ref (b + 0)), some (.int (z0)), some (.int (z1)), some (.int (z2))] [] (Hf w) (.inl (some (.int r.1)), Hf r.2)) (Hke58 : ∀ (z0 : Int32) (w : wS), ke58 z0 w = some r → AG G M_X10_soonest 58 [none, none, none, some (.int (z0))] [] (Hf w) (.inl (some (.int r.1)), Hf r.2)) (Hke66 : ∀ (w : wS), ke66  w = some r → AG G M_X10_soonest 66 [none, none, none, none] [] (Hf w) (.inl (some (.int r.1)), Hf r.2)) : AG G M_X10_soonest 36 [some (.ref (b + 0)), some (.int (x1)), some (.int (x2)), some (.int (x3))] [] (Hf w) (.inl (some (.int r.1)), Hf r.2) := by
  unfold B_X10_soonest_36 at hL
  refine g_iload_n dX10_soonest_36 rfl rfl ?_
  refine g_bipush (v := 40) dX10_soonest_37 (by decide) ?_
  refine g_icmp_gt (tgt := 66) dX10_soonest_39 (by decide) (fun q4 => ?_) (fun q4 => ?_)
  · rw [if_pos q4] at hL
    refine g_none 0 ?_
    refine g_none 1 ?_
    refine g_none 2 ?_
    refine g_none 3 ?_
    exact Hke66  _ hL
  · rw [if_neg q4] at hL
    refine g_aload_n dX10_soonest_42 rfl rfl ?_
    refine g_bipush (v := 33) dX10_soonest_43 (by decide) ?_
    obtain ⟨w1, hc, hL⟩ := xB_some hL
    refine g_callV (M' := M_X10_dayGoes) (as := [.int (33)]) (v := none) l_X10_358 kV_X10_dayGoes (by decide) (C_X10_dayGoes E hc) rfl (by have := E.1; omega) (E.2.1 _ 0 _ rfl) ⟨_, _, rfl⟩ (Nat.le_of_ble_eq_true rfl) dX10_soonest_45 ?_
    refine g_aload_n dX10_soonest_48 rfl rfl ?_
    refine s_getR (j := 46) E rfl rfl f_X10_81 dX10_soonest_49 ?_
    refine g_iload_n dX10_soonest_52 rfl rfl ?_
    refine s_iald (k := 20) E hL rfl dX10_soonest_53 ?_
    intro v2 hL
    refine g_iload_n dX10_soonest_54 rfl rfl ?_
    refine g_icmp_lt (tgt := 60) dX10_soonest_55 (by decide) (fun q3 => ?_) (fun q3 => ?_)
    · rw [if_pos q3] at hL
      refine g_iincV (v := (x3 + 1)) dX10_soonest_60 rfl rfl (by decide) rfl ?_
      refine g_goto (tgt := 36) dX10_soonest_63 (by decide) ?_
      exact Hkh36 _ _ _ _ hL
    · rw [if_neg q3] at hL
      refine g_none 0 ?_
      refine g_none 1 ?_
      refine g_none 2 ?_
      exact Hke58 _ _ hL
def P_X10_soonest_36 (ke58 : Int32 → wS → Option (Int32 × wS)) (ke66 : wS → Option (Int32 × wS)) (n : Nat) (x1 : Int32) (x2 : Int32) (x3 : Int32) (w : wS) : Option (Int32 × wS) :=
  xLoop (fun (kk : Int32 × Int32 × Int32 × wS → Option (Int32 × wS)) σ => B_X10_soonest_36 (fun x1 x2 x3 w => kk (x1, x2, x3, w)) ke58 ke66 (σ.1) (σ.2.1) (σ.2.2.1) (σ.2.2.2)) n (x1, x2, x3, w)
theorem P_X10_soonest_36_ok {G : aG} {Hf : wS → aH} {b : Nat} {ke58 : Int32 → wS → Option (Int32 × wS)} {ke66 : wS → Option (Int32 × wS)} {n : Nat} {x1 : Int32} {x2 : Int32} {x3 : Int32} {w : wS} {r : Int32 × wS} (E : Emb Hf b 0 tbM) (hL : P_X10_soonest_36 ke58 ke66 n x1 x2 x3 w = some r) (Hke58 : ∀ (z0 : Int32) (w : wS), ke58 z0 w = some r → AG G M_X10_soonest 58 [none, none, none, some (.int (z0))] [] (Hf w) (.inl (some (.int r.1)), Hf r.2)) (Hke66 : ∀ (w : wS), ke66  w = some r → AG G M_X10_soonest 66 [none, none, none, none] [] (Hf w) (.inl (some (.int r.1)), Hf r.2)) : AG G M_X10_soonest 36 [some (.ref (b + 0)), some (.int (x1)), some (.int (x2)), some (.int (x3))] [] (Hf w) (.inl (some (.int r.1)), Hf r.2) :=
  xLoop_ok (Q := fun (σ : Int32 × Int32 × Int32 × wS) => AG G M_X10_soonest 36 [some (.ref (b + 0)), some (.int (σ.1)), some (.int (σ.2.1)), some (.int (σ.2.2.1))] [] (Hf σ.2.2.2) (.inl (some (.int r.1)), Hf r.2)) (fun kk hk σ hσ => B_X10_soonest_36_ok E hσ (fun x1 x2 x3 w h9 => hk (x1, x2, x3, w) h9) Hke58 Hke66) n (x1, x2, x3, w) hL
def J_X10_soonest_28 (w : wS) : Option (Int32 × wS) :=
  some (0, w)
set_option maxRecDepth 20000 in
theorem J_X10_soonest_28_ok {G : aG} {Hf : wS → aH} {b : Nat} {w : wS} {r : Int32 × wS} (E : Emb Hf b 0 tbM) (hL : J_X10_soonest_28   w = some r) : AG G M_X10_soonest 28 [none, none, none, none] [] (Hf w) (.inl (some (.int r.1)), Hf r.2) := by
  unfold J_X10_soonest_28 at hL
  refine g_iconst (v := 0) dX10_soonest_28 (by decide) ?_
  obtain rfl := Option.some.inj hL
  exact g_iret rfl dX10_soonest_29
def L_X10_soonest (a1 : Int32) (a2 : Int32) (w : wS) : Option (Int32 × wS) :=
  xB (xPut w 0 (0)) fun w5 => xB2 (L_X10_isDuty (a1) w5) fun v6 w7 => if v6 = 0 then J_X10_soonest_28   w7 else xB (L_X10_within (a2) (0) (120)) fun v8 => xB2 (L_X10_right (v8) (2) w7) fun v9 w10 => if v9 = 0 then J_X10_soonest_28   w10 else xB (L_X10_tries  w10) fun w11 => P_X10_soonest_36 (fun z12 w13 => some (z12, w13)) (fun w14 => some ((-1), w14)) 5000 (a1) (a2) (1) w11
set_option maxRecDepth 20000 in
theorem C_X10_soonest {G : aG} {Hf : wS → aH} {b : Nat} {a1 : Int32} {a2 : Int32} {w : wS} {r : Int32 × wS} (E : Emb Hf b 0 tbM) (hL : L_X10_soonest a1 a2 w = some r) : AC G M_X10_soonest [.ref (b + 0), .int a1, .int a2] (Hf w) (.inl (some (.int r.1)), Hf r.2) := by
  unfold L_X10_soonest at hL
  refine AC.of (by decide) rfl (Nat.le_of_ble_eq_true rfl) ?_
  show AG G M_X10_soonest 0 [some (.ref (b + 0)), some (.int (a1)), some (.int (a2)), none] [] _ _
  refine g_aload_n dX10_soonest_0 rfl rfl ?_
  refine g_iconst (v := 0) dX10_soonest_1 (by decide) ?_
  refine s_putI (k := 0) (j := 0) E hL rfl rfl (by decide) fw_X10_120 rfl rfl dX10_soonest_2 ?_
  intro w5 hL
  refine g_aload_n dX10_soonest_5 rfl rfl ?_
  refine g_iload_n dX10_soonest_6 rfl rfl ?_
  obtain ⟨v6, w7, hc, hL⟩ := xB2_some hL
  refine g_callV (M' := M_X10_isDuty) (as := [.int (a1)]) (v := some (.int (v6))) l_X10_376 kV_X10_isDuty (by decide) (C_X10_isDuty E hc) rfl (by have := E.1; omega) (E.2.1 _ 0 _ rfl) ⟨_, _, rfl⟩ (Nat.le_of_ble_eq_true rfl) dX10_soonest_7 ?_
  refine g_if_eq (tgt := 28) dX10_soonest_10 (by decide) (fun q16 => ?_) (fun q16 => ?_)
  · rw [if_pos q16] at hL
    refine g_none 0 ?_
    refine g_none 1 ?_
    refine g_none 2 ?_
    exact J_X10_soonest_28_ok E hL 
  · rw [if_neg q16] at hL
    refine g_aload_n dX10_soonest_13 rfl rfl ?_
    refine g_iload_n dX10_soonest_14 rfl rfl ?_
    refine g_iconst (v := 0) dX10_soonest_15 (by decide) ?_
    refine g_bipush (v := 120) dX10_soonest_16 (by decide) ?_
    obtain ⟨v8, hc, hL⟩ := xB_some hL
    refine g_callS (M' := M_X10_within) (as := [.int (a2), .int (0), .int (120)]) (v := some (.int (v8))) l_X10_361 kS_X10_within (by decide) (C_X10_within hc) rfl (Nat.le_of_ble_eq_true rfl) dX10_soonest_18 ?_
    refine g_iconst (v := 2) dX10_soonest_21 (by decide) ?_
    obtain ⟨v9, w10, hc, hL⟩ := xB2_some hL
    refine g_callV (M' := M_X10_right) (as := [.int (v8), .int (2)]) (v := some (.int (v9))) l_X10_271 kV_X10_right (by decide) (C_X10_right E hc) rfl (by have := E.1; omega) (E.2.1 _ 0 _ rfl) ⟨_, _, rfl⟩ (Nat.le_of_ble_eq_true rfl) dX10_soonest_22 ?_
    refine g_if_ne (tgt := 30) dX10_soonest_25 (by decide) (fun q15 => ?_) (fun q15 => ?_)
    · rw [if_neg q15] at hL
      refine g_aload_n dX10_soonest_30 rfl rfl ?_
      obtain ⟨w11, hc, hL⟩ := xB_some hL
      refine g_callV (M' := M_X10_tries) (as := []) (v := none) l_X10_388 kV_X10_tries (by decide) (C_X10_tries E hc) rfl (by have := E.1; omega) (E.2.1 _ 0 _ rfl) ⟨_, _, rfl⟩ (Nat.le_of_ble_eq_true rfl) dX10_soonest_31 ?_
      refine g_iconst (v := 1) dX10_soonest_34 (by decide) ?_
      refine g_istore_n (i := 3) dX10_soonest_35 rfl (by decide) rfl ?_
      refine P_X10_soonest_36_ok E hL ?_ ?_
      · intro z12 w13 hL
        refine g_iload_n dX10_soonest_58 rfl rfl ?_
        refine g_none 3 ?_
        obtain rfl := Option.some.inj hL
        exact g_iret rfl dX10_soonest_59
      · intro w14 hL
        refine g_iconst (v := (-1)) dX10_soonest_66 (by decide) ?_
        obtain rfl := Option.some.inj hL
        exact g_iret rfl dX10_soonest_67
    · rw [if_pos q15] at hL
      refine g_none 0 ?_
      refine g_none 1 ?_
      refine g_none 2 ?_
      exact J_X10_soonest_28_ok E hL 
def B_X10_handed_25 (kh25 : Int32 → Int32 → Int32 → wS → Option (Int32 × wS)) (ke49 : Int32 → wS → Option (Int32 × wS)) (x1 : Int32) (x2 : Int32) (x3 : Int32) (w : wS) : Option (Int32 × wS) :=
  if x1 ≤ x3 then ke49 (x2) w else xB (L_X10_dayGoes (33) w) fun w1 => xB (xGet w1 50) fun v2 => kh25 (x1) ((x2 + v2)) ((x3 + 1)) w1
set_option maxRecDepth 20000 in
theorem B_X10_handed_25_ok {G : aG} {Hf : wS → aH} {b : Nat} {kh25 : Int32 → Int32 → Int32 → wS → Option (Int32 × wS)} {ke49 : Int32 → wS → Option (Int32 × wS)} {x1 : Int32} {x2 : Int32} {x3 : Int32} {w : wS} {r : Int32 × wS} (E : Emb Hf b 0 tbM) (hL : B_X10_handed_25 kh25 ke49 x1 x2 x3 w = some r) (Hkh25 : ∀ (z0 : Int32) (z1 : Int32) (z2 : Int32) (w : wS), kh25 z0 z1 z2 w = some r → AG G M_X10_handed 25 [some (.ref (b + 0)), some (.int (z0)), some (.int (z1)), some (.int (z2))] [] (Hf w) (.inl (some (.int r.1)), Hf r.2)) (Hke49 : ∀ (z0 : Int32) (w : wS), ke49 z0 w = some r → AG G M_X10_handed 49 [none, none, some (.int (z0)), none] [] (Hf w) (.inl (some (.int r.1)), Hf r.2)) : AG G M_X10_handed 25 [some (.ref (b + 0)), some (.int (x1)), some (.int (x2)), some (.int (x3))] [] (Hf w) (.inl (some (.int r.1)), Hf r.2) := by
  unfold B_X10_handed_25 at hL
  refine g_iload_n dX10_handed_25 rfl rfl ?_
  refine g_iload_n dX10_handed_26 rfl rfl ?_
  refine g_icmp_ge (tgt := 49) dX10_handed_27 (by decide) (fun q3 => ?_) (fun q3 => ?_)
  · rw [if_pos q3] at hL
    refine g_none 0 ?_
    refine g_none 1 ?_
    refine g_none 3 ?_
    exact Hke49 _ _ hL
  · rw [if_neg q3] at hL
    refine g_aload_n dX10_handed_30 rfl rfl ?_
    refine g_bipush (v := 33) dX10_handed_31 (by decide) ?_
    obtain ⟨w1, hc, hL⟩ := xB_some hL
    refine g_callV (M' := M_X10_dayGoes) (as := [.int (33)]) (v := none) l_X10_358 kV_X10_dayGoes (by decide) (C_X10_dayGoes E hc) rfl (by have := E.1; omega) (E.2.1 _ 0 _ rfl) ⟨_, _, rfl⟩ (Nat.le_of_ble_eq_true rfl) dX10_handed_33 ?_
    refine g_iload_n dX10_handed_36 rfl rfl ?_
    refine g_none 2 ?_
    refine g_aload_n dX10_handed_37 rfl rfl ?_
    refine s_getI (k := 0) (j := 50) E hL rfl rfl f_X10_351 dX10_handed_38 ?_
    intro v2 hL
    refine g_iadd dX10_handed_41 ?_
    refine g_istore_n (i := 2) dX10_handed_42 rfl (by decide) rfl ?_
    refine g_iincV (v := (x3 + 1)) dX10_handed_43 rfl rfl (by decide) rfl ?_
    refine g_goto (tgt := 25) dX10_handed_46 (by decide) ?_
    exact Hkh25 _ _ _ _ hL
def P_X10_handed_25 (ke49 : Int32 → wS → Option (Int32 × wS)) (n : Nat) (x1 : Int32) (x2 : Int32) (x3 : Int32) (w : wS) : Option (Int32 × wS) :=
  xLoop (fun (kk : Int32 × Int32 × Int32 × wS → Option (Int32 × wS)) σ => B_X10_handed_25 (fun x1 x2 x3 w => kk (x1, x2, x3, w)) ke49 (σ.1) (σ.2.1) (σ.2.2.1) (σ.2.2.2)) n (x1, x2, x3, w)
theorem P_X10_handed_25_ok {G : aG} {Hf : wS → aH} {b : Nat} {ke49 : Int32 → wS → Option (Int32 × wS)} {n : Nat} {x1 : Int32} {x2 : Int32} {x3 : Int32} {w : wS} {r : Int32 × wS} (E : Emb Hf b 0 tbM) (hL : P_X10_handed_25 ke49 n x1 x2 x3 w = some r) (Hke49 : ∀ (z0 : Int32) (w : wS), ke49 z0 w = some r → AG G M_X10_handed 49 [none, none, some (.int (z0)), none] [] (Hf w) (.inl (some (.int r.1)), Hf r.2)) : AG G M_X10_handed 25 [some (.ref (b + 0)), some (.int (x1)), some (.int (x2)), some (.int (x3))] [] (Hf w) (.inl (some (.int r.1)), Hf r.2) :=
  xLoop_ok (Q := fun (σ : Int32 × Int32 × Int32 × wS) => AG G M_X10_handed 25 [some (.ref (b + 0)), some (.int (σ.1)), some (.int (σ.2.1)), some (.int (σ.2.2.1))] [] (Hf σ.2.2.2) (.inl (some (.int r.1)), Hf r.2)) (fun kk hk σ hσ => B_X10_handed_25_ok E hσ (fun x1 x2 x3 w h9 => hk (x1, x2, x3, w) h9) Hke49) n (x1, x2, x3, w) hL
def L_X10_handed (a1 : Int32) (w : wS) : Option (Int32 × wS) :=
  xB (xPut w 0 (0)) fun w4 => xB2 (L_X10_isDays (a1) (0) (1) w4) fun v5 w6 => if v5 = 0 then some (0, w6) else xB (L_X10_tries  w6) fun w7 => P_X10_handed_25 (fun z8 w9 => some (z8, w9)) 5000 (a1) (0) (0) w7
set_option maxRecDepth 20000 in
theorem C_X10_handed {G : aG} {Hf : wS → aH} {b : Nat} {a1 : Int32} {w : wS} {r : Int32 × wS} (E : Emb Hf b 0 tbM) (hL : L_X10_handed a1 w = some r) : AC G M_X10_handed [.ref (b + 0), .int a1] (Hf w) (.inl (some (.int r.1)), Hf r.2) := by
  unfold L_X10_handed at hL
  refine AC.of (by decide) rfl (Nat.le_of_ble_eq_true rfl) ?_
  show AG G M_X10_handed 0 [some (.ref (b + 0)), some (.int (a1)), none, none] [] _ _
  refine g_aload_n dX10_handed_0 rfl rfl ?_
  refine g_iconst (v := 0) dX10_handed_1 (by decide) ?_
  refine s_putI (k := 0) (j := 0) E hL rfl rfl (by decide) fw_X10_120 rfl rfl dX10_handed_2 ?_
  intro w4 hL
  refine g_aload_n dX10_handed_5 rfl rfl ?_
  refine g_iload_n dX10_handed_6 rfl rfl ?_
  refine g_iconst (v := 0) dX10_handed_7 (by decide) ?_
  refine g_iconst (v := 1) dX10_handed_8 (by decide) ?_
  obtain ⟨v5, w6, hc, hL⟩ := xB2_some hL
  refine g_callV (M' := M_X10_isDays) (as := [.int (a1), .int (0), .int (1)]) (v := some (.int (v5))) l_X10_394 kV_X10_isDays (by decide) (C_X10_isDays E hc) rfl (by have := E.1; omega) (E.2.1 _ 0 _ rfl) ⟨_, _, rfl⟩ (Nat.le_of_ble_eq_true rfl) dX10_handed_9 ?_
  refine g_if_ne (tgt := 17) dX10_handed_12 (by decide) (fun q10 => ?_) (fun q10 => ?_)
  · rw [if_neg q10] at hL
    refine g_iconst (v := 0) dX10_handed_17 (by decide) ?_
    refine g_istore_n (i := 2) dX10_handed_18 rfl (by decide) rfl ?_
    refine g_aload_n dX10_handed_19 rfl rfl ?_
    obtain ⟨w7, hc, hL⟩ := xB_some hL
    refine g_callV (M' := M_X10_tries) (as := []) (v := none) l_X10_388 kV_X10_tries (by decide) (C_X10_tries E hc) rfl (by have := E.1; omega) (E.2.1 _ 0 _ rfl) ⟨_, _, rfl⟩ (Nat.le_of_ble_eq_true rfl) dX10_handed_20 ?_
    refine g_iconst (v := 0) dX10_handed_23 (by decide) ?_
    refine g_istore_n (i := 3) dX10_handed_24 rfl (by decide) rfl ?_
    refine P_X10_handed_25_ok E hL ?_
    · intro z8 w9 hL
      refine g_iload_n dX10_handed_49 rfl rfl ?_
      refine g_none 2 ?_
      obtain rfl := Option.some.inj hL
      exact g_iret rfl dX10_handed_50
  · rw [if_pos q10] at hL
    refine g_none 0 ?_
    refine g_none 1 ?_
    refine g_iconst (v := 0) dX10_handed_15 (by decide) ?_
    obtain rfl := Option.some.inj hL
    exact g_iret rfl dX10_handed_16
def J_X10_prompt_53 (kh19 : Int32 → Int32 → Int32 → wS → Option (Int32 × wS)) (ke61 : Int32 → wS → Option (Int32 × wS)) (x1 : Int32) (x3 : Int32) (y0 : Int32) (y1 : Int32) (w : wS) : Option (Int32 × wS) :=
  kh19 (x1) ((y0 ||| y1)) ((x3 + 1)) w
set_option maxRecDepth 20000 in
theorem J_X10_prompt_53_ok {G : aG} {Hf : wS → aH} {b : Nat} {kh19 : Int32 → Int32 → Int32 → wS → Option (Int32 × wS)} {ke61 : Int32 → wS → Option (Int32 × wS)} {x1 : Int32} {x3 : Int32} {y0 : Int32} {y1 : Int32} {w : wS} {r : Int32 × wS} (E : Emb Hf b 0 tbM) (hL : J_X10_prompt_53 kh19 ke61 x1 x3 y0 y1 w = some r) (Hkh19 : ∀ (z0 : Int32) (z1 : Int32) (z2 : Int32) (w : wS), kh19 z0 z1 z2 w = some r → AG G M_X10_prompt 19 [some (.ref (b + 0)), some (.int (z0)), some (.int (z1)), some (.int (z2))] [] (Hf w) (.inl (some (.int r.1)), Hf r.2)) (Hke61 : ∀ (z0 : Int32) (w : wS), ke61 z0 w = some r → AG G M_X10_prompt 61 [none, none, some (.int (z0)), none] [] (Hf w) (.inl (some (.int r.1)), Hf r.2)) : AG G M_X10_prompt 53 [some (.ref (b + 0)), some (.int (x1)), none, some (.int (x3))] [.int (y1), .int (y0)] (Hf w) (.inl (some (.int r.1)), Hf r.2) := by
  unfold J_X10_prompt_53 at hL
  refine g_ior dX10_prompt_53 ?_
  refine g_istore_n (i := 2) dX10_prompt_54 rfl (by decide) rfl ?_
  refine g_iincV (v := (x3 + 1)) dX10_prompt_55 rfl rfl (by decide) rfl ?_
  refine g_goto (tgt := 19) dX10_prompt_58 (by decide) ?_
  exact Hkh19 _ _ _ _ hL
def J_X10_prompt_52 (kh19 : Int32 → Int32 → Int32 → wS → Option (Int32 × wS)) (ke61 : Int32 → wS → Option (Int32 × wS)) (x1 : Int32) (x3 : Int32) (y0 : Int32) (w : wS) : Option (Int32 × wS) :=
  J_X10_prompt_53 kh19 ke61 (x1) (x3) (y0) (0) w
set_option maxRecDepth 20000 in
theorem J_X10_prompt_52_ok {G : aG} {Hf : wS → aH} {b : Nat} {kh19 : Int32 → Int32 → Int32 → wS → Option (Int32 × wS)} {ke61 : Int32 → wS → Option (Int32 × wS)} {x1 : Int32} {x3 : Int32} {y0 : Int32} {w : wS} {r : Int32 × wS} (E : Emb Hf b 0 tbM) (hL : J_X10_prompt_52 kh19 ke61 x1 x3 y0 w = some r) (Hkh19 : ∀ (z0 : Int32) (z1 : Int32) (z2 : Int32) (w : wS), kh19 z0 z1 z2 w = some r → AG G M_X10_prompt 19 [some (.ref (b + 0)), some (.int (z0)), some (.int (z1)), some (.int (z2))] [] (Hf w) (.inl (some (.int r.1)), Hf r.2)) (Hke61 : ∀ (z0 : Int32) (w : wS), ke61 z0 w = some r → AG G M_X10_prompt 61 [none, none, some (.int (z0)), none] [] (Hf w) (.inl (some (.int r.1)), Hf r.2)) : AG G M_X10_prompt 52 [some (.ref (b + 0)), some (.int (x1)), none, some (.int (x3))] [.int (y0)] (Hf w) (.inl (some (.int r.1)), Hf r.2) := by
  unfold J_X10_prompt_52 at hL
  refine g_iconst (v := 0) dX10_prompt_52 (by decide) ?_
  exact J_X10_prompt_53_ok E hL Hkh19 Hke61
def B_X10_prompt_19 (kh19 : Int32 → Int32 → Int32 → wS → Option (Int32 × wS)) (ke61 : Int32 → wS → Option (Int32 × wS)) (x1 : Int32) (x2 : Int32) (x3 : Int32) (w : wS) : Option (Int32 × wS) :=
  xB (xGet w 1) fun v1 => if v1 ≤ x3 then ke61 (x2) w else xB2 (L_X10_doesCount (x3) w) fun v2 w3 => if v2 = 0 then J_X10_prompt_52 kh19 ke61 (x1) (x3) (x2) w3 else xB2 (L_X10_wayOf (0) (x3) (x1) w3) fun v4 w5 => if v4 = 0 then J_X10_prompt_53 kh19 ke61 (x1) (x3) (x2) ((1 <<< (x3 &&& 31))) w5 else J_X10_prompt_52 kh19 ke61 (x1) (x3) (x2) w5
set_option maxRecDepth 20000 in
theorem B_X10_prompt_19_ok {G : aG} {Hf : wS → aH} {b : Nat} {kh19 : Int32 → Int32 → Int32 → wS → Option (Int32 × wS)} {ke61 : Int32 → wS → Option (Int32 × wS)} {x1 : Int32} {x2 : Int32} {x3 : Int32} {w : wS} {r : Int32 × wS} (E : Emb Hf b 0 tbM) (hL : B_X10_prompt_19 kh19 ke61 x1 x2 x3 w = some r) (Hkh19 : ∀ (z0 : Int32) (z1 : Int32) (z2 : Int32) (w : wS), kh19 z0 z1 z2 w = some r → AG G M_X10_prompt 19 [some (.ref (b + 0)), some (.int (z0)), some (.int (z1)), some (.int (z2))] [] (Hf w) (.inl (some (.int r.1)), Hf r.2)) (Hke61 : ∀ (z0 : Int32) (w : wS), ke61 z0 w = some r → AG G M_X10_prompt 61 [none, none, some (.int (z0)), none] [] (Hf w) (.inl (some (.int r.1)), Hf r.2)) : AG G M_X10_prompt 19 [some (.ref (b + 0)), some (.int (x1)), some (.int (x2)), some (.int (x3))] [] (Hf w) (.inl (some (.int r.1)), Hf r.2) := by
  unfold B_X10_prompt_19 at hL
  refine g_iload_n dX10_prompt_19 rfl rfl ?_
  refine g_aload_n dX10_prompt_20 rfl rfl ?_
  refine s_getI (k := 0) (j := 1) E hL rfl rfl f_X10_278 dX10_prompt_21 ?_
  intro v1 hL
  refine g_icmp_ge (tgt := 61) dX10_prompt_24 (by decide) (fun q8 => ?_) (fun q8 => ?_)
  · rw [if_pos q8] at hL
    refine g_none 0 ?_
    refine g_none 1 ?_
    refine g_none 3 ?_
    exact Hke61 _ _ hL
  · rw [if_neg q8] at hL
    refine g_iload_n dX10_prompt_27 rfl rfl ?_
    refine g_none 2 ?_
    refine g_aload_n dX10_prompt_28 rfl rfl ?_
    refine g_iload_n dX10_prompt_29 rfl rfl ?_
    obtain ⟨v2, w3, hc, hL⟩ := xB2_some hL
    refine g_callV (M' := M_X10_doesCount) (as := [.int (x3)]) (v := some (.int (v2))) l_X10_367 kV_X10_doesCount (by decide) (C_X10_doesCount E hc) rfl (by have := E.1; omega) (E.2.1 _ 0 _ rfl) ⟨_, _, rfl⟩ (Nat.le_of_ble_eq_true rfl) dX10_prompt_30 ?_
    refine g_if_eq (tgt := 52) dX10_prompt_33 (by decide) (fun q7 => ?_) (fun q7 => ?_)
    · rw [if_pos q7] at hL
      exact J_X10_prompt_52_ok E hL Hkh19 Hke61
    · rw [if_neg q7] at hL
      refine g_aload_n dX10_prompt_36 rfl rfl ?_
      refine g_iconst (v := 0) dX10_prompt_37 (by decide) ?_
      refine g_iload_n dX10_prompt_38 rfl rfl ?_
      refine g_iload_n dX10_prompt_39 rfl rfl ?_
      obtain ⟨v4, w5, hc, hL⟩ := xB2_some hL
      refine g_callV (M' := M_X10_wayOf) (as := [.int (0), .int (x3), .int (x1)]) (v := some (.int (v4))) l_X10_315 kV_X10_wayOf (by decide) (C_X10_wayOf E hc) rfl (by have := E.1; omega) (E.2.1 _ 0 _ rfl) ⟨_, _, rfl⟩ (Nat.le_of_ble_eq_true rfl) dX10_prompt_40 ?_
      refine g_if_ne (tgt := 52) dX10_prompt_43 (by decide) (fun q6 => ?_) (fun q6 => ?_)
      · rw [if_neg q6] at hL
        exact J_X10_prompt_52_ok E hL Hkh19 Hke61
      · rw [if_pos q6] at hL
        refine g_iconst (v := 1) dX10_prompt_46 (by decide) ?_
        refine g_iload_n dX10_prompt_47 rfl rfl ?_
        refine g_ishl dX10_prompt_48 ?_
        refine g_goto (tgt := 53) dX10_prompt_49 (by decide) ?_
        exact J_X10_prompt_53_ok E hL Hkh19 Hke61
def P_X10_prompt_19 (ke61 : Int32 → wS → Option (Int32 × wS)) (n : Nat) (x1 : Int32) (x2 : Int32) (x3 : Int32) (w : wS) : Option (Int32 × wS) :=
  xLoop (fun (kk : Int32 × Int32 × Int32 × wS → Option (Int32 × wS)) σ => B_X10_prompt_19 (fun x1 x2 x3 w => kk (x1, x2, x3, w)) ke61 (σ.1) (σ.2.1) (σ.2.2.1) (σ.2.2.2)) n (x1, x2, x3, w)
theorem P_X10_prompt_19_ok {G : aG} {Hf : wS → aH} {b : Nat} {ke61 : Int32 → wS → Option (Int32 × wS)} {n : Nat} {x1 : Int32} {x2 : Int32} {x3 : Int32} {w : wS} {r : Int32 × wS} (E : Emb Hf b 0 tbM) (hL : P_X10_prompt_19 ke61 n x1 x2 x3 w = some r) (Hke61 : ∀ (z0 : Int32) (w : wS), ke61 z0 w = some r → AG G M_X10_prompt 61 [none, none, some (.int (z0)), none] [] (Hf w) (.inl (some (.int r.1)), Hf r.2)) : AG G M_X10_prompt 19 [some (.ref (b + 0)), some (.int (x1)), some (.int (x2)), some (.int (x3))] [] (Hf w) (.inl (some (.int r.1)), Hf r.2) :=
  xLoop_ok (Q := fun (σ : Int32 × Int32 × Int32 × wS) => AG G M_X10_prompt 19 [some (.ref (b + 0)), some (.int (σ.1)), some (.int (σ.2.1)), some (.int (σ.2.2.1))] [] (Hf σ.2.2.2) (.inl (some (.int r.1)), Hf r.2)) (fun kk hk σ hσ => B_X10_prompt_19_ok E hσ (fun x1 x2 x3 w h9 => hk (x1, x2, x3, w) h9) Hke61) n (x1, x2, x3, w) hL
def L_X10_prompt (a1 : Int32) (w : wS) : Option (Int32 × wS) :=
  xB (xPut w 0 (0)) fun w9 => xB2 (L_X10_isDuty (a1) w9) fun v10 w11 => if v10 = 0 then some (0, w11) else P_X10_prompt_19 (fun z12 w13 => some (z12, w13)) 5000 (a1) (0) (0) w11
set_option maxRecDepth 20000 in
theorem C_X10_prompt {G : aG} {Hf : wS → aH} {b : Nat} {a1 : Int32} {w : wS} {r : Int32 × wS} (E : Emb Hf b 0 tbM) (hL : L_X10_prompt a1 w = some r) : AC G M_X10_prompt [.ref (b + 0), .int a1] (Hf w) (.inl (some (.int r.1)), Hf r.2) := by
  unfold L_X10_prompt at hL
  refine AC.of (by decide) rfl (Nat.le_of_ble_eq_true rfl) ?_
  show AG G M_X10_prompt 0 [some (.ref (b + 0)), some (.int (a1)), none, none] [] _ _
  refine g_aload_n dX10_prompt_0 rfl rfl ?_
  refine g_iconst (v := 0) dX10_prompt_1 (by decide) ?_
  refine s_putI (k := 0) (j := 0) E hL rfl rfl (by decide) fw_X10_120 rfl rfl dX10_prompt_2 ?_
  intro w9 hL
  refine g_aload_n dX10_prompt_5 rfl rfl ?_
  refine g_iload_n dX10_prompt_6 rfl rfl ?_
  obtain ⟨v10, w11, hc, hL⟩ := xB2_some hL
  refine g_callV (M' := M_X10_isDuty) (as := [.int (a1)]) (v := some (.int (v10))) l_X10_376 kV_X10_isDuty (by decide) (C_X10_isDuty E hc) rfl (by have := E.1; omega) (E.2.1 _ 0 _ rfl) ⟨_, _, rfl⟩ (Nat.le_of_ble_eq_true rfl) dX10_prompt_7 ?_
  refine g_if_ne (tgt := 15) dX10_prompt_10 (by decide) (fun q14 => ?_) (fun q14 => ?_)
  · rw [if_neg q14] at hL
    refine g_iconst (v := 0) dX10_prompt_15 (by decide) ?_
    refine g_istore_n (i := 2) dX10_prompt_16 rfl (by decide) rfl ?_
    refine g_iconst (v := 0) dX10_prompt_17 (by decide) ?_
    refine g_istore_n (i := 3) dX10_prompt_18 rfl (by decide) rfl ?_
    refine P_X10_prompt_19_ok E hL ?_
    · intro z12 w13 hL
      refine g_iload_n dX10_prompt_61 rfl rfl ?_
      refine g_none 2 ?_
      obtain rfl := Option.some.inj hL
      exact g_iret rfl dX10_prompt_62
  · rw [if_pos q14] at hL
    refine g_none 0 ?_
    refine g_none 1 ?_
    refine g_iconst (v := 0) dX10_prompt_13 (by decide) ?_
    obtain rfl := Option.some.inj hL
    exact g_iret rfl dX10_prompt_14
def J_X10_walk_117 (y0 : Int32) (w : wS) : Option (Int32 × wS) :=
  some (y0, w)
set_option maxRecDepth 20000 in
theorem J_X10_walk_117_ok {G : aG} {Hf : wS → aH} {b : Nat} {y0 : Int32} {w : wS} {r : Int32 × wS} (E : Emb Hf b 0 tbM) (hL : J_X10_walk_117  y0 w = some r) : AG G M_X10_walk 117 [none, none, none, none, none] [.int (y0)] (Hf w) (.inl (some (.int r.1)), Hf r.2) := by
  unfold J_X10_walk_117 at hL
  obtain rfl := Option.some.inj hL
  exact g_iret rfl dX10_walk_117
def J_X10_walk_67 (kh24 : Int32 → Int32 → Int32 → Int32 → wS → Option (Int32 × wS)) (ke74 : Int32 → Int32 → Int32 → wS → Option (Int32 × wS)) (x1 : Int32) (x2 : Int32) (x4 : Int32) (y0 : Int32) (w : wS) : Option (Int32 × wS) :=
  kh24 (x1) (x2) (y0) ((x4 + 1)) w
set_option maxRecDepth 20000 in
theorem J_X10_walk_67_ok {G : aG} {Hf : wS → aH} {b : Nat} {kh24 : Int32 → Int32 → Int32 → Int32 → wS → Option (Int32 × wS)} {ke74 : Int32 → Int32 → Int32 → wS → Option (Int32 × wS)} {x1 : Int32} {x2 : Int32} {x4 : Int32} {y0 : Int32} {w : wS} {r : Int32 × wS} (E : Emb Hf b 0 tbM) (hL : J_X10_walk_67 kh24 ke74 x1 x2 x4 y0 w = some r) (Hkh24 : ∀ (z0 : Int32) (z1 : Int32) (z2 : Int32) (z3 : Int32) (w : wS), kh24 z0 z1 z2 z3 w = some r → AG G M_X10_walk 24 [some (.ref (b + 0)), some (.int (z0)), some (.int (z1)), some (.int (z2)), some (.int (z3))] [] (Hf w) (.inl (some (.int r.1)), Hf r.2)) (Hke74 : ∀ (z0 : Int32) (z1 : Int32) (z2 : Int32) (w : wS), ke74 z0 z1 z2 w = some r → AG G M_X10_walk 74 [some (.ref (b + 0)), some (.int (z0)), some (.int (z1)), some (.int (z2)), none] [] (Hf w) (.inl (some (.int r.1)), Hf r.2)) : AG G M_X10_walk 67 [some (.ref (b + 0)), some (.int (x1)), some (.int (x2)), none, some (.int (x4))] [.int (y0)] (Hf w) (.inl (some (.int r.1)), Hf r.2) := by
  unfold J_X10_walk_67 at hL
  refine g_istore_n (i := 3) dX10_walk_67 rfl (by decide) rfl ?_
  refine g_iincV (v := (x4 + 1)) dX10_walk_68 rfl rfl (by decide) rfl ?_
  refine g_goto (tgt := 24) dX10_walk_71 (by decide) ?_
  exact Hkh24 _ _ _ _ _ hL
def B_X10_walk_24 (kh24 : Int32 → Int32 → Int32 → Int32 → wS → Option (Int32 × wS)) (ke74 : Int32 → Int32 → Int32 → wS → Option (Int32 × wS)) (x1 : Int32) (x2 : Int32) (x3 : Int32) (x4 : Int32) (w : wS) : Option (Int32 × wS) :=
  xB (xGet w 2) fun v1 => if v1 ≤ x4 then ke74 (x1) (x2) (x3) w else xB (xAld w 4 6 (x4)) fun v2 => xB (L_X10_lesser (x2) (v2)) fun v3 => xB (xAld w 4 6 (x4)) fun v4 => if v4 ≤ x3 then J_X10_walk_67 kh24 ke74 (x1) (v3) (x4) (x3) w else xB (xAld w 4 6 (x4)) fun v5 => J_X10_walk_67 kh24 ke74 (x1) (v3) (x4) (v5) w
set_option maxRecDepth 20000 in
theorem B_X10_walk_24_ok {G : aG} {Hf : wS → aH} {b : Nat} {kh24 : Int32 → Int32 → Int32 → Int32 → wS → Option (Int32 × wS)} {ke74 : Int32 → Int32 → Int32 → wS → Option (Int32 × wS)} {x1 : Int32} {x2 : Int32} {x3 : Int32} {x4 : Int32} {w : wS} {r : Int32 × wS} (E : Emb Hf b 0 tbM) (hL : B_X10_walk_24 kh24 ke74 x1 x2 x3 x4 w = some r) (Hkh24 : ∀ (z0 : Int32) (z1 : Int32) (z2 : Int32) (z3 : Int32) (w : wS), kh24 z0 z1 z2 z3 w = some r → AG G M_X10_walk 24 [some (.ref (b + 0)), some (.int (z0)), some (.int (z1)), some (.int (z2)), some (.int (z3))] [] (Hf w) (.inl (some (.int r.1)), Hf r.2)) (Hke74 : ∀ (z0 : Int32) (z1 : Int32) (z2 : Int32) (w : wS), ke74 z0 z1 z2 w = some r → AG G M_X10_walk 74 [some (.ref (b + 0)), some (.int (z0)), some (.int (z1)), some (.int (z2)), none] [] (Hf w) (.inl (some (.int r.1)), Hf r.2)) : AG G M_X10_walk 24 [some (.ref (b + 0)), some (.int (x1)), some (.int (x2)), some (.int (x3)), some (.int (x4))] [] (Hf w) (.inl (some (.int r.1)), Hf r.2) := by
  unfold B_X10_walk_24 at hL
  refine g_iload dX10_walk_24 rfl ?_
  refine g_aload_n dX10_walk_26 rfl rfl ?_
  refine s_getI (k := 0) (j := 2) E hL rfl rfl f_X10_281 dX10_walk_27 ?_
  intro v1 hL
  refine g_icmp_ge (tgt := 74) dX10_walk_30 (by decide) (fun q7 => ?_) (fun q7 => ?_)
  · rw [if_pos q7] at hL
    refine g_none 4 ?_
    exact Hke74 _ _ _ _ hL
  · rw [if_neg q7] at hL
    refine g_iload_n dX10_walk_33 rfl rfl ?_
    refine g_none 2 ?_
    refine g_aload_n dX10_walk_34 rfl rfl ?_
    refine s_getR (j := 9) E rfl rfl f_X10_29 dX10_walk_35 ?_
    refine g_iload dX10_walk_38 rfl ?_
    refine s_iald (k := 4) E hL rfl dX10_walk_40 ?_
    intro v2 hL
    obtain ⟨v3, hc, hL⟩ := xB_some hL
    refine g_callS (M' := M_X10_lesser) (as := [.int (x2), .int (v2)]) (v := some (.int (v3))) l_X10_331 kS_X10_lesser (by decide) (C_X10_lesser hc) rfl (Nat.le_of_ble_eq_true rfl) dX10_walk_41 ?_
    refine g_istore_n (i := 2) dX10_walk_44 rfl (by decide) rfl ?_
    refine g_aload_n dX10_walk_45 rfl rfl ?_
    refine s_getR (j := 9) E rfl rfl f_X10_29 dX10_walk_46 ?_
    refine g_iload dX10_walk_49 rfl ?_
    refine s_iald (k := 4) E hL rfl dX10_walk_51 ?_
    intro v4 hL
    refine g_iload_n dX10_walk_52 rfl rfl ?_
    refine g_icmp_le (tgt := 66) dX10_walk_53 (by decide) (fun q6 => ?_) (fun q6 => ?_)
    · rw [if_pos q6] at hL
      refine g_iload_n dX10_walk_66 rfl rfl ?_
      refine g_none 3 ?_
      exact J_X10_walk_67_ok E hL Hkh24 Hke74
    · rw [if_neg q6] at hL
      refine g_none 3 ?_
      refine g_aload_n dX10_walk_56 rfl rfl ?_
      refine s_getR (j := 9) E rfl rfl f_X10_29 dX10_walk_57 ?_
      refine g_iload dX10_walk_60 rfl ?_
      refine s_iald (k := 4) E hL rfl dX10_walk_62 ?_
      intro v5 hL
      refine g_goto (tgt := 67) dX10_walk_63 (by decide) ?_
      exact J_X10_walk_67_ok E hL Hkh24 Hke74
def P_X10_walk_24 (ke74 : Int32 → Int32 → Int32 → wS → Option (Int32 × wS)) (n : Nat) (x1 : Int32) (x2 : Int32) (x3 : Int32) (x4 : Int32) (w : wS) : Option (Int32 × wS) :=
  xLoop (fun (kk : Int32 × Int32 × Int32 × Int32 × wS → Option (Int32 × wS)) σ => B_X10_walk_24 (fun x1 x2 x3 x4 w => kk (x1, x2, x3, x4, w)) ke74 (σ.1) (σ.2.1) (σ.2.2.1) (σ.2.2.2.1) (σ.2.2.2.2)) n (x1, x2, x3, x4, w)
theorem P_X10_walk_24_ok {G : aG} {Hf : wS → aH} {b : Nat} {ke74 : Int32 → Int32 → Int32 → wS → Option (Int32 × wS)} {n : Nat} {x1 : Int32} {x2 : Int32} {x3 : Int32} {x4 : Int32} {w : wS} {r : Int32 × wS} (E : Emb Hf b 0 tbM) (hL : P_X10_walk_24 ke74 n x1 x2 x3 x4 w = some r) (Hke74 : ∀ (z0 : Int32) (z1 : Int32) (z2 : Int32) (w : wS), ke74 z0 z1 z2 w = some r → AG G M_X10_walk 74 [some (.ref (b + 0)), some (.int (z0)), some (.int (z1)), some (.int (z2)), none] [] (Hf w) (.inl (some (.int r.1)), Hf r.2)) : AG G M_X10_walk 24 [some (.ref (b + 0)), some (.int (x1)), some (.int (x2)), some (.int (x3)), some (.int (x4))] [] (Hf w) (.inl (some (.int r.1)), Hf r.2) :=
  xLoop_ok (Q := fun (σ : Int32 × Int32 × Int32 × Int32 × wS) => AG G M_X10_walk 24 [some (.ref (b + 0)), some (.int (σ.1)), some (.int (σ.2.1)), some (.int (σ.2.2.1)), some (.int (σ.2.2.2.1))] [] (Hf σ.2.2.2.2) (.inl (some (.int r.1)), Hf r.2)) (fun kk hk σ hσ => B_X10_walk_24_ok E hσ (fun x1 x2 x3 x4 w h9 => hk (x1, x2, x3, x4, w) h9) Hke74) n (x1, x2, x3, x4, w) hL
def L_X10_walk (a1 : Int32) (w : wS) : Option (Int32 × wS) :=
  xB (xPut w 0 (0)) fun w8 => xB2 (L_X10_isPerson (a1) w8) fun v9 w10 => if v9 = 0 then some (0, w10) else P_X10_walk_24 (fun z11 z12 z13 w14 => xB (xGet w14 2) fun v15 => if v15 = 0 then J_X10_walk_117  (0) w14 else xB (xGet w14 3) fun v16 => xB (xAld w14 3 8 (z11)) fun v17 => xB (L_X10_off (v17) (z12)) fun v18 => xB (xAld w14 3 8 (z11)) fun v19 => xB (L_X10_off (v19) (z13)) fun v20 => xB (L_X10_lesser (v18) (v20)) fun v21 => J_X10_walk_117  ((v16 * ((z13 - z12) + v21))) w14) 5000 (a1) (99999) ((-1)) (0) w10
set_option maxRecDepth 20000 in
theorem C_X10_walk {G : aG} {Hf : wS → aH} {b : Nat} {a1 : Int32} {w : wS} {r : Int32 × wS} (E : Emb Hf b 0 tbM) (hL : L_X10_walk a1 w = some r) : AC G M_X10_walk [.ref (b + 0), .int a1] (Hf w) (.inl (some (.int r.1)), Hf r.2) := by
  unfold L_X10_walk at hL
  refine AC.of (by decide) rfl (Nat.le_of_ble_eq_true rfl) ?_
  show AG G M_X10_walk 0 [some (.ref (b + 0)), some (.int (a1)), none, none, none] [] _ _
  refine g_aload_n dX10_walk_0 rfl rfl ?_
  refine g_iconst (v := 0) dX10_walk_1 (by decide) ?_
  refine s_putI (k := 0) (j := 0) E hL rfl rfl (by decide) fw_X10_120 rfl rfl dX10_walk_2 ?_
  intro w8 hL
  refine g_aload_n dX10_walk_5 rfl rfl ?_
  refine g_iload_n dX10_walk_6 rfl rfl ?_
  obtain ⟨v9, w10, hc, hL⟩ := xB2_some hL
  refine g_callV (M' := M_X10_isPerson) (as := [.int (a1)]) (v := some (.int (v9))) l_X10_370 kV_X10_isPerson (by decide) (C_X10_isPerson E hc) rfl (by have := E.1; omega) (E.2.1 _ 0 _ rfl) ⟨_, _, rfl⟩ (Nat.le_of_ble_eq_true rfl) dX10_walk_7 ?_
  refine g_if_ne (tgt := 15) dX10_walk_10 (by decide) (fun q23 => ?_) (fun q23 => ?_)
  · rw [if_neg q23] at hL
    refine g_ldcw (v := 99999) dX10_walk_15 n_X10_311 ?_
    refine g_istore_n (i := 2) dX10_walk_18 rfl (by decide) rfl ?_
    refine g_iconst (v := (-1)) dX10_walk_19 (by decide) ?_
    refine g_istore_n (i := 3) dX10_walk_20 rfl (by decide) rfl ?_
    refine g_iconst (v := 0) dX10_walk_21 (by decide) ?_
    refine g_istore (i := 4) dX10_walk_22 (by decide) rfl ?_
    refine P_X10_walk_24_ok E hL ?_
    · intro z11 z12 z13 w14 hL
      refine g_aload_n dX10_walk_74 rfl rfl ?_
      refine s_getI (k := 0) (j := 2) E hL rfl rfl f_X10_281 dX10_walk_75 ?_
      intro v15 hL
      refine g_if_ne (tgt := 85) dX10_walk_78 (by decide) (fun q22 => ?_) (fun q22 => ?_)
      · rw [if_neg q22] at hL
        refine g_aload_n dX10_walk_85 rfl rfl ?_
        refine s_getI (k := 0) (j := 3) E hL rfl rfl f_X10_7 dX10_walk_86 ?_
        intro v16 hL
        refine g_iload_n dX10_walk_89 rfl rfl ?_
        refine g_iload_n dX10_walk_90 rfl rfl ?_
        refine g_isub dX10_walk_91 ?_
        refine g_aload_n dX10_walk_92 rfl rfl ?_
        refine s_getR (j := 8) E rfl rfl f_X10_26 dX10_walk_93 ?_
        refine g_iload_n dX10_walk_96 rfl rfl ?_
        refine s_iald (k := 3) E hL rfl dX10_walk_97 ?_
        intro v17 hL
        refine g_iload_n dX10_walk_98 rfl rfl ?_
        refine g_none 2 ?_
        obtain ⟨v18, hc, hL⟩ := xB_some hL
        refine g_callS (M' := M_X10_off) (as := [.int (v17), .int (z12)]) (v := some (.int (v18))) l_X10_302 kS_X10_off (by decide) (C_X10_off hc) rfl (Nat.le_of_ble_eq_true rfl) dX10_walk_99 ?_
        refine g_aload_n dX10_walk_102 rfl rfl ?_
        refine g_none 0 ?_
        refine s_getR (j := 8) E rfl rfl f_X10_26 dX10_walk_103 ?_
        refine g_iload_n dX10_walk_106 rfl rfl ?_
        refine g_none 1 ?_
        refine s_iald (k := 3) E hL rfl dX10_walk_107 ?_
        intro v19 hL
        refine g_iload_n dX10_walk_108 rfl rfl ?_
        refine g_none 3 ?_
        obtain ⟨v20, hc, hL⟩ := xB_some hL
        refine g_callS (M' := M_X10_off) (as := [.int (v19), .int (z13)]) (v := some (.int (v20))) l_X10_302 kS_X10_off (by decide) (C_X10_off hc) rfl (Nat.le_of_ble_eq_true rfl) dX10_walk_109 ?_
        obtain ⟨v21, hc, hL⟩ := xB_some hL
        refine g_callS (M' := M_X10_lesser) (as := [.int (v18), .int (v20)]) (v := some (.int (v21))) l_X10_331 kS_X10_lesser (by decide) (C_X10_lesser hc) rfl (Nat.le_of_ble_eq_true rfl) dX10_walk_112 ?_
        refine g_iadd dX10_walk_115 ?_
        refine g_imul dX10_walk_116 ?_
        exact J_X10_walk_117_ok E hL 
      · rw [if_pos q22] at hL
        refine g_none 0 ?_
        refine g_none 1 ?_
        refine g_none 2 ?_
        refine g_none 3 ?_
        refine g_iconst (v := 0) dX10_walk_81 (by decide) ?_
        refine g_goto (tgt := 117) dX10_walk_82 (by decide) ?_
        exact J_X10_walk_117_ok E hL 
  · rw [if_pos q23] at hL
    refine g_none 0 ?_
    refine g_none 1 ?_
    refine g_iconst (v := 0) dX10_walk_13 (by decide) ?_
    obtain rfl := Option.some.inj hL
    exact g_iret rfl dX10_walk_14
def J_X10_twins_79 (kh19 : Int32 → Int32 → Int32 → wS → Option (Int32 × wS)) (ke87 : Int32 → Int32 → wS → Option (Int32 × wS)) (x2 : Int32) (x3 : Int32) (y0 : Int32) (y1 : Int32) (w : wS) : Option (Int32 × wS) :=
  kh19 ((y0 + y1)) (x2) ((x3 + 1)) w
set_option maxRecDepth 20000 in
theorem J_X10_twins_79_ok {G : aG} {Hf : wS → aH} {b : Nat} {kh19 : Int32 → Int32 → Int32 → wS → Option (Int32 × wS)} {ke87 : Int32 → Int32 → wS → Option (Int32 × wS)} {x2 : Int32} {x3 : Int32} {y0 : Int32} {y1 : Int32} {w : wS} {r : Int32 × wS} (E : Emb Hf b 0 tbM) (hL : J_X10_twins_79 kh19 ke87 x2 x3 y0 y1 w = some r) (Hkh19 : ∀ (z0 : Int32) (z1 : Int32) (z2 : Int32) (w : wS), kh19 z0 z1 z2 w = some r → AG G M_X10_twins 19 [some (.ref (b + 0)), some (.int (z0)), some (.int (z1)), some (.int (z2))] [] (Hf w) (.inl (some (.int r.1)), Hf r.2)) (Hke87 : ∀ (z0 : Int32) (z1 : Int32) (w : wS), ke87 z0 z1 w = some r → AG G M_X10_twins 87 [some (.ref (b + 0)), some (.int (z0)), some (.int (z1)), none] [] (Hf w) (.inl (some (.int r.1)), Hf r.2)) : AG G M_X10_twins 79 [some (.ref (b + 0)), none, some (.int (x2)), some (.int (x3))] [.int (y1), .int (y0)] (Hf w) (.inl (some (.int r.1)), Hf r.2) := by
  unfold J_X10_twins_79 at hL
  refine g_iadd dX10_twins_79 ?_
  refine g_istore_n (i := 1) dX10_twins_80 rfl (by decide) rfl ?_
  refine g_iincV (v := (x3 + 1)) dX10_twins_81 rfl rfl (by decide) rfl ?_
  refine g_goto (tgt := 19) dX10_twins_84 (by decide) ?_
  exact Hkh19 _ _ _ _ hL
def J_X10_twins_78 (kh19 : Int32 → Int32 → Int32 → wS → Option (Int32 × wS)) (ke87 : Int32 → Int32 → wS → Option (Int32 × wS)) (x2 : Int32) (x3 : Int32) (y0 : Int32) (w : wS) : Option (Int32 × wS) :=
  J_X10_twins_79 kh19 ke87 (x2) (x3) (y0) (0) w
set_option maxRecDepth 20000 in
theorem J_X10_twins_78_ok {G : aG} {Hf : wS → aH} {b : Nat} {kh19 : Int32 → Int32 → Int32 → wS → Option (Int32 × wS)} {ke87 : Int32 → Int32 → wS → Option (Int32 × wS)} {x2 : Int32} {x3 : Int32} {y0 : Int32} {w : wS} {r : Int32 × wS} (E : Emb Hf b 0 tbM) (hL : J_X10_twins_78 kh19 ke87 x2 x3 y0 w = some r) (Hkh19 : ∀ (z0 : Int32) (z1 : Int32) (z2 : Int32) (w : wS), kh19 z0 z1 z2 w = some r → AG G M_X10_twins 19 [some (.ref (b + 0)), some (.int (z0)), some (.int (z1)), some (.int (z2))] [] (Hf w) (.inl (some (.int r.1)), Hf r.2)) (Hke87 : ∀ (z0 : Int32) (z1 : Int32) (w : wS), ke87 z0 z1 w = some r → AG G M_X10_twins 87 [some (.ref (b + 0)), some (.int (z0)), some (.int (z1)), none] [] (Hf w) (.inl (some (.int r.1)), Hf r.2)) : AG G M_X10_twins 78 [some (.ref (b + 0)), none, some (.int (x2)), some (.int (x3))] [.int (y0)] (Hf w) (.inl (some (.int r.1)), Hf r.2) := by
  unfold J_X10_twins_78 at hL
  refine g_iconst (v := 0) dX10_twins_78 (by decide) ?_
  exact J_X10_twins_79_ok E hL Hkh19 Hke87
def B_X10_twins_19 (kh19 : Int32 → Int32 → Int32 → wS → Option (Int32 × wS)) (ke87 : Int32 → Int32 → wS → Option (Int32 × wS)) (x1 : Int32) (x2 : Int32) (x3 : Int32) (w : wS) : Option (Int32 × wS) :=
  if x2 ≤ x3 then ke87 (x1) (x2) w else xB (xAld w 3 8 (x2)) fun v1 => xB (xAld w 3 8 (x3)) fun v2 => if v1 = v2 then xB (xAld w 2 8 (x2)) fun v3 => xB (xAld w 2 8 (x3)) fun v4 => if v3 = v4 then xB (xAld w 16 66 ((3 + x2))) fun v5 => xB (xAld w 16 66 ((3 + x3))) fun v6 => if v5 = v6 then J_X10_twins_79 kh19 ke87 (x2) (x3) (x1) (1) w else J_X10_twins_78 kh19 ke87 (x2) (x3) (x1) w else J_X10_twins_78 kh19 ke87 (x2) (x3) (x1) w else J_X10_twins_78 kh19 ke87 (x2) (x3) (x1) w
set_option maxRecDepth 20000 in
theorem B_X10_twins_19_ok {G : aG} {Hf : wS → aH} {b : Nat} {kh19 : Int32 → Int32 → Int32 → wS → Option (Int32 × wS)} {ke87 : Int32 → Int32 → wS → Option (Int32 × wS)} {x1 : Int32} {x2 : Int32} {x3 : Int32} {w : wS} {r : Int32 × wS} (E : Emb Hf b 0 tbM) (hL : B_X10_twins_19 kh19 ke87 x1 x2 x3 w = some r) (Hkh19 : ∀ (z0 : Int32) (z1 : Int32) (z2 : Int32) (w : wS), kh19 z0 z1 z2 w = some r → AG G M_X10_twins 19 [some (.ref (b + 0)), some (.int (z0)), some (.int (z1)), some (.int (z2))] [] (Hf w) (.inl (some (.int r.1)), Hf r.2)) (Hke87 : ∀ (z0 : Int32) (z1 : Int32) (w : wS), ke87 z0 z1 w = some r → AG G M_X10_twins 87 [some (.ref (b + 0)), some (.int (z0)), some (.int (z1)), none] [] (Hf w) (.inl (some (.int r.1)), Hf r.2)) : AG G M_X10_twins 19 [some (.ref (b + 0)), some (.int (x1)), some (.int (x2)), some (.int (x3))] [] (Hf w) (.inl (some (.int r.1)), Hf r.2) := by
  unfold B_X10_twins_19 at hL
  refine g_iload_n dX10_twins_19 rfl rfl ?_
  refine g_iload_n dX10_twins_20 rfl rfl ?_
  refine g_icmp_ge (tgt := 87) dX10_twins_21 (by decide) (fun q10 => ?_) (fun q10 => ?_)
  · rw [if_pos q10] at hL
    refine g_none 3 ?_
    exact Hke87 _ _ _ hL
  · rw [if_neg q10] at hL
    refine g_iload_n dX10_twins_24 rfl rfl ?_
    refine g_none 1 ?_
    refine g_aload_n dX10_twins_25 rfl rfl ?_
    refine s_getR (j := 8) E rfl rfl f_X10_26 dX10_twins_26 ?_
    refine g_iload_n dX10_twins_29 rfl rfl ?_
    refine s_iald (k := 3) E hL rfl dX10_twins_30 ?_
    intro v1 hL
    refine g_aload_n dX10_twins_31 rfl rfl ?_
    refine s_getR (j := 8) E rfl rfl f_X10_26 dX10_twins_32 ?_
    refine g_iload_n dX10_twins_35 rfl rfl ?_
    refine s_iald (k := 3) E hL rfl dX10_twins_36 ?_
    intro v2 hL
    refine g_icmp_ne (tgt := 78) dX10_twins_37 (by decide) (fun q9 => ?_) (fun q9 => ?_)
    · rw [if_neg q9] at hL
      exact J_X10_twins_78_ok E hL Hkh19 Hke87
    · rw [if_pos q9] at hL
      refine g_aload_n dX10_twins_40 rfl rfl ?_
      refine s_getR (j := 7) E rfl rfl f_X10_23 dX10_twins_41 ?_
      refine g_iload_n dX10_twins_44 rfl rfl ?_
      refine s_iald (k := 2) E hL rfl dX10_twins_45 ?_
      intro v3 hL
      refine g_aload_n dX10_twins_46 rfl rfl ?_
      refine s_getR (j := 7) E rfl rfl f_X10_23 dX10_twins_47 ?_
      refine g_iload_n dX10_twins_50 rfl rfl ?_
      refine s_iald (k := 2) E hL rfl dX10_twins_51 ?_
      intro v4 hL
      refine g_icmp_ne (tgt := 78) dX10_twins_52 (by decide) (fun q8 => ?_) (fun q8 => ?_)
      · rw [if_neg q8] at hL
        exact J_X10_twins_78_ok E hL Hkh19 Hke87
      · rw [if_pos q8] at hL
        refine g_aload_n dX10_twins_55 rfl rfl ?_
        refine s_getR (j := 41) E rfl rfl f_X10_69 dX10_twins_56 ?_
        refine g_iconst (v := 3) dX10_twins_59 (by decide) ?_
        refine g_iload_n dX10_twins_60 rfl rfl ?_
        refine g_iadd dX10_twins_61 ?_
        refine s_iald (k := 16) E hL rfl dX10_twins_62 ?_
        intro v5 hL
        refine g_aload_n dX10_twins_63 rfl rfl ?_
        refine s_getR (j := 41) E rfl rfl f_X10_69 dX10_twins_64 ?_
        refine g_iconst (v := 3) dX10_twins_67 (by decide) ?_
        refine g_iload_n dX10_twins_68 rfl rfl ?_
        refine g_iadd dX10_twins_69 ?_
        refine s_iald (k := 16) E hL rfl dX10_twins_70 ?_
        intro v6 hL
        refine g_icmp_ne (tgt := 78) dX10_twins_71 (by decide) (fun q7 => ?_) (fun q7 => ?_)
        · rw [if_neg q7] at hL
          exact J_X10_twins_78_ok E hL Hkh19 Hke87
        · rw [if_pos q7] at hL
          refine g_iconst (v := 1) dX10_twins_74 (by decide) ?_
          refine g_goto (tgt := 79) dX10_twins_75 (by decide) ?_
          exact J_X10_twins_79_ok E hL Hkh19 Hke87
def P_X10_twins_19 (ke87 : Int32 → Int32 → wS → Option (Int32 × wS)) (n : Nat) (x1 : Int32) (x2 : Int32) (x3 : Int32) (w : wS) : Option (Int32 × wS) :=
  xLoop (fun (kk : Int32 × Int32 × Int32 × wS → Option (Int32 × wS)) σ => B_X10_twins_19 (fun x1 x2 x3 w => kk (x1, x2, x3, w)) ke87 (σ.1) (σ.2.1) (σ.2.2.1) (σ.2.2.2)) n (x1, x2, x3, w)
theorem P_X10_twins_19_ok {G : aG} {Hf : wS → aH} {b : Nat} {ke87 : Int32 → Int32 → wS → Option (Int32 × wS)} {n : Nat} {x1 : Int32} {x2 : Int32} {x3 : Int32} {w : wS} {r : Int32 × wS} (E : Emb Hf b 0 tbM) (hL : P_X10_twins_19 ke87 n x1 x2 x3 w = some r) (Hke87 : ∀ (z0 : Int32) (z1 : Int32) (w : wS), ke87 z0 z1 w = some r → AG G M_X10_twins 87 [some (.ref (b + 0)), some (.int (z0)), some (.int (z1)), none] [] (Hf w) (.inl (some (.int r.1)), Hf r.2)) : AG G M_X10_twins 19 [some (.ref (b + 0)), some (.int (x1)), some (.int (x2)), some (.int (x3))] [] (Hf w) (.inl (some (.int r.1)), Hf r.2) :=
  xLoop_ok (Q := fun (σ : Int32 × Int32 × Int32 × wS) => AG G M_X10_twins 19 [some (.ref (b + 0)), some (.int (σ.1)), some (.int (σ.2.1)), some (.int (σ.2.2.1))] [] (Hf σ.2.2.2) (.inl (some (.int r.1)), Hf r.2)) (fun kk hk σ hσ => B_X10_twins_19_ok E hσ (fun x1 x2 x3 w h9 => hk (x1, x2, x3, w) h9) Hke87) n (x1, x2, x3, w) hL
def B_X10_twins_9 (kh9 : Int32 → Int32 → wS → Option (Int32 × wS)) (ke93 : Int32 → wS → Option (Int32 × wS)) (x1 : Int32) (x2 : Int32) (w : wS) : Option (Int32 × wS) :=
  xB (xGet w 1) fun v11 => if v11 ≤ x2 then ke93 (x1) w else P_X10_twins_19 (fun z12 z13 w14 => kh9 (z12) ((z13 + 1)) w14) 5000 (x1) (x2) (0) w
set_option maxRecDepth 20000 in
theorem B_X10_twins_9_ok {G : aG} {Hf : wS → aH} {b : Nat} {kh9 : Int32 → Int32 → wS → Option (Int32 × wS)} {ke93 : Int32 → wS → Option (Int32 × wS)} {x1 : Int32} {x2 : Int32} {w : wS} {r : Int32 × wS} (E : Emb Hf b 0 tbM) (hL : B_X10_twins_9 kh9 ke93 x1 x2 w = some r) (Hkh9 : ∀ (z0 : Int32) (z1 : Int32) (w : wS), kh9 z0 z1 w = some r → AG G M_X10_twins 9 [some (.ref (b + 0)), some (.int (z0)), some (.int (z1)), none] [] (Hf w) (.inl (some (.int r.1)), Hf r.2)) (Hke93 : ∀ (z0 : Int32) (w : wS), ke93 z0 w = some r → AG G M_X10_twins 93 [none, some (.int (z0)), none, none] [] (Hf w) (.inl (some (.int r.1)), Hf r.2)) : AG G M_X10_twins 9 [some (.ref (b + 0)), some (.int (x1)), some (.int (x2)), none] [] (Hf w) (.inl (some (.int r.1)), Hf r.2) := by
  unfold B_X10_twins_9 at hL
  refine g_iload_n dX10_twins_9 rfl rfl ?_
  refine g_aload_n dX10_twins_10 rfl rfl ?_
  refine s_getI (k := 0) (j := 1) E hL rfl rfl f_X10_278 dX10_twins_11 ?_
  intro v11 hL
  refine g_icmp_ge (tgt := 93) dX10_twins_14 (by decide) (fun q15 => ?_) (fun q15 => ?_)
  · rw [if_pos q15] at hL
    refine g_none 0 ?_
    refine g_none 2 ?_
    exact Hke93 _ _ hL
  · rw [if_neg q15] at hL
    refine g_iconst (v := 0) dX10_twins_17 (by decide) ?_
    refine g_istore_n (i := 3) dX10_twins_18 rfl (by decide) rfl ?_
    refine P_X10_twins_19_ok E hL ?_
    · intro z12 z13 w14 hL
      refine g_iincV (v := (z13 + 1)) dX10_twins_87 rfl rfl (by decide) rfl ?_
      refine g_goto (tgt := 9) dX10_twins_90 (by decide) ?_
      exact Hkh9 _ _ _ hL
def P_X10_twins_9 (ke93 : Int32 → wS → Option (Int32 × wS)) (n : Nat) (x1 : Int32) (x2 : Int32) (w : wS) : Option (Int32 × wS) :=
  xLoop (fun (kk : Int32 × Int32 × wS → Option (Int32 × wS)) σ => B_X10_twins_9 (fun x1 x2 w => kk (x1, x2, w)) ke93 (σ.1) (σ.2.1) (σ.2.2)) n (x1, x2, w)
theorem P_X10_twins_9_ok {G : aG} {Hf : wS → aH} {b : Nat} {ke93 : Int32 → wS → Option (Int32 × wS)} {n : Nat} {x1 : Int32} {x2 : Int32} {w : wS} {r : Int32 × wS} (E : Emb Hf b 0 tbM) (hL : P_X10_twins_9 ke93 n x1 x2 w = some r) (Hke93 : ∀ (z0 : Int32) (w : wS), ke93 z0 w = some r → AG G M_X10_twins 93 [none, some (.int (z0)), none, none] [] (Hf w) (.inl (some (.int r.1)), Hf r.2)) : AG G M_X10_twins 9 [some (.ref (b + 0)), some (.int (x1)), some (.int (x2)), none] [] (Hf w) (.inl (some (.int r.1)), Hf r.2) :=
  xLoop_ok (Q := fun (σ : Int32 × Int32 × wS) => AG G M_X10_twins 9 [some (.ref (b + 0)), some (.int (σ.1)), some (.int (σ.2.1)), none] [] (Hf σ.2.2) (.inl (some (.int r.1)), Hf r.2)) (fun kk hk σ hσ => B_X10_twins_9_ok E hσ (fun x1 x2 w h9 => hk (x1, x2, w) h9) Hke93) n (x1, x2, w) hL
def L_X10_twins (w : wS) : Option (Int32 × wS) :=
  xB (xPut w 0 (0)) fun w16 => P_X10_twins_9 (fun z17 w18 => some (z17, w18)) 5000 (0) (0) w16
set_option maxRecDepth 20000 in
theorem C_X10_twins {G : aG} {Hf : wS → aH} {b : Nat} {w : wS} {r : Int32 × wS} (E : Emb Hf b 0 tbM) (hL : L_X10_twins  w = some r) : AC G M_X10_twins [.ref (b + 0)] (Hf w) (.inl (some (.int r.1)), Hf r.2) := by
  unfold L_X10_twins at hL
  refine AC.of (by decide) rfl (Nat.le_of_ble_eq_true rfl) ?_
  show AG G M_X10_twins 0 [some (.ref (b + 0)), none, none, none] [] _ _
  refine g_aload_n dX10_twins_0 rfl rfl ?_
  refine g_iconst (v := 0) dX10_twins_1 (by decide) ?_
  refine s_putI (k := 0) (j := 0) E hL rfl rfl (by decide) fw_X10_120 rfl rfl dX10_twins_2 ?_
  intro w16 hL
  refine g_iconst (v := 0) dX10_twins_5 (by decide) ?_
  refine g_istore_n (i := 1) dX10_twins_6 rfl (by decide) rfl ?_
  refine g_iconst (v := 0) dX10_twins_7 (by decide) ?_
  refine g_istore_n (i := 2) dX10_twins_8 rfl (by decide) rfl ?_
  refine P_X10_twins_9_ok E hL ?_
  · intro z17 w18 hL
    refine g_iload_n dX10_twins_93 rfl rfl ?_
    refine g_none 1 ?_
    obtain rfl := Option.some.inj hL
    exact g_iret rfl dX10_twins_94
def B_X10_image_28 (kh28 : Int32 → wS → Option (wS)) (ke52 : wS → Option (wS)) (x1 : Int32) (w : wS) : Option (wS) :=
  if 33 ≤ x1 then ke52  w else xB (xAld w 16 66 (x1)) fun v1 => xB (xAst w 29 33 (x1) (v1)) fun w2 => kh28 ((x1 + 1)) w2
set_option maxRecDepth 20000 in
theorem B_X10_image_28_ok {G : aG} {Hf : wS → aH} {b : Nat} {kh28 : Int32 → wS → Option (wS)} {ke52 : wS → Option (wS)} {x1 : Int32} {w : wS} {r : wS} (E : Emb Hf b 0 tbM) (hL : B_X10_image_28 kh28 ke52 x1 w = some r) (Hkh28 : ∀ (z0 : Int32) (w : wS), kh28 z0 w = some r → AG G M_X10_image 28 [some (.ref (b + 0)), some (.int (z0))] [] (Hf w) (.inl none, Hf r)) (Hke52 : ∀ (w : wS), ke52  w = some r → AG G M_X10_image 52 [some (.ref (b + 0)), none] [] (Hf w) (.inl none, Hf r)) : AG G M_X10_image 28 [some (.ref (b + 0)), some (.int (x1))] [] (Hf w) (.inl none, Hf r) := by
  unfold B_X10_image_28 at hL
  refine g_iload_n dX10_image_28 rfl rfl ?_
  refine g_bipush (v := 33) dX10_image_29 (by decide) ?_
  refine g_icmp_ge (tgt := 52) dX10_image_31 (by decide) (fun q3 => ?_) (fun q3 => ?_)
  · rw [if_pos q3] at hL
    refine g_none 1 ?_
    exact Hke52  _ hL
  · rw [if_neg q3] at hL
    refine g_aload_n dX10_image_34 rfl rfl ?_
    refine s_getR (j := 67) E rfl rfl f_X10_111 dX10_image_35 ?_
    refine g_iload_n dX10_image_38 rfl rfl ?_
    refine g_aload_n dX10_image_39 rfl rfl ?_
    refine s_getR (j := 41) E rfl rfl f_X10_69 dX10_image_40 ?_
    refine g_iload_n dX10_image_43 rfl rfl ?_
    refine s_iald (k := 16) E hL rfl dX10_image_44 ?_
    intro v1 hL
    refine s_iast (k := 29) E hL rfl dX10_image_45 ?_
    intro w2 hL
    refine g_iincV (v := (x1 + 1)) dX10_image_46 rfl rfl (by decide) rfl ?_
    refine g_goto (tgt := 28) dX10_image_49 (by decide) ?_
    exact Hkh28 _ _ hL
def P_X10_image_28 (ke52 : wS → Option (wS)) (n : Nat) (x1 : Int32) (w : wS) : Option (wS) :=
  xLoop (fun (kk : Int32 × wS → Option (wS)) σ => B_X10_image_28 (fun x1 w => kk (x1, w)) ke52 (σ.1) (σ.2)) n (x1, w)
theorem P_X10_image_28_ok {G : aG} {Hf : wS → aH} {b : Nat} {ke52 : wS → Option (wS)} {n : Nat} {x1 : Int32} {w : wS} {r : wS} (E : Emb Hf b 0 tbM) (hL : P_X10_image_28 ke52 n x1 w = some r) (Hke52 : ∀ (w : wS), ke52  w = some r → AG G M_X10_image 52 [some (.ref (b + 0)), none] [] (Hf w) (.inl none, Hf r)) : AG G M_X10_image 28 [some (.ref (b + 0)), some (.int (x1))] [] (Hf w) (.inl none, Hf r) :=
  xLoop_ok (Q := fun (σ : Int32 × wS) => AG G M_X10_image 28 [some (.ref (b + 0)), some (.int (σ.1))] [] (Hf σ.2) (.inl none, Hf r)) (fun kk hk σ hσ => B_X10_image_28_ok E hσ (fun x1 w h9 => hk (x1, w) h9) Hke52) n (x1, w) hL
def L_X10_image (w : wS) : Option (wS) :=
  xB (xPut w 0 (0)) fun w4 => xB (xPut w4 64 (1)) fun w5 => xB (xGet w5 43) fun v6 => xB (xPut w5 65 (v6)) fun w7 => xB (xGet w7 58) fun v8 => xB (xPut w7 66 (v8)) fun w9 => P_X10_image_28 (fun w10 => xB (xCopies 17 30 1320 w10) fun w11 => xB (xCopies 25 31 24 w11) fun w12 => some w12) 5000 (0) w9
set_option maxRecDepth 20000 in
theorem C_X10_image {G : aG} {Hf : wS → aH} {b : Nat} {w : wS} {r : wS} (E : Emb Hf b 0 tbM) (hL : L_X10_image  w = some r) : AC G M_X10_image [.ref (b + 0)] (Hf w) (.inl none, Hf r) := by
  unfold L_X10_image at hL
  refine AC.of (by decide) rfl (Nat.le_of_ble_eq_true rfl) ?_
  show AG G M_X10_image 0 [some (.ref (b + 0)), none] [] _ _
  refine g_aload_n dX10_image_0 rfl rfl ?_
  refine g_iconst (v := 0) dX10_image_1 (by decide) ?_
  refine s_putI (k := 0) (j := 0) E hL rfl rfl (by decide) fw_X10_120 rfl rfl dX10_image_2 ?_
  intro w4 hL
  refine g_aload_n dX10_image_5 rfl rfl ?_
  refine g_iconst (v := 1) dX10_image_6 (by decide) ?_
  refine s_putI (k := 0) (j := 64) E hL rfl rfl (by decide) fw_X10_294 rfl (by decide) dX10_image_7 ?_
  intro w5 hL
  refine g_aload_n dX10_image_10 rfl rfl ?_
  refine g_aload_n dX10_image_11 rfl rfl ?_
  refine s_getI (k := 0) (j := 43) E hL rfl rfl f_X10_288 dX10_image_12 ?_
  intro v6 hL
  refine s_putI (k := 0) (j := 65) E hL rfl rfl (by decide) fw_X10_431 rfl rfl dX10_image_15 ?_
  intro w7 hL
  refine g_aload_n dX10_image_18 rfl rfl ?_
  refine g_aload_n dX10_image_19 rfl rfl ?_
  refine s_getI (k := 0) (j := 58) E hL rfl rfl f_X10_291 dX10_image_20 ?_
  intro v8 hL
  refine s_putI (k := 0) (j := 66) E hL rfl rfl (by decide) fw_X10_434 rfl rfl dX10_image_23 ?_
  intro w9 hL
  refine g_iconst (v := 0) dX10_image_26 (by decide) ?_
  refine g_istore_n (i := 1) dX10_image_27 rfl (by decide) rfl ?_
  refine P_X10_image_28_ok E hL ?_
  · intro w10 hL
    refine g_aload_n dX10_image_52 rfl rfl ?_
    refine g_aload_n dX10_image_53 rfl rfl ?_
    refine s_getR (j := 42) E rfl rfl f_X10_72 dX10_image_54 ?_
    refine g_aload_n dX10_image_57 rfl rfl ?_
    refine s_getR (j := 68) E rfl rfl f_X10_114 dX10_image_58 ?_
    obtain ⟨w11, hc, hL⟩ := xB_some hL
    refine g_callV (M' := M_X10_copies) (as := [.ref (b + 17), .ref (b + 30)]) (v := none) l_X10_284 kV_X10_copies (by decide) (C_copies E (ka := 17) (kb := 30) (na := 1320) (nb := 1320) rfl rfl (by decide) hc) rfl (by have := E.1; omega) (E.2.1 _ 0 _ rfl) ⟨_, _, rfl⟩ (Nat.le_of_ble_eq_true rfl) dX10_image_61 ?_
    refine g_aload_n dX10_image_64 rfl rfl ?_
    refine g_aload_n dX10_image_65 rfl rfl ?_
    refine s_getR (j := 59) E rfl rfl f_X10_99 dX10_image_66 ?_
    refine g_aload_n dX10_image_69 rfl rfl ?_
    refine g_none 0 ?_
    refine s_getR (j := 69) E rfl rfl f_X10_117 dX10_image_70 ?_
    obtain ⟨w12, hc, hL⟩ := xB_some hL
    refine g_callV (M' := M_X10_copies) (as := [.ref (b + 25), .ref (b + 31)]) (v := none) l_X10_284 kV_X10_copies (by decide) (C_copies E (ka := 25) (kb := 31) (na := 24) (nb := 24) rfl rfl (by decide) hc) rfl (by have := E.1; omega) (E.2.1 _ 0 _ rfl) ⟨_, _, rfl⟩ (Nat.le_of_ble_eq_true rfl) dX10_image_73 ?_
    obtain rfl := Option.some.inj hL
    exact g_vret rfl dX10_image_76
def B_X10_restore_32 (kh32 : Int32 → wS → Option (Int32 × wS)) (ke56 : wS → Option (Int32 × wS)) (x1 : Int32) (w : wS) : Option (Int32 × wS) :=
  if 33 ≤ x1 then ke56  w else xB (xAld w 29 33 (x1)) fun v1 => xB (xAst w 16 66 (x1) (v1)) fun w2 => kh32 ((x1 + 1)) w2
set_option maxRecDepth 20000 in
theorem B_X10_restore_32_ok {G : aG} {Hf : wS → aH} {b : Nat} {kh32 : Int32 → wS → Option (Int32 × wS)} {ke56 : wS → Option (Int32 × wS)} {x1 : Int32} {w : wS} {r : Int32 × wS} (E : Emb Hf b 0 tbM) (hL : B_X10_restore_32 kh32 ke56 x1 w = some r) (Hkh32 : ∀ (z0 : Int32) (w : wS), kh32 z0 w = some r → AG G M_X10_restore 32 [some (.ref (b + 0)), some (.int (z0))] [] (Hf w) (.inl (some (.int r.1)), Hf r.2)) (Hke56 : ∀ (w : wS), ke56  w = some r → AG G M_X10_restore 56 [some (.ref (b + 0)), none] [] (Hf w) (.inl (some (.int r.1)), Hf r.2)) : AG G M_X10_restore 32 [some (.ref (b + 0)), some (.int (x1))] [] (Hf w) (.inl (some (.int r.1)), Hf r.2) := by
  unfold B_X10_restore_32 at hL
  refine g_iload_n dX10_restore_32 rfl rfl ?_
  refine g_bipush (v := 33) dX10_restore_33 (by decide) ?_
  refine g_icmp_ge (tgt := 56) dX10_restore_35 (by decide) (fun q3 => ?_) (fun q3 => ?_)
  · rw [if_pos q3] at hL
    refine g_none 1 ?_
    exact Hke56  _ hL
  · rw [if_neg q3] at hL
    refine g_aload_n dX10_restore_38 rfl rfl ?_
    refine s_getR (j := 41) E rfl rfl f_X10_69 dX10_restore_39 ?_
    refine g_iload_n dX10_restore_42 rfl rfl ?_
    refine g_aload_n dX10_restore_43 rfl rfl ?_
    refine s_getR (j := 67) E rfl rfl f_X10_111 dX10_restore_44 ?_
    refine g_iload_n dX10_restore_47 rfl rfl ?_
    refine s_iald (k := 29) E hL rfl dX10_restore_48 ?_
    intro v1 hL
    refine s_iast (k := 16) E hL rfl dX10_restore_49 ?_
    intro w2 hL
    refine g_iincV (v := (x1 + 1)) dX10_restore_50 rfl rfl (by decide) rfl ?_
    refine g_goto (tgt := 32) dX10_restore_53 (by decide) ?_
    exact Hkh32 _ _ hL
def P_X10_restore_32 (ke56 : wS → Option (Int32 × wS)) (n : Nat) (x1 : Int32) (w : wS) : Option (Int32 × wS) :=
  xLoop (fun (kk : Int32 × wS → Option (Int32 × wS)) σ => B_X10_restore_32 (fun x1 w => kk (x1, w)) ke56 (σ.1) (σ.2)) n (x1, w)
theorem P_X10_restore_32_ok {G : aG} {Hf : wS → aH} {b : Nat} {ke56 : wS → Option (Int32 × wS)} {n : Nat} {x1 : Int32} {w : wS} {r : Int32 × wS} (E : Emb Hf b 0 tbM) (hL : P_X10_restore_32 ke56 n x1 w = some r) (Hke56 : ∀ (w : wS), ke56  w = some r → AG G M_X10_restore 56 [some (.ref (b + 0)), none] [] (Hf w) (.inl (some (.int r.1)), Hf r.2)) : AG G M_X10_restore 32 [some (.ref (b + 0)), some (.int (x1))] [] (Hf w) (.inl (some (.int r.1)), Hf r.2) :=
  xLoop_ok (Q := fun (σ : Int32 × wS) => AG G M_X10_restore 32 [some (.ref (b + 0)), some (.int (σ.1))] [] (Hf σ.2) (.inl (some (.int r.1)), Hf r.2)) (fun kk hk σ hσ => B_X10_restore_32_ok E hσ (fun x1 w h9 => hk (x1, w) h9) Hke56) n (x1, w) hL
def L_X10_restore (w : wS) : Option (Int32 × wS) :=
  xB (xPut w 0 (0)) fun w4 => xB (xGet w4 64) fun v5 => if v5 = 0 then some (0, w4) else xB (xGet w4 65) fun v6 => xB (xPut w4 43 (v6)) fun w7 => xB (xGet w7 66) fun v8 => xB (xPut w7 58 (v8)) fun w9 => P_X10_restore_32 (fun w10 => xB (xCopies 30 17 1320 w10) fun w11 => xB (xCopies 31 25 24 w11) fun w12 => some (1, w12)) 5000 (0) w9
set_option maxRecDepth 20000 in
theorem C_X10_restore {G : aG} {Hf : wS → aH} {b : Nat} {w : wS} {r : Int32 × wS} (E : Emb Hf b 0 tbM) (hL : L_X10_restore  w = some r) : AC G M_X10_restore [.ref (b + 0)] (Hf w) (.inl (some (.int r.1)), Hf r.2) := by
  unfold L_X10_restore at hL
  refine AC.of (by decide) rfl (Nat.le_of_ble_eq_true rfl) ?_
  show AG G M_X10_restore 0 [some (.ref (b + 0)), none] [] _ _
  refine g_aload_n dX10_restore_0 rfl rfl ?_
  refine g_iconst (v := 0) dX10_restore_1 (by decide) ?_
  refine s_putI (k := 0) (j := 0) E hL rfl rfl (by decide) fw_X10_120 rfl rfl dX10_restore_2 ?_
  intro w4 hL
  refine g_aload_n dX10_restore_5 rfl rfl ?_
  refine s_getI (k := 0) (j := 64) E hL rfl rfl f_X10_294 dX10_restore_6 ?_
  intro v5 hL
  refine g_if_ne (tgt := 14) dX10_restore_9 (by decide) (fun q13 => ?_) (fun q13 => ?_)
  · rw [if_neg q13] at hL
    refine g_aload_n dX10_restore_14 rfl rfl ?_
    refine g_aload_n dX10_restore_15 rfl rfl ?_
    refine s_getI (k := 0) (j := 65) E hL rfl rfl f_X10_431 dX10_restore_16 ?_
    intro v6 hL
    refine s_putI (k := 0) (j := 43) E hL rfl rfl (by decide) fw_X10_288 rfl rfl dX10_restore_19 ?_
    intro w7 hL
    refine g_aload_n dX10_restore_22 rfl rfl ?_
    refine g_aload_n dX10_restore_23 rfl rfl ?_
    refine s_getI (k := 0) (j := 66) E hL rfl rfl f_X10_434 dX10_restore_24 ?_
    intro v8 hL
    refine s_putI (k := 0) (j := 58) E hL rfl rfl (by decide) fw_X10_291 rfl rfl dX10_restore_27 ?_
    intro w9 hL
    refine g_iconst (v := 0) dX10_restore_30 (by decide) ?_
    refine g_istore_n (i := 1) dX10_restore_31 rfl (by decide) rfl ?_
    refine P_X10_restore_32_ok E hL ?_
    · intro w10 hL
      refine g_aload_n dX10_restore_56 rfl rfl ?_
      refine g_aload_n dX10_restore_57 rfl rfl ?_
      refine s_getR (j := 68) E rfl rfl f_X10_114 dX10_restore_58 ?_
      refine g_aload_n dX10_restore_61 rfl rfl ?_
      refine s_getR (j := 42) E rfl rfl f_X10_72 dX10_restore_62 ?_
      obtain ⟨w11, hc, hL⟩ := xB_some hL
      refine g_callV (M' := M_X10_copies) (as := [.ref (b + 30), .ref (b + 17)]) (v := none) l_X10_284 kV_X10_copies (by decide) (C_copies E (ka := 30) (kb := 17) (na := 1320) (nb := 1320) rfl rfl (by decide) hc) rfl (by have := E.1; omega) (E.2.1 _ 0 _ rfl) ⟨_, _, rfl⟩ (Nat.le_of_ble_eq_true rfl) dX10_restore_65 ?_
      refine g_aload_n dX10_restore_68 rfl rfl ?_
      refine g_aload_n dX10_restore_69 rfl rfl ?_
      refine s_getR (j := 69) E rfl rfl f_X10_117 dX10_restore_70 ?_
      refine g_aload_n dX10_restore_73 rfl rfl ?_
      refine g_none 0 ?_
      refine s_getR (j := 59) E rfl rfl f_X10_99 dX10_restore_74 ?_
      obtain ⟨w12, hc, hL⟩ := xB_some hL
      refine g_callV (M' := M_X10_copies) (as := [.ref (b + 31), .ref (b + 25)]) (v := none) l_X10_284 kV_X10_copies (by decide) (C_copies E (ka := 31) (kb := 25) (na := 24) (nb := 24) rfl rfl (by decide) hc) rfl (by have := E.1; omega) (E.2.1 _ 0 _ rfl) ⟨_, _, rfl⟩ (Nat.le_of_ble_eq_true rfl) dX10_restore_77 ?_
      refine g_iconst (v := 1) dX10_restore_80 (by decide) ?_
      obtain rfl := Option.some.inj hL
      exact g_zret rfl (by decide) dX10_restore_81
  · rw [if_pos q13] at hL
    refine g_none 0 ?_
    refine g_iconst (v := 0) dX10_restore_12 (by decide) ?_
    obtain rfl := Option.some.inj hL
    exact g_zret rfl (by decide) dX10_restore_13
